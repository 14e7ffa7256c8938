/-- the weight of a part still to be ordered -/
def wt_ (s k : Int) : Int := 10 * (s * s) + 9 - k
/-- the pile: p parts, their sizes together s, their weights together w -/
def pp_ (T : Zt) (n : Int) : Nat → Int → Int → Prop
  | 0, s, w => s = 0 ∧ w = 0
  | p + 1, s, w => pp_ T n p (s - (T 286 0 (3 * (p : Int) + 1) - T 286 0 (3 * (p : Int)))) (w - wt_ (T 286 0 (3 * (p : Int) + 1) - T 286 0 (3 * (p : Int))) (T 286 0 (3 * (p : Int) + 2))) ∧
      (0 ≤ T 286 0 (3 * (p : Int)) ∧ T 286 0 (3 * (p : Int)) ≤ T 286 0 (3 * (p : Int) + 1) ∧ (T 286 0 (3 * (p : Int)) < T 286 0 (3 * (p : Int) + 1) ∨ p = 0) ∧ T 286 0 (3 * (p : Int) + 1) ≤ n ∧ 0 ≤ T 286 0 (3 * (p : Int) + 2) ∧ T 286 0 (3 * (p : Int) + 2) ≤ 8)
theorem pp_e {T T' : Zt} {n : Int} : ∀ {p : Nat} {s w : Int}, pp_ T n p s w → (∀ j, j < 3 * (p : Int) → T' 286 0 j = T 286 0 j) → pp_ T' n p s w
  | 0, _, _, h, _ => h
  | p + 1, _, _, h, e => by
      unfold pp_
      rw [e (3 * (p : Int)) (by omega), e (3 * (p : Int) + 1) (by omega), e (3 * (p : Int) + 2) (by omega)]
      exact ⟨pp_e h.1 (fun j hj => e j (by omega)), h.2⟩
theorem pp_s {T T' : Zt} {n a b c : Int} {p : Nat} {s w : Int} (h : pp_ T n p s w) (e : ∀ j, j < 3 * (p : Int) → T' 286 0 j = T 286 0 j) (e1 : T' 286 0 (3 * (p : Int)) = a) (e2 : T' 286 0 (3 * (p : Int) + 1) = b) (e3 : T' 286 0 (3 * (p : Int) + 2) = c) (hb : 0 ≤ a ∧ a ≤ b ∧ (a < b ∨ p = 0) ∧ b ≤ n ∧ 0 ≤ c ∧ c ≤ 8) : pp_ T' n (p + 1) (s + (b - a)) (w + wt_ (b - a) c) := by
  unfold pp_
  rw [e1, e2, e3]
  refine ⟨?_, hb⟩
  rw [show s + (b - a) - (b - a) = s by omega, show w + wt_ (b - a) c - wt_ (b - a) c = w by omega]
  exact pp_e h e
theorem wt_1 {s k : Int} (h : k ≤ 8) : 1 ≤ wt_ s k := by
  have : 0 ≤ s * s := by
    rcases Int.le_total 0 s with z | z
    · exact Int.mul_nonneg z z
    · exact Int.mul_nonneg_of_nonpos_of_nonpos z z
  unfold wt_; omega
theorem pp_n {T : Zt} {n : Int} : ∀ {p : Nat} {s w : Int}, pp_ T n p s w → 0 ≤ s ∧ (p : Int) ≤ w ∧ (p : Int) ≤ s + 1
  | 0, _, _, h => by obtain ⟨rfl, rfl⟩ := h; exact ⟨by decide, by decide, by decide⟩
  | p + 1, s, w, h => by
      have i := pp_n h.1
      have k := wt_1 (s := T 286 0 (3 * (p : Int) + 1) - T 286 0 (3 * (p : Int))) h.2.2.2.2.2.2
      have g := h.2
      omega
/-- two parts weigh less than one -/
theorem wt_2 {x s : Int} (hx : 1 ≤ x) (hs : 1 ≤ s) : 10 * (x * x) + 10 * (s * s) + 20 ≤ 10 * ((x + s) * (x + s)) := by
  have p : 1 ≤ x * s := Int.mul_pos hx hs
  have e : (x + s) * (x + s) = x * x + x * s + (x * s + s * s) := by
    rw [Int.add_mul, Int.mul_add, Int.mul_add, Int.mul_comm s x]
  omega
theorem or_b {x y : Int} (hx : 0 ≤ x ∧ x ≤ 4095) (hy : 0 ≤ y ∧ y ≤ 4095) : 0 ≤ or_ x y ∧ or_ x y ≤ 4095 := by
  have ex : (Int32.ofInt x).toBitVec.toNat = x.toNat := by
    show (BitVec.ofInt 32 x).toNat = x.toNat
    rw [BitVec.toNat_ofInt]; omega
  have ey : (Int32.ofInt y).toBitVec.toNat = y.toNat := by
    show (BitVec.ofInt 32 y).toNat = y.toNat
    rw [BitVec.toNat_ofInt]; omega
  have h : ((Int32.ofInt x).toBitVec ||| (Int32.ofInt y).toBitVec).toNat < 2 ^ 12 := by
    rw [BitVec.toNat_or, ex, ey]
    exact Nat.or_lt_two_pow (by omega) (by omega)
  show 0 ≤ ((Int32.ofInt x).toBitVec ||| (Int32.ofInt y).toBitVec).toInt ∧ ((Int32.ofInt x).toBitVec ||| (Int32.ofInt y).toBitVec).toInt ≤ 4095
  rw [BitVec.toInt_eq_toNat_cond]
  split <;> omega
theorem sl_b {c : Int} (h : 0 ≤ c ∧ c ≤ 11) : 0 ≤ sl_ 1 c ∧ sl_ 1 c ≤ 4095 := by
  rcases (by omega : c = 0 ∨ c = 1 ∨ c = 2 ∨ c = 3 ∨ c = 4 ∨ c = 5 ∨ c = 6 ∨ c = 7 ∨ c = 8 ∨ c = 9 ∨ c = 10 ∨ c = 11) with rfl | rfl | rfl | rfl | rfl | rfl | rfl | rfl | rfl | rfl | rfl | rfl <;> decide
/-- the pile with its bottom hidden -/
def PQ_ (T : Zt) (n s w : Int) : Prop := ∃ (p : Nat) (w' : Int), T 111 0 87 = 3 * (p : Int) ∧ pp_ T n p s w' ∧ w' ≤ w
/-- one part is taken from the pile -/
theorem pq_p {T U : Zt} {n s w : Int} (h : PQ_ T n s w) (g : 0 < T 111 0 87) (e : ∀ j, U 286 0 j = T 286 0 j) (e2 : U 111 0 87 = T 111 0 87 - 3) :
    PQ_ U n (s - (T 286 0 (T 111 0 87 - 3 + 1) - T 286 0 (T 111 0 87 - 3))) (w - wt_ (T 286 0 (T 111 0 87 - 3 + 1) - T 286 0 (T 111 0 87 - 3)) (T 286 0 (T 111 0 87 - 3 + 2))) ∧
    (0 ≤ T 286 0 (T 111 0 87 - 3) ∧ T 286 0 (T 111 0 87 - 3) ≤ T 286 0 (T 111 0 87 - 3 + 1) ∧ T 286 0 (T 111 0 87 - 3 + 1) ≤ n ∧ 0 ≤ T 286 0 (T 111 0 87 - 3 + 2) ∧ T 286 0 (T 111 0 87 - 3 + 2) ≤ 8) ∧
    1 ≤ wt_ (T 286 0 (T 111 0 87 - 3 + 1) - T 286 0 (T 111 0 87 - 3)) (T 286 0 (T 111 0 87 - 3 + 2)) ∧ 0 ≤ w - wt_ (T 286 0 (T 111 0 87 - 3 + 1) - T 286 0 (T 111 0 87 - 3)) (T 286 0 (T 111 0 87 - 3 + 2)) ∧ 0 ≤ s - (T 286 0 (T 111 0 87 - 3 + 1) - T 286 0 (T 111 0 87 - 3)) ∧ 3 ≤ T 111 0 87 ∧ T 111 0 87 ≤ 3 * (s + 1) := by
  obtain ⟨p, w', a, b, c⟩ := h
  cases p with
  | zero => omega
  | succ p =>
    have q0 := pp_n b
    rw [show T 111 0 87 - 3 = 3 * (p : Int) by omega]
    have q := pp_n b.1
    have hb := b.2
    have k1 := wt_1 (s := T 286 0 (3 * (p : Int) + 1) - T 286 0 (3 * (p : Int))) hb.2.2.2.2.2
    exact ⟨⟨p, _, by omega, pp_e b.1 (fun j _ => e j), by omega⟩, ⟨hb.1, hb.2.1, hb.2.2.2.1, hb.2.2.2.2.1, hb.2.2.2.2.2⟩, k1, by omega, by omega, by omega, by omega⟩
theorem pp_l {T T3 U : Zt} {n a b q s w2 : Int} {p : Nat} (h : pp_ T n p s w2) (h87 : T 111 0 87 = 3 * (p : Int)) (g : ∀ j, T3 286 0 j = T 286 0 j) (g87 : T3 111 0 87 = T 111 0 87)
    (po : U 111 0 87 = T3 111 0 87 + 3 ∧ U 286 0 (T3 111 0 87) = a ∧ U 286 0 (T3 111 0 87 + 1) = b ∧ U 286 0 (T3 111 0 87 + 2) = q ∧ ∀ j, j < T3 111 0 87 → U 286 0 j = T3 286 0 j)
    (hb : 0 ≤ a ∧ a ≤ b ∧ (a < b ∨ p = 0) ∧ b ≤ n ∧ 0 ≤ q ∧ q ≤ 8) : pp_ U n (p + 1) (s + (b - a)) (w2 + wt_ (b - a) q) := by
  rw [g87, h87] at po
  exact pp_s h (fun j hj => (po.2.2.2.2 j hj).trans (g j)) po.2.1 po.2.2.1 po.2.2.2.1 hb
/-- how far the laying of the parts of [f, t) is -/
def ST_ (A : Prop) (f t k w st w2 : Int) : Prop := (st = f ∧ w2 ≤ w ∧ A) ∨ (f < st ∧ st < t ∧ w2 ≤ w + 10 * ((st - f) * (st - f)) + 9) ∨ (st = t ∧ f < t ∧ w2 ≤ w + wt_ (t - f) k - 1)
theorem st_l {A A' : Prop} {f t k w st w2 i q : Int} (h : ST_ A f t k w st w2) (hk : 0 ≤ k ∧ k ≤ 7) (hq : 0 ≤ q) (hi : f ≤ st ∧ st < i ∧ i ≤ t) (ha : A → i = t → q = k + 1) : ST_ A' f t k w i (w2 + wt_ (i - st) q) := by
  rcases h with ⟨rfl, h2, hA⟩ | ⟨h1, h2, h3⟩ | ⟨h1, _⟩
  · by_cases z : i = t
    · subst z
      have := ha hA rfl
      subst this
      exact Or.inr (Or.inr ⟨rfl, hi.2.1, by unfold wt_; omega⟩)
    · exact Or.inr (Or.inl ⟨hi.2.1, by omega, by unfold wt_; omega⟩)
  · have p := wt_2 (x := st - f) (s := i - st) (by omega) (by omega)
    rw [show st - f + (i - st) = i - f by omega] at p
    by_cases z : i = t
    · subst z
      exact Or.inr (Or.inr ⟨rfl, by omega, by unfold wt_; omega⟩)
    · exact Or.inr (Or.inl ⟨by omega, by omega, by unfold wt_; omega⟩)
  · omega
theorem st_a {A A' : Prop} {f t k w st w2 : Int} (h : ST_ A f t k w st w2) (g : A → A') : ST_ A' f t k w st w2 := by
  rcases h with ⟨a, b, c⟩ | h | h
  · exact Or.inl ⟨a, b, g c⟩
  · exact Or.inr (Or.inl h)
  · exact Or.inr (Or.inr h)
theorem st_z {A : Prop} {f t k w w2 : Int} (h : ST_ A f t k w t w2) (z : f < t) : w2 ≤ w + wt_ (t - f) k - 1 := by
  rcases h with ⟨a, _⟩ | ⟨_, a, _⟩ | ⟨_, _, a⟩
  · omega
  · omega
  · exact a

theorem EQ_e {T T1 : Zt} {a b i : Int} (e : ∀ j, T1 284 0 j = T 284 0 j) (h : EQ_ T1 a b i) : EQ_ T a b i := fun j p q => by
  have := h j p q
  rw [e, e] at this
  exact this
theorem oc_f {T T1 : Zt} {n v : Int} (h : OC_ T n v) (e : ∀ j, T1 277 0 j = T 277 0 j) : OC_ T1 n v := by
  obtain ⟨j, a, b, c⟩ := h
  exact ⟨j, a, b, (e j).trans c⟩
abbrev cX11_orderPart : ByteArray := prog_13_method_92_code
def yX11_orderPart : MethodName := ⟨RX11, "orderPart", "(IIIII)V"⟩
def zX11_orderPart : Zm := (RX11, cX11_orderPart, 10, none, { frames := 3, cells := 0, slots := 0, locals := 74 })
set_option maxRecDepth 100000 in
theorem cl_X11_520 : cv_ RX11 520 yX11_lay zX11_lay 11 3 := ⟨gi_V (lwq_9 (dqc_m (dqc_m (dqc_m (dqc_m (dqc_m (dqa_m (dqa_m (List.mem_of_getElem? (i := 6) rfl)))))))) rfl : Cond.methodLink RX11 520 yX11_lay ∈ lw_g) (lwq_9 (dqc_m (dqc_m (dqc_m (dqc_m (dqc_m (dqa_m (dqa_m (dqa_m (List.mem_of_getElem? (i := 0) rfl))))))))) rfl : Cond.instanceMethod yX11_lay ∈ lw_g) (lw_sel 30 rfl : Cond.selects yX11_lay.cls yX11_lay yX11_lay ∈ lw_g) (lwq_1 (dqa_m (List.mem_of_getElem? (i := 2) rfl)) rfl : Cond.initialized yX11_lay.cls ∈ lw_g) (lwq_9 (dqc_m (dqc_m (dqc_m (dqc_m (dqc_m (dqa_m (dqa_m (dqa_m (List.mem_of_getElem? (i := 1) rfl))))))))) rfl : Cond.code yX11_lay cX11_lay 4 none ∈ lw_g), ⟨nmh_1.1, nmh_1.2, pdq_3⟩, ⟨_, _, rfl⟩⟩
theorem bk_X11_orderPart_193 : ck_ fX11 none cX11_orderPart 193 [.iload 8, .istore 6, .iinc 8 1, .goto 91] 203 = true := qck_r (nn_ _) (by decide +kernel)
theorem bs_X11_orderPart_193 {P : Zt → Option Zv → Prop} (K : Int → Zl → List Zv → Zt → Prop) : sx_ K P [.iload 8, .istore 6, .iinc 8 1, .goto 91] 203 = x_iload 8 (x_istore 6 (x_iinc 8 1 (x_goto 91 K))) := ((xe_iload 8).trans (congrArg (x_iload 8) ((xe_istore 6).trans (congrArg (x_istore 6) ((xe_iinc 8 1).trans (congrArg (x_iinc 8 1) (xe_goto 91)))))))
theorem bk_X11_orderPart_158 : ck_ fX11 none cX11_orderPart 158 [.iload 9, .ifCond .eq 197, .aload 0, .iload 6, .iload 8, .iload 7, .ifCond .ne 182, .aload 0, .iload 1, .iconst 5] 176 = true := qck_r (nn_ _) (by decide +kernel)
theorem bs_X11_orderPart_158 {P : Zt → Option Zv → Prop} (K : Int → Zl → List Zv → Zt → Prop) : sx_ K P [.iload 9, .ifCond .eq 197, .aload 0, .iload 6, .iload 8, .iload 7, .ifCond .ne 182, .aload 0, .iload 1, .iconst 5] 176 = x_iload 9 (x_ifCond .eq 197 K (x_aload 0 (x_iload 6 (x_iload 8 (x_iload 7 (x_ifCond .ne 182 K (x_aload 0 (x_iload 1 (x_iconst 5 (K 176)))))))))) := ((xe_iload 9).trans (congrArg (x_iload 9) ((xe_ifCond .eq 197).trans (congrArg (x_ifCond .eq 197 K) ((xe_aload 0).trans (congrArg (x_aload 0) ((xe_iload 6).trans (congrArg (x_iload 6) ((xe_iload 8).trans (congrArg (x_iload 8) ((xe_iload 7).trans (congrArg (x_iload 7) ((xe_ifCond .ne 182).trans (congrArg (x_ifCond .ne 182 K) ((xe_aload 0).trans (congrArg (x_aload 0) ((xe_iload 1).trans (congrArg (x_iload 1) ((xe_iconst 5).trans (congrArg (x_iconst 5) xe_nil))))))))))))))))))))
theorem bk_X11_orderPart_197 : ck_ fX11 none cX11_orderPart 197 [.iinc 8 1, .goto 91] 203 = true := qck_r (nn_ _) (by decide +kernel)
theorem bs_X11_orderPart_197 {P : Zt → Option Zv → Prop} (K : Int → Zl → List Zv → Zt → Prop) : sx_ K P [.iinc 8 1, .goto 91] 203 = x_iinc 8 1 (x_goto 91 K) := ((xe_iinc 8 1).trans (congrArg (x_iinc 8 1) (xe_goto 91)))
theorem bk_X11_orderPart_182 : ck_ fX11 none cX11_orderPart 182 [.iload 5, .iconst 1, .iadd, .goto 190] 189 = true := qck_r (nn_ _) (by decide +kernel)
theorem bs_X11_orderPart_182 {P : Zt → Option Zv → Prop} (K : Int → Zl → List Zv → Zt → Prop) : sx_ K P [.iload 5, .iconst 1, .iadd, .goto 190] 189 = x_iload 5 (x_iconst 1 (x_iadd (x_goto 190 K))) := ((xe_iload 5).trans (congrArg (x_iload 5) ((xe_iconst 1).trans (congrArg (x_iconst 1) ((xe_iadd).trans (congrArg (x_iadd) (xe_goto 190)))))))
theorem bk_X11_orderPart_179 : ck_ fX11 none cX11_orderPart 179 [.ifCond .ne 189, .iload 5, .iconst 1, .iadd, .goto 190] 189 = true := qck_r (nn_ _) (by decide +kernel)
theorem bs_X11_orderPart_179 {P : Zt → Option Zv → Prop} (K : Int → Zl → List Zv → Zt → Prop) : sx_ K P [.ifCond .ne 189, .iload 5, .iconst 1, .iadd, .goto 190] 189 = x_ifCond .ne 189 K (x_iload 5 (x_iconst 1 (x_iadd (x_goto 190 K)))) := ((xe_ifCond .ne 189).trans (congrArg (x_ifCond .ne 189 K) ((xe_iload 5).trans (congrArg (x_iload 5) ((xe_iconst 1).trans (congrArg (x_iconst 1) ((xe_iadd).trans (congrArg (x_iadd) (xe_goto 190)))))))))
theorem bk_X11_orderPart_189 : ck_ fX11 none cX11_orderPart 189 [.iconst 0] 190 = true := qck_r (nn_ _) (by decide +kernel)
theorem bs_X11_orderPart_189 {P : Zt → Option Zv → Prop} (K : Int → Zl → List Zv → Zt → Prop) : sx_ K P [.iconst 0] 190 = x_iconst 0 (K 190) := ((xe_iconst 0).trans (congrArg (x_iconst 0) xe_nil))
theorem bk_X11_orderPart_91 : ck_ fX11 none cX11_orderPart 91 [.iload 8, .iload 4, .if_icmp .gt 203, .iload 8, .iload 4, .if_icmp .eq 128, .aload 0, .aload 0, .tableswitch 0 11 77 #[], .iload 8, .iconst 1, .isub, .iaload, .aload 0, .tableswitch 0 11 77 #[], .iload 8, .iaload] 122 = true := qck_r (nn_ _) (by decide +kernel)
theorem bs_X11_orderPart_91 {P : Zt → Option Zv → Prop} (K : Int → Zl → List Zv → Zt → Prop) : sx_ K P [.iload 8, .iload 4, .if_icmp .gt 203, .iload 8, .iload 4, .if_icmp .eq 128, .aload 0, .aload 0, .tableswitch 0 11 77 #[], .iload 8, .iconst 1, .isub, .iaload, .aload 0, .tableswitch 0 11 77 #[], .iload 8, .iaload] 122 = x_iload 8 (x_iload 4 (x_if_icmp .gt 203 K (x_iload 8 (x_iload 4 (x_if_icmp .eq 128 K (x_aload 0 (x_aload 0 (x_g1 111 277 (x_iload 8 (x_iconst 1 (x_isub (x_iaload (x_aload 0 (x_g1 111 277 (x_iload 8 (x_iaload (K 122))))))))))))))))) := ((xe_iload 8).trans (congrArg (x_iload 8) ((xe_iload 4).trans (congrArg (x_iload 4) ((xe_if_icmp .gt 203).trans (congrArg (x_if_icmp .gt 203 K) ((xe_iload 8).trans (congrArg (x_iload 8) ((xe_iload 4).trans (congrArg (x_iload 4) ((xe_if_icmp .eq 128).trans (congrArg (x_if_icmp .eq 128 K) ((xe_aload 0).trans (congrArg (x_aload 0) ((xe_aload 0).trans (congrArg (x_aload 0) ((xe_g1 (kk := 111) rfl tl_11_77).trans (congrArg (x_g1 111 277) ((xe_iload 8).trans (congrArg (x_iload 8) ((xe_iconst 1).trans (congrArg (x_iconst 1) ((xe_isub).trans (congrArg (x_isub) ((xe_iaload).trans (congrArg (x_iaload) ((xe_aload 0).trans (congrArg (x_aload 0) ((xe_g1 (kk := 111) rfl tl_11_77).trans (congrArg (x_g1 111 277) ((xe_iload 8).trans (congrArg (x_iload 8) ((xe_iaload).trans (congrArg (x_iaload) xe_nil))))))))))))))))))))))))))))))))))
theorem bk_X11_orderPart_203 : ck_ fX11 none cX11_orderPart 203 [.return_] 204 = true := qck_r (nn_ _) (by decide +kernel)
theorem bs_X11_orderPart_203 {P : Zt → Option Zv → Prop} (K : Int → Zl → List Zv → Zt → Prop) : sx_ K P [.return_] 204 = x_return_ P := (xe_return_)
theorem bk_X11_orderPart_128 : ck_ fX11 none cX11_orderPart 128 [.iconst 1, .goto 133] 132 = true := qck_r (nn_ _) (by decide +kernel)
theorem bs_X11_orderPart_128 {P : Zt → Option Zv → Prop} (K : Int → Zl → List Zv → Zt → Prop) : sx_ K P [.iconst 1, .goto 133] 132 = x_iconst 1 (x_goto 133 K) := ((xe_iconst 1).trans (congrArg (x_iconst 1) (xe_goto 133)))
theorem bk_X11_orderPart_133 : ck_ fX11 none cX11_orderPart 133 [.istore 9, .iload 9, .ifCond .eq 158, .iload 8, .iload 4, .if_icmp .ge 158, .aload 0, .tableswitch 0 11 78 #[], .iload 8, .iconst 1, .isub, .iload 5, .iastore] 158 = true := qck_r (nn_ _) (by decide +kernel)
theorem bs_X11_orderPart_133 {P : Zt → Option Zv → Prop} (K : Int → Zl → List Zv → Zt → Prop) : sx_ K P [.istore 9, .iload 9, .ifCond .eq 158, .iload 8, .iload 4, .if_icmp .ge 158, .aload 0, .tableswitch 0 11 78 #[], .iload 8, .iconst 1, .isub, .iload 5, .iastore] 158 = x_istore 9 (x_iload 9 (x_ifCond .eq 158 K (x_iload 8 (x_iload 4 (x_if_icmp .ge 158 K (x_aload 0 (x_g1 111 278 (x_iload 8 (x_iconst 1 (x_isub (x_iload 5 (x_iastore (K 158))))))))))))) := ((xe_istore 9).trans (congrArg (x_istore 9) ((xe_iload 9).trans (congrArg (x_iload 9) ((xe_ifCond .eq 158).trans (congrArg (x_ifCond .eq 158 K) ((xe_iload 8).trans (congrArg (x_iload 8) ((xe_iload 4).trans (congrArg (x_iload 4) ((xe_if_icmp .ge 158).trans (congrArg (x_if_icmp .ge 158 K) ((xe_aload 0).trans (congrArg (x_aload 0) ((xe_g1 (kk := 111) rfl tl_11_78).trans (congrArg (x_g1 111 278) ((xe_iload 8).trans (congrArg (x_iload 8) ((xe_iconst 1).trans (congrArg (x_iconst 1) ((xe_isub).trans (congrArg (x_isub) ((xe_iload 5).trans (congrArg (x_iload 5) ((xe_iastore).trans (congrArg (x_iastore) xe_nil))))))))))))))))))))))))))
theorem bk_X11_orderPart_125 : ck_ fX11 none cX11_orderPart 125 [.ifCond .eq 132, .iconst 1, .goto 133] 132 = true := qck_r (nn_ _) (by decide +kernel)
theorem bs_X11_orderPart_125 {P : Zt → Option Zv → Prop} (K : Int → Zl → List Zv → Zt → Prop) : sx_ K P [.ifCond .eq 132, .iconst 1, .goto 133] 132 = x_ifCond .eq 132 K (x_iconst 1 (x_goto 133 K)) := ((xe_ifCond .eq 132).trans (congrArg (x_ifCond .eq 132 K) ((xe_iconst 1).trans (congrArg (x_iconst 1) (xe_goto 133)))))
theorem bk_X11_orderPart_132 : ck_ fX11 none cX11_orderPart 132 [.iconst 0, .istore 9, .iload 9, .ifCond .eq 158, .iload 8, .iload 4, .if_icmp .ge 158, .aload 0, .tableswitch 0 11 78 #[], .iload 8, .iconst 1, .isub, .iload 5, .iastore] 158 = true := qck_r (nn_ _) (by decide +kernel)
theorem bs_X11_orderPart_132 {P : Zt → Option Zv → Prop} (K : Int → Zl → List Zv → Zt → Prop) : sx_ K P [.iconst 0, .istore 9, .iload 9, .ifCond .eq 158, .iload 8, .iload 4, .if_icmp .ge 158, .aload 0, .tableswitch 0 11 78 #[], .iload 8, .iconst 1, .isub, .iload 5, .iastore] 158 = x_iconst 0 (x_istore 9 (x_iload 9 (x_ifCond .eq 158 K (x_iload 8 (x_iload 4 (x_if_icmp .ge 158 K (x_aload 0 (x_g1 111 278 (x_iload 8 (x_iconst 1 (x_isub (x_iload 5 (x_iastore (K 158)))))))))))))) := ((xe_iconst 0).trans (congrArg (x_iconst 0) ((xe_istore 9).trans (congrArg (x_istore 9) ((xe_iload 9).trans (congrArg (x_iload 9) ((xe_ifCond .eq 158).trans (congrArg (x_ifCond .eq 158 K) ((xe_iload 8).trans (congrArg (x_iload 8) ((xe_iload 4).trans (congrArg (x_iload 4) ((xe_if_icmp .ge 158).trans (congrArg (x_if_icmp .ge 158 K) ((xe_aload 0).trans (congrArg (x_aload 0) ((xe_g1 (kk := 111) rfl tl_11_78).trans (congrArg (x_g1 111 278) ((xe_iload 8).trans (congrArg (x_iload 8) ((xe_iconst 1).trans (congrArg (x_iconst 1) ((xe_isub).trans (congrArg (x_isub) ((xe_iload 5).trans (congrArg (x_iload 5) ((xe_iastore).trans (congrArg (x_iastore) xe_nil))))))))))))))))))))))))))))
theorem bk_X11_orderPart_84 : ck_ fX11 none cX11_orderPart 84 [.istore 7, .iload 3, .iconst 1, .iadd, .istore 8] 91 = true := qck_r (nn_ _) (by decide +kernel)
theorem bs_X11_orderPart_84 {P : Zt → Option Zv → Prop} (K : Int → Zl → List Zv → Zt → Prop) : sx_ K P [.istore 7, .iload 3, .iconst 1, .iadd, .istore 8] 91 = x_istore 7 (x_iload 3 (x_iconst 1 (x_iadd (x_istore 8 (K 91))))) := ((xe_istore 7).trans (congrArg (x_istore 7) ((xe_iload 3).trans (congrArg (x_iload 3) ((xe_iconst 1).trans (congrArg (x_iconst 1) ((xe_iadd).trans (congrArg (x_iadd) ((xe_istore 8).trans (congrArg (x_istore 8) xe_nil))))))))))
theorem bk_X11_orderPart_8 : ck_ fX11 none cX11_orderPart 8 [.iload 6, .iload 4, .if_icmp .ge 39, .aload 0, .aload 0, .tableswitch 0 11 85 #[], .iconst 1, .aload 0, .tableswitch 0 11 77 #[], .iload 6, .iaload, .ishl, .ior, .tableswitch 1 11 85 #[], .iinc 6 1, .goto 8] 39 = true := qck_r (nn_ _) (by decide +kernel)
theorem bs_X11_orderPart_8 {P : Zt → Option Zv → Prop} (K : Int → Zl → List Zv → Zt → Prop) : sx_ K P [.iload 6, .iload 4, .if_icmp .ge 39, .aload 0, .aload 0, .tableswitch 0 11 85 #[], .iconst 1, .aload 0, .tableswitch 0 11 77 #[], .iload 6, .iaload, .ishl, .ior, .tableswitch 1 11 85 #[], .iinc 6 1, .goto 8] 39 = x_iload 6 (x_iload 4 (x_if_icmp .ge 39 K (x_aload 0 (x_aload 0 (x_g0 111 85 0 4095 (x_iconst 1 (x_aload 0 (x_g1 111 277 (x_iload 6 (x_iaload (x_ishl (x_ior (x_p 111 85 0 4095 (x_iinc 6 1 (x_goto 8 K))))))))))))))) := ((xe_iload 6).trans (congrArg (x_iload 6) ((xe_iload 4).trans (congrArg (x_iload 4) ((xe_if_icmp .ge 39).trans (congrArg (x_if_icmp .ge 39 K) ((xe_aload 0).trans (congrArg (x_aload 0) ((xe_aload 0).trans (congrArg (x_aload 0) ((xe_g0 (kk := 111) rfl tl_11_85).trans (congrArg (x_g0 111 85 0 4095) ((xe_iconst 1).trans (congrArg (x_iconst 1) ((xe_aload 0).trans (congrArg (x_aload 0) ((xe_g1 (kk := 111) rfl tl_11_77).trans (congrArg (x_g1 111 277) ((xe_iload 6).trans (congrArg (x_iload 6) ((xe_iaload).trans (congrArg (x_iaload) ((xe_ishl).trans (congrArg (x_ishl) ((xe_ior).trans (congrArg (x_ior) ((xe_p (kk := 111) rfl tl_11_85).trans (congrArg (x_p 111 85 0 4095) ((xe_iinc 6 1).trans (congrArg (x_iinc 6 1) (xe_goto 8)))))))))))))))))))))))))))))))
theorem bk_X11_orderPart_39 : ck_ fX11 none cX11_orderPart 39 [.aload 0, .iload 1, .iload 2, .iload 5] 44 = true := qck_r (nn_ _) (by decide +kernel)
theorem bs_X11_orderPart_39 {P : Zt → Option Zv → Prop} (K : Int → Zl → List Zv → Zt → Prop) : sx_ K P [.aload 0, .iload 1, .iload 2, .iload 5] 44 = x_aload 0 (x_iload 1 (x_iload 2 (x_iload 5 (K 44)))) := ((xe_aload 0).trans (congrArg (x_aload 0) ((xe_iload 1).trans (congrArg (x_iload 1) ((xe_iload 2).trans (congrArg (x_iload 2) ((xe_iload 5).trans (congrArg (x_iload 5) xe_nil))))))))
set_option maxRecDepth 100000 in
theorem cl_X11_526 : cv_ RX11 526 yX11_say zX11_say 11 3 := ⟨gi_V (lwq_9 (dqc_m (dqc_m (dqc_m (dqc_m (dqc_m (dqa_m (dqa_m (dqa_m (List.mem_of_getElem? (i := 6) rfl))))))))) rfl : Cond.methodLink RX11 526 yX11_say ∈ lw_g) (lwq_9 (dqc_m (dqc_m (dqc_m (dqc_m (dqc_m (dqc_m (List.mem_of_getElem? (i := 0) rfl))))))) rfl : Cond.instanceMethod yX11_say ∈ lw_g) (lw_sel 60 rfl : Cond.selects yX11_say.cls yX11_say yX11_say ∈ lw_g) (lwq_1 (dqa_m (List.mem_of_getElem? (i := 2) rfl)) rfl : Cond.initialized yX11_say.cls ∈ lw_g) (lwq_9 (dqc_m (dqc_m (dqc_m (dqc_m (dqc_m (dqc_m (List.mem_of_getElem? (i := 1) rfl))))))) rfl : Cond.code yX11_say cX11_say 7 none ∈ lw_g), ⟨nmh_1.1, nmh_1.2, pdq_3⟩, ⟨_, _, rfl⟩⟩
theorem bk_X11_orderPart_47 : ck_ fX11 none cX11_orderPart 47 [.aload 0, .iload 3, .iload 4] 51 = true := qck_r (nn_ _) (by decide +kernel)
theorem bs_X11_orderPart_47 {P : Zt → Option Zv → Prop} (K : Int → Zl → List Zv → Zt → Prop) : sx_ K P [.aload 0, .iload 3, .iload 4] 51 = x_aload 0 (x_iload 3 (x_iload 4 (K 51))) := ((xe_aload 0).trans (congrArg (x_aload 0) ((xe_iload 3).trans (congrArg (x_iload 3) ((xe_iload 4).trans (congrArg (x_iload 4) xe_nil))))))
set_option maxRecDepth 100000 in
theorem cl_X11_529 : cv_ RX11 529 yX11_sortPart zX11_sortPart 11 2 := ⟨gi_V (lwq_9 (dqc_m (dqc_m (dqc_m (dqc_m (dqc_m (dqc_m (dqa_m (List.mem_of_getElem? (i := 4) rfl)))))))) rfl : Cond.methodLink RX11 529 yX11_sortPart ∈ lw_g) (lwq_9 (dqc_m (dqc_m (dqc_m (dqc_m (dqc_m (dqc_m (dqa_m (List.mem_of_getElem? (i := 6) rfl)))))))) rfl : Cond.instanceMethod yX11_sortPart ∈ lw_g) (lw_sel 68 rfl : Cond.selects yX11_sortPart.cls yX11_sortPart yX11_sortPart ∈ lw_g) (lwq_1 (dqa_m (List.mem_of_getElem? (i := 2) rfl)) rfl : Cond.initialized yX11_sortPart.cls ∈ lw_g) (lwq_9 (dqc_m (dqc_m (dqc_m (dqc_m (dqc_m (dqc_m (dqa_m (List.mem_of_getElem? (i := 7) rfl)))))))) rfl : Cond.code yX11_sortPart cX11_sortPart 6 none ∈ lw_g), ⟨nmh_1.1, nmh_1.2, pdq_0⟩, ⟨_, _, rfl⟩⟩
theorem bk_X11_orderPart_54 : ck_ fX11 none cX11_orderPart 54 [.iload 3, .istore 6, .aload 0, .aload 0, .tableswitch 0 11 77 #[], .iload 3, .iaload, .aload 0, .tableswitch 0 11 77 #[], .iload 4, .iconst 1, .isub, .iaload] 73 = true := qck_r (nn_ _) (by decide +kernel)
theorem bs_X11_orderPart_54 {P : Zt → Option Zv → Prop} (K : Int → Zl → List Zv → Zt → Prop) : sx_ K P [.iload 3, .istore 6, .aload 0, .aload 0, .tableswitch 0 11 77 #[], .iload 3, .iaload, .aload 0, .tableswitch 0 11 77 #[], .iload 4, .iconst 1, .isub, .iaload] 73 = x_iload 3 (x_istore 6 (x_aload 0 (x_aload 0 (x_g1 111 277 (x_iload 3 (x_iaload (x_aload 0 (x_g1 111 277 (x_iload 4 (x_iconst 1 (x_isub (x_iaload (K 73))))))))))))) := ((xe_iload 3).trans (congrArg (x_iload 3) ((xe_istore 6).trans (congrArg (x_istore 6) ((xe_aload 0).trans (congrArg (x_aload 0) ((xe_aload 0).trans (congrArg (x_aload 0) ((xe_g1 (kk := 111) rfl tl_11_77).trans (congrArg (x_g1 111 277) ((xe_iload 3).trans (congrArg (x_iload 3) ((xe_iaload).trans (congrArg (x_iaload) ((xe_aload 0).trans (congrArg (x_aload 0) ((xe_g1 (kk := 111) rfl tl_11_77).trans (congrArg (x_g1 111 277) ((xe_iload 4).trans (congrArg (x_iload 4) ((xe_iconst 1).trans (congrArg (x_iconst 1) ((xe_isub).trans (congrArg (x_isub) ((xe_iaload).trans (congrArg (x_iaload) xe_nil))))))))))))))))))))))))))
theorem bk_X11_orderPart_76 : ck_ fX11 none cX11_orderPart 76 [.ifCond .ne 83, .iconst 1, .goto 84] 83 = true := qck_r (nn_ _) (by decide +kernel)
theorem bs_X11_orderPart_76 {P : Zt → Option Zv → Prop} (K : Int → Zl → List Zv → Zt → Prop) : sx_ K P [.ifCond .ne 83, .iconst 1, .goto 84] 83 = x_ifCond .ne 83 K (x_iconst 1 (x_goto 84 K)) := ((xe_ifCond .ne 83).trans (congrArg (x_ifCond .ne 83 K) ((xe_iconst 1).trans (congrArg (x_iconst 1) (xe_goto 84)))))
theorem bk_X11_orderPart_83 : ck_ fX11 none cX11_orderPart 83 [.iconst 0] 84 = true := qck_r (nn_ _) (by decide +kernel)
theorem bs_X11_orderPart_83 {P : Zt → Option Zv → Prop} (K : Int → Zl → List Zv → Zt → Prop) : sx_ K P [.iconst 0] 84 = x_iconst 0 (K 84) := ((xe_iconst 0).trans (congrArg (x_iconst 0) xe_nil))
theorem bk_X11_orderPart_0 : ck_ fX11 none cX11_orderPart 0 [.aload 0, .iconst 0, .tableswitch 1 11 85 #[], .iload 3, .istore 6] 8 = true := qck_r (nn_ _) (by decide +kernel)
theorem bs_X11_orderPart_0 {P : Zt → Option Zv → Prop} (K : Int → Zl → List Zv → Zt → Prop) : sx_ K P [.aload 0, .iconst 0, .tableswitch 1 11 85 #[], .iload 3, .istore 6] 8 = x_aload 0 (x_iconst 0 (x_p 111 85 0 4095 (x_iload 3 (x_istore 6 (K 8))))) := ((xe_aload 0).trans (congrArg (x_aload 0) ((xe_iconst 0).trans (congrArg (x_iconst 0) ((xe_p (kk := 111) rfl tl_11_85).trans (congrArg (x_p 111 85 0 4095) ((xe_iload 3).trans (congrArg (x_iload 3) ((xe_istore 6).trans (congrArg (x_istore 6) xe_nil))))))))))
abbrev po_X11_orderPart (T : Zt) (n : Int) (s : Int) (w : Int) (c d f t k : Int) : Zt → Option Zv → Prop := fun T' r => r = none ∧ fr_ [(284, []), (277, []), (286, []), (278, []), (111, [82, 83, 85, 87])] T T' ∧ (PQ_ T' n (s + (t - f)) (w + wt_ (t - f) k - 1) ∧ ∀ v, OC_ T n v → OC_ T' n v)
set_option maxHeartbeats 4000000 in
theorem ct_X11_orderPart {T : Zt} {n : Int} {s : Int} {w : Int} {c d f t k : Int} (h1 : 0 ≤ c ∧ c < 4) (hml : ML_ T) (hsc : SC_ T) (hk : 0 ≤ k ∧ k ≤ 7) (htb : TB_ T 150000000) (hft : 0 ≤ f ∧ f + 2 ≤ t ∧ t ≤ n ∧ n ≤ 12 ∧ s + (t - f) ≤ n) (hpq : PQ_ T n s w) : Ct_ yX11_orderPart zX11_orderPart T [vR 111 0, vI c, vI d, vI f, vI t, vI k] (po_X11_orderPart T n s w c d f t k) := by
  refine ct_of pn_11 rfl rfl (Nat.le_of_ble_eq_true rfl) (fun hT hav => ?_)
  have hr_c : -2147483648 ≤ c ∧ c ≤ 2147483647 := hav (vI c) (List.mem_cons_of_mem _ List.mem_cons_self)
  have hr_d : -2147483648 ≤ d ∧ d ≤ 2147483647 := hav (vI d) (List.mem_cons_of_mem _ (List.mem_cons_of_mem _ List.mem_cons_self))
  have hr_f : -2147483648 ≤ f ∧ f ≤ 2147483647 := hav (vI f) (List.mem_cons_of_mem _ (List.mem_cons_of_mem _ (List.mem_cons_of_mem _ List.mem_cons_self)))
  have hr_t : -2147483648 ≤ t ∧ t ≤ 2147483647 := hav (vI t) (List.mem_cons_of_mem _ (List.mem_cons_of_mem _ (List.mem_cons_of_mem _ (List.mem_cons_of_mem _ List.mem_cons_self))))
  have hr_k : -2147483648 ≤ k ∧ k ≤ 2147483647 := hav (vI k) (List.mem_cons_of_mem _ (List.mem_cons_of_mem _ (List.mem_cons_of_mem _ (List.mem_cons_of_mem _ (List.mem_cons_of_mem _ List.mem_cons_self)))))
  have hz : zX11_orderPart.2.2.2.1 = some .boolean → ∀ (T' : Zt) (x : Int), po_X11_orderPart T n s w c d f t k T' (some (vI x)) → 0 ≤ x ∧ x ≤ 1 := fun h => by cases h
  obtain ⟨p0, w0, hp0, hpp0, hw0⟩ := hpq
  show J_ zX11_orderPart T (po_X11_orderPart T n s w c d f t k) 0 0 0 [some (vR 111 0), some (vI c), some (vI d), some (vI f), some (vI t), some (vI k), none, none, none, none] [] T
  have c_84 : ∀ (g : Int) (T1 : Zt), (fr_ [(284, []), (277, []), (111, [82, 83, 85])] T T1) → ((g = 1 ∧ EQ_ T1 (T1 277 0 f) (T1 277 0 (t - 1)) 3) ∨ (g = 0 ∧ ¬ EQ_ T1 (T1 277 0 f) (T1 277 0 (t - 1)) 3)) → (SB_ T1) → (∀ v, OC_ T n v → OC_ T1 n v) → J_ zX11_orderPart T (po_X11_orderPart T n s w c d f t k) 0 0 84 [some (vR 111 0), some (vI c), some (vI d), some (vI f), some (vI t), some (vI k), some (vI f), none, none, none] [vI g] T1 := by
    intro g T1 hf_84 hg hsb1 oc1
    have c_91 : ∀ (nn : Nat) (st : Int) (i : Int) (p2 : Nat) (w2 : Int) (T2 : Zt), ((t + 1 - i).toNat) ≤ nn → (fr_ [(286, []), (278, []), (111, [87])] T1 T2) → (f ≤ st ∧ st < i ∧ i ≤ t + 1 ∧ (i = t + 1 → st = t)) → (T2 111 0 87 = 3 * (p2 : Int)) → (pp_ T2 n p2 (s + (st - f)) w2) → (ST_ (EQ_ T1 (T1 277 0 f) (T1 277 0 (i - 1)) 3) f t k w st w2) → J_ zX11_orderPart T (po_X11_orderPart T n s w c d f t k) 0 0 91 [some (vR 111 0), some (vI c), some (vI d), some (vI f), some (vI t), some (vI k), some (vI st), some (vI g), some (vI i), none] [] T2 := by
      intro nn
      induction nn using Nat.strongRecOn with
      | _ nn ih_91 =>
        intro st i p2 w2 T2 hm_91 hf_91 i2 hp2 hpp2 hst
        replace hm_91 := fun (_ : Unit) => hm_91
        have hpn := pp_n hpp2
        have c_158 : ∀ (e : Int) (T3 : Zt), (fr_ [(278, [])] T2 T3) → (0 ≤ e ∧ e ≤ 1 ∧ i ≤ t ∧ (e = 0 → i < t)) → (e = 0 → EQ_ T1 (T1 277 0 (i - 1)) (T1 277 0 i) 3) → J_ zX11_orderPart T (po_X11_orderPart T n s w c d f t k) 0 0 158 [some (vR 111 0), some (vI c), some (vI d), some (vI f), some (vI t), some (vI k), some (vI st), some (vI g), some (vI i), some (vI e)] [] T3 := by
          intro e T3 hf_158 e1 e2
          have c_190 : ∀ (q : Int), (0 ≤ q ∧ q ≤ 8 ∧ e ≠ 0) → (g = 1 → q = k + 1) → J_ zX11_orderPart T (po_X11_orderPart T n s w c d f t k) 0 0 190 [some (vR 111 0), some (vI c), some (vI d), some (vI f), some (vI t), some (vI k), some (vI st), some (vI g), some (vI i), some (vI e)] [vI q, vI i, vI st, vR 111 0] T3 := by
            intro q hq1 hq2
            have e1 : T3 111 0 87 = T2 111 0 87 := hf_158 111 0 87 rfl
            refine j_callV (y := yX11_lay) (Yc := zX11_lay) (rest := []) [vI st, vI i, vI q] (ct_X11_lay (T := T3) (by omega) (by omega) (by omega) (by omega)) cl_X11_520 (qd_c (by decide +kernel)) (nn_ _) rfl (rf_of rfl) (Nat.le_of_ble_eq_true rfl) (Nat.le_of_ble_eq_true rfl) (Nat.le_of_ble_eq_true rfl) rfl ?_
            rintro U2 _ ⟨rfl, fU2, qU2⟩
            show J_ zX11_orderPart T (po_X11_orderPart T n s w c d f t k) 0 0 193 _ [] U2
            refine j_blx (F := fX11) tb_X11 (nn_ _) bk_X11_orderPart_193 bs_X11_orderPart_193 hz (fun K hK => ?_)
            refine rg_i (by omega) ?_
            refine hK 91 [some (vR 111 0), some (vI c), some (vI d), some (vI f), some (vI t), some (vI k), some (vI i), some (vI g), some (vI (i + 1)), some (vI e)] [] U2 ?_
            refine j_drq [some (vR 111 0), some (vI c), some (vI d), some (vI f), some (vI t), some (vI k), some (vI i), some (vI g), some (vI (i + 1)), none] (drq_s (drq_s (drq_s (drq_s (drq_s (drq_s (drq_s (drq_s (drq_s (drq_n drq_0)))))))))) ?_
            refine ih_91 _ ?_ i (i + 1) (p2 + 1) (w2 + wt_ (i - st) q) U2 (Nat.le_refl _) ?_ ?_ ?_ ?_ ?_
            · have hm_91 := hm_91 (); omega
            · exact fr_t (fr_t (fr_t (fr_0 _ _) (fr_s hf_91 rfl)) (fr_s hf_158 rfl)) (fr_s fU2 rfl)
            · omega
            · omega
            · rw [show s + (i - f) = s + (st - f) + (i - st) by omega]
              exact pp_l hpp2 hp2 (fun j => hf_158 286 0 j rfl) (hf_158 111 0 87 rfl) qU2 (by omega)
            · exact st_l hst hk (by omega) (by omega) (fun a b => hq2 (hg.elim (fun z => z.1) (fun z => absurd (b ▸ a) z.2)))
          refine j_blx (F := fX11) tb_X11 (nn_ _) bk_X11_orderPart_158 bs_X11_orderPart_158 hz (fun K hK => ?_)
          refine And.intro (fun c3 => ?_) (fun c3 => ?_)
          · refine hK 197 _ [] T3 ?_
            refine j_blx (F := fX11) tb_X11 (nn_ _) bk_X11_orderPart_197 bs_X11_orderPart_197 hz (fun K hK => ?_)
            refine rg_i (by omega) ?_
            refine hK 91 [some (vR 111 0), some (vI c), some (vI d), some (vI f), some (vI t), some (vI k), some (vI st), some (vI g), some (vI (i + 1)), some (vI e)] [] T3 ?_
            refine j_drq [some (vR 111 0), some (vI c), some (vI d), some (vI f), some (vI t), some (vI k), some (vI st), some (vI g), some (vI (i + 1)), none] (drq_s (drq_s (drq_s (drq_s (drq_s (drq_s (drq_s (drq_s (drq_s (drq_n drq_0)))))))))) ?_
            have e4 : T3 111 0 87 = T2 111 0 87 := hf_158 111 0 87 rfl
            refine ih_91 _ ?_ st (i + 1) p2 w2 T3 (Nat.le_refl _) ?_ ?_ ?_ ?_ ?_
            · have hm_91 := hm_91 (); omega
            · exact fr_t (fr_t (fr_0 _ _) (fr_s hf_91 rfl)) (fr_s hf_158 rfl)
            · omega
            · omega
            · exact pp_e hpp2 (fun j _ => hf_158 286 0 j rfl)
            · exact st_a hst (fun a => by rw [show i + 1 - 1 = i by omega]; exact EQ_t a (e2 (by omega)))
          · refine And.intro (fun c5 => ?_) (fun c5 => ?_)
            · refine hK 182 [some (vR 111 0), some (vI c), some (vI d), some (vI f), some (vI t), some (vI k), some (vI st), some (vI g), some (vI i), some (vI e)] [vI i, vI st, vR 111 0] T3 ?_
              refine j_blx (F := fX11) tb_X11 (nn_ _) bk_X11_orderPart_182 bs_X11_orderPart_182 hz (fun K hK => ?_)
              refine rg_i (by omega) ?_
              refine hK 190 _ [vI (k + 1), vI i, vI st, vR 111 0] T3 ?_
              refine c_190 (k + 1) ?_ ?_
              · omega
              · omega
            · refine hK 176 _ [vI 5, vI c, vR 111 0, vI i, vI st, vR 111 0] T3 ?_
              refine j_callV (y := yX11_rule0) (Yc := zX11_rule0) (rest := [vI i, vI st, vR 111 0]) [vI c, vI 5] (ct_X11_rule0 (T := T3) (by omega) (by omega)) cl_X11_321 (qd_c (by decide +kernel)) (nn_ _) rfl (rf_of rfl) (Nat.le_of_ble_eq_true rfl) (Nat.le_of_ble_eq_true rfl) (Nat.le_of_ble_eq_true rfl) rfl ?_
              rintro _ _ ⟨rfl, rfl⟩
              have e6 : T3 205 0 (23 * c + 5) = T 205 0 (23 * c + 5) := (hf_158 205 0 (23 * c + 5) rfl).trans ((hf_91 205 0 (23 * c + 5) rfl).trans (hf_84 205 0 (23 * c + 5) rfl))
              show J_ zX11_orderPart T (po_X11_orderPart T n s w c d f t k) 0 0 179 _ [vI (T3 205 0 (23 * c + 5)), vI i, vI st, vR 111 0] T3
              refine j_blx (F := fX11) tb_X11 (nn_ _) bk_X11_orderPart_179 bs_X11_orderPart_179 hz (fun K hK => ?_)
              refine And.intro (fun c7 => ?_) (fun c7 => ?_)
              · refine hK 189 _ [vI i, vI st, vR 111 0] T3 ?_
                refine j_blx (F := fX11) tb_X11 (nn_ _) bk_X11_orderPart_189 bs_X11_orderPart_189 hz (fun K hK => ?_)
                refine hK 190 _ [vI 0, vI i, vI st, vR 111 0] T3 ?_
                refine c_190 0 ?_ ?_
                · omega
                · omega
              · refine rg_i (by omega) ?_
                refine hK 190 _ [vI (k + 1), vI i, vI st, vR 111 0] T3 ?_
                refine c_190 (k + 1) ?_ ?_
                · omega
                · omega
        refine j_blx (F := fX11) tb_X11 (nn_ _) bk_X11_orderPart_91 bs_X11_orderPart_91 hz (fun K hK => ?_)
        refine And.intro (fun c8 => ?_) (fun c8 => ?_)
        · refine hK 203 _ [] T2 ?_
          refine j_blx (F := fX11) tb_X11 (nn_ _) bk_X11_orderPart_203 bs_X11_orderPart_203 hz (fun K hK => ?_)
          refine (show po_X11_orderPart T n s w c d f t k T2 (none) from ?_)
          have ht : st = t := by omega
          subst ht
          refine ⟨rfl, fr_t (fr_t (fr_0 _ _) (fr_s hf_84 rfl)) (fr_s hf_91 rfl), ⟨p2, w2, hp2, hpp2, st_z hst (by omega)⟩, fun v h => oc_f (oc1 v h) (fun j => hf_91 277 0 j rfl)⟩
        · refine And.intro (fun c9 => ?_) (fun c9 => ?_)
          · refine hK 128 _ [] T2 ?_
            refine j_blx (F := fX11) tb_X11 (nn_ _) bk_X11_orderPart_128 bs_X11_orderPart_128 hz (fun K hK => ?_)
            refine hK 133 _ [vI 1] T2 ?_
            refine j_blx (F := fX11) tb_X11 (nn_ _) bk_X11_orderPart_133 bs_X11_orderPart_133 hz (fun K hK => ?_)
            refine And.intro (fun c10 => ?_) (fun c10 => ?_)
            · refine hK 158 [some (vR 111 0), some (vI c), some (vI d), some (vI f), some (vI t), some (vI k), some (vI st), some (vI g), some (vI i), some (vI 1)] [] T2 ?_
              refine c_158 1 T2 ?_ ?_ ?_
              · exact fr_0 _ _
              · omega
              · intro h9; exact absurd h9 (by decide)
            · refine And.intro (fun c11 => ?_) (fun c11 => ?_)
              · refine hK 158 _ [] T2 ?_
                refine c_158 1 T2 ?_ ?_ ?_
                · exact fr_0 _ _
                · omega
                · intro h9; exact absurd h9 (by decide)
              · refine rg_i (by omega) ?_
                refine iy_i (by omega) (by omega) ?_
                refine x_nm (fun U12 hU12 => ?_)
                have e13 := up_f hU12
                refine hK 158 _ [] U12 ?_
                refine c_158 1 U12 ?_ ?_ ?_
                · exact fr_u (fr_0 _ _) hU12 rfl
                · omega
                · intro h9; exact absurd h9 (by decide)
          · refine rg_i (by omega) ?_
            refine ix_i (by omega) ?_
            intro b14 b14b
            have e15 : T2 277 0 (i - 1) = T1 277 0 (i - 1) := hf_91 277 0 (i - 1) rfl
            rw [e15] at b14 b14b ⊢
            refine ix_i (by omega) ?_
            intro b16 b16b
            have e17 : T2 277 0 i = T1 277 0 i := hf_91 277 0 i rfl
            rw [e17] at b16 b16b ⊢
            refine hK 122 _ [vI (T1 277 0 i), vI (T1 277 0 (i - 1)), vR 111 0] T2 ?_
            refine j_callV (y := yX11_compareClubs) (Yc := zX11_compareClubs) (rest := []) [vI (T1 277 0 (i - 1)), vI (T1 277 0 i)] (ct_X11_compareClubs (T := T2) (by omega) (by omega) (by exact SB__f (ws := [(286, []), (278, []), (111, [87])]) hsb1 (fr_t (fr_0 _ _) (fr_s hf_91 rfl)) ⟨fun _ => rfl, trivial⟩)) cl_X11_511 (qd_c (by decide +kernel)) (nn_ _) rfl (rf_of rfl) (Nat.le_of_ble_eq_true rfl) (Nat.le_of_ble_eq_true rfl) (Nat.le_of_ble_eq_true rfl) rfl ?_
            rintro _ _ ⟨rfl, x18, rfl, hx18⟩
            show J_ zX11_orderPart T (po_X11_orderPart T n s w c d f t k) 0 0 125 _ [vI x18] T2
            refine j_blx (F := fX11) tb_X11 (nn_ _) bk_X11_orderPart_125 bs_X11_orderPart_125 hz (fun K hK => ?_)
            refine And.intro (fun c19 => ?_) (fun c19 => ?_)
            · refine hK 132 _ [] T2 ?_
              refine j_blx (F := fX11) tb_X11 (nn_ _) bk_X11_orderPart_132 bs_X11_orderPart_132 hz (fun K hK => ?_)
              refine And.intro (fun c20 => ?_) (fun c20 => ?_)
              · refine hK 158 [some (vR 111 0), some (vI c), some (vI d), some (vI f), some (vI t), some (vI k), some (vI st), some (vI g), some (vI i), some (vI 0)] [] T2 ?_
                refine c_158 0 T2 ?_ ?_ ?_
                · exact fr_0 _ _
                · omega
                · intro _; exact EQ_e (fun j => hf_91 284 0 j rfl) (hx18.2.resolve_right (fun z => z.1 (by omega))).2
              · refine And.intro (fun c21 => ?_) (fun c21 => ?_)
                · refine hK 158 _ [] T2 ?_
                  refine c_158 0 T2 ?_ ?_ ?_
                  · exact fr_0 _ _
                  · omega
                  · intro _; exact EQ_e (fun j => hf_91 284 0 j rfl) (hx18.2.resolve_right (fun z => z.1 (by omega))).2
                · refine rg_i (by omega) ?_
                  refine iy_i (by omega) (by omega) ?_
                  refine x_nm (fun U22 hU22 => ?_)
                  have e23 := up_f hU22
                  refine hK 158 _ [] U22 ?_
                  refine c_158 0 U22 ?_ ?_ ?_
                  · exact fr_u (fr_0 _ _) hU22 rfl
                  · omega
                  · intro _; exact EQ_e (fun j => hf_91 284 0 j rfl) (hx18.2.resolve_right (fun z => z.1 (by omega))).2
            · refine hK 133 _ [vI 1] T2 ?_
              refine j_blx (F := fX11) tb_X11 (nn_ _) bk_X11_orderPart_133 bs_X11_orderPart_133 hz (fun K hK => ?_)
              refine And.intro (fun c24 => ?_) (fun c24 => ?_)
              · refine hK 158 [some (vR 111 0), some (vI c), some (vI d), some (vI f), some (vI t), some (vI k), some (vI st), some (vI g), some (vI i), some (vI 1)] [] T2 ?_
                refine c_158 1 T2 ?_ ?_ ?_
                · exact fr_0 _ _
                · omega
                · intro h9; exact absurd h9 (by decide)
              · refine And.intro (fun c25 => ?_) (fun c25 => ?_)
                · refine hK 158 _ [] T2 ?_
                  refine c_158 1 T2 ?_ ?_ ?_
                  · exact fr_0 _ _
                  · omega
                  · intro h9; exact absurd h9 (by decide)
                · refine rg_i (by omega) ?_
                  refine iy_i (by omega) (by omega) ?_
                  refine x_nm (fun U26 hU26 => ?_)
                  have e27 := up_f hU26
                  refine hK 158 _ [] U26 ?_
                  refine c_158 1 U26 ?_ ?_ ?_
                  · exact fr_u (fr_0 _ _) hU26 rfl
                  · omega
                  · intro h9; exact absurd h9 (by decide)
    refine j_blx (F := fX11) tb_X11 (nn_ _) bk_X11_orderPart_84 bs_X11_orderPart_84 hz (fun K hK => ?_)
    refine rg_i (by omega) ?_
    refine hK 91 [some (vR 111 0), some (vI c), some (vI d), some (vI f), some (vI t), some (vI k), some (vI f), some (vI g), some (vI (f + 1)), none] [] T1 ?_
    have e28 : T1 111 0 87 = T 111 0 87 := hf_84 111 0 87 rfl
    refine c_91 _ f (f + 1) p0 w0 T1 (Nat.le_refl _) ?_ ?_ ?_ ?_ ?_
    · exact fr_0 _ _
    · omega
    · omega
    · rw [show s + (f - f) = s by omega]
      exact pp_e hpp0 (fun j _ => hf_84 286 0 j rfl)
    · exact Or.inl ⟨rfl, hw0, by rw [show f + 1 - 1 = f by omega]; exact fun _ _ _ => rfl⟩
  have c_8 : ∀ (nn : Nat) (i : Int) (T0 : Zt), ((12 - i).toNat) ≤ nn → (fr_ [(111, [85])] T T0) → (f ≤ i ∧ i ≤ t) → J_ zX11_orderPart T (po_X11_orderPart T n s w c d f t k) 0 0 8 [some (vR 111 0), some (vI c), some (vI d), some (vI f), some (vI t), some (vI k), some (vI i), none, none, none] [] T0 := by
    intro nn
    induction nn using Nat.strongRecOn with
    | _ nn ih_8 =>
      intro i T0 hm_8 hf_8 i0
      replace hm_8 := fun (_ : Unit) => hm_8
      refine j_blx (F := fX11) tb_X11 (nn_ _) bk_X11_orderPart_8 bs_X11_orderPart_8 hz (fun K hK => ?_)
      refine And.intro (fun c29 => ?_) (fun c29 => ?_)
      · refine hK 39 _ [] T0 ?_
        refine j_blx (F := fX11) tb_X11 (nn_ _) bk_X11_orderPart_39 bs_X11_orderPart_39 hz (fun K hK => ?_)
        refine hK 44 _ [vI k, vI d, vI c, vR 111 0] T0 ?_
        refine j_callV (y := yX11_say) (Yc := zX11_say) (rest := []) [vI c, vI d, vI k] (ct_X11_say (T := T0) (by omega) (by exact ML__f (ws := [(111, [85])]) hml (fr_t (fr_0 _ _) (fr_s hf_8 rfl)) ⟨fun _ => rfl, fun _ => rfl, rfl, trivial⟩) (by exact SC__f (ws := [(111, [85])]) hsc (fr_t (fr_0 _ _) (fr_s hf_8 rfl)) ⟨fun _ => rfl, fun _ => rfl, trivial⟩) (by omega) (by exact tb_f htb (fun j => hf_8 276 0 j rfl))) cl_X11_526 (qd_c (by decide +kernel)) (nn_ _) rfl (rf_of rfl) (Nat.le_of_ble_eq_true rfl) (Nat.le_of_ble_eq_true rfl) (Nat.le_of_ble_eq_true rfl) rfl ?_
        rintro U30 _ ⟨rfl, fU30, qU30⟩
        show J_ zX11_orderPart T (po_X11_orderPart T n s w c d f t k) 0 0 47 _ [] U30
        refine j_blx (F := fX11) tb_X11 (nn_ _) bk_X11_orderPart_47 bs_X11_orderPart_47 hz (fun K hK => ?_)
        refine hK 51 _ [vI t, vI f, vR 111 0] U30 ?_
        refine j_callV (y := yX11_sortPart) (Yc := zX11_sortPart) (rest := []) [vI f, vI t] (ct_X11_sortPart (T := U30) (n := n) (by omega) qU30) cl_X11_529 (qd_c (by decide +kernel)) (nn_ _) rfl (rf_of rfl) (Nat.le_of_ble_eq_true rfl) (Nat.le_of_ble_eq_true rfl) (Nat.le_of_ble_eq_true rfl) rfl ?_
        rintro U31 _ ⟨rfl, fU31, qU31⟩
        show J_ zX11_orderPart T (po_X11_orderPart T n s w c d f t k) 0 0 54 _ [] U31
        refine j_blx (F := fX11) tb_X11 (nn_ _) bk_X11_orderPart_54 bs_X11_orderPart_54 hz (fun K hK => ?_)
        refine ix_i (by omega) ?_
        intro b32 b32b
        refine rg_i (by omega) ?_
        refine ix_i (by omega) ?_
        intro b33 b33b
        refine hK 73 [some (vR 111 0), some (vI c), some (vI d), some (vI f), some (vI t), some (vI k), some (vI f), none, none, none] [vI (U31 277 0 (t - 1)), vI (U31 277 0 f), vR 111 0] U31 ?_
        refine j_callV (y := yX11_compareClubs) (Yc := zX11_compareClubs) (rest := []) [vI (U31 277 0 f), vI (U31 277 0 (t - 1))] (ct_X11_compareClubs (T := U31) (by omega) (by omega) (by exact SB__f (ws := [(277, [])]) qU30 fU31 ⟨fun _ => rfl, trivial⟩)) cl_X11_511 (qd_c (by decide +kernel)) (nn_ _) rfl (rf_of rfl) (Nat.le_of_ble_eq_true rfl) (Nat.le_of_ble_eq_true rfl) (Nat.le_of_ble_eq_true rfl) rfl ?_
        rintro _ _ ⟨rfl, x34, rfl, hx34⟩
        show J_ zX11_orderPart T (po_X11_orderPart T n s w c d f t k) 0 0 76 _ [vI x34] U31
        refine j_blx (F := fX11) tb_X11 (nn_ _) bk_X11_orderPart_76 bs_X11_orderPart_76 hz (fun K hK => ?_)
        refine And.intro (fun c35 => ?_) (fun c35 => ?_)
        · refine hK 83 _ [] U31 ?_
          refine j_blx (F := fX11) tb_X11 (nn_ _) bk_X11_orderPart_83 bs_X11_orderPart_83 hz (fun K hK => ?_)
          refine hK 84 _ [vI 0] U31 ?_
          refine c_84 0 U31 ?_ ?_ ?_ ?_
          · exact fr_t (fr_t (fr_t (fr_0 _ _) (fr_s hf_8 rfl)) (fr_s fU30 rfl)) (fr_s fU31 rfl)
          · exact Or.inr ⟨rfl, (hx34.2.resolve_left (fun z => absurd z.1 (by omega))).2⟩
          · exact SB__f (ws := [(277, [])]) qU30 fU31 ⟨fun _ => rfl, trivial⟩
          · exact fun v h => qU31 v (oc_f h (fun j => (fU30 277 0 j rfl).trans (hf_8 277 0 j rfl)))
        · refine hK 84 _ [vI 1] U31 ?_
          refine c_84 1 U31 ?_ ?_ ?_ ?_
          · exact fr_t (fr_t (fr_t (fr_0 _ _) (fr_s hf_8 rfl)) (fr_s fU30 rfl)) (fr_s fU31 rfl)
          · exact Or.inl ⟨rfl, (hx34.2.resolve_right (fun z => z.1 (by omega))).2⟩
          · exact SB__f (ws := [(277, [])]) qU30 fU31 ⟨fun _ => rfl, trivial⟩
          · exact fun v h => qU31 v (oc_f h (fun j => (fU30 277 0 j rfl).trans (hf_8 277 0 j rfl)))
      · intro b36 b36b
        refine ix_i (by omega) ?_
        intro b37 b37b
        have e38 : T0 277 0 i = T 277 0 i := hf_8 277 0 i rfl
        rw [e38] at b37 b37b ⊢
        intro w39 w39b
        intro w40 w40b
        have ob : 0 ≤ or_ (T0 111 0 85) (sl_ 1 (T 277 0 i)) ∧ or_ (T0 111 0 85) (sl_ 1 (T 277 0 i)) ≤ 4095 := or_b (by omega) (sl_b (by omega))
        refine bd_i (by omega) ?_
        refine x_nm (fun U41 hU41 => ?_)
        have e42 := up_f hU41
        refine rg_i (by omega) ?_
        refine hK 8 [some (vR 111 0), some (vI c), some (vI d), some (vI f), some (vI t), some (vI k), some (vI (i + 1)), none, none, none] [] U41 ?_
        refine ih_8 _ ?_ (i + 1) U41 (Nat.le_refl _) ?_ ?_
        · have hm_8 := hm_8 (); omega
        · exact fr_u (fr_t (fr_0 _ _) (fr_s hf_8 rfl)) hU41 rfl
        · omega
  refine j_blx (F := fX11) tb_X11 (nn_ _) bk_X11_orderPart_0 bs_X11_orderPart_0 hz (fun K hK => ?_)
  refine bd_i (by omega) ?_
  refine x_nm (fun U43 hU43 => ?_)
  have e44 := up_f hU43
  refine hK 8 [some (vR 111 0), some (vI c), some (vI d), some (vI f), some (vI t), some (vI k), some (vI f), none, none, none] [] U43 ?_
  refine c_8 _ f U43 (Nat.le_refl _) ?_ ?_
  · exact fr_u (fr_0 _ _) hU43 rfl
  · omega
theorem pq_3 {T : Zt} {n s w : Int} (h : PQ_ T n s w) (g : 0 < T 111 0 87) : 3 ≤ T 111 0 87 := by
  obtain ⟨p, w1, a, b, c⟩ := h
  omega
theorem oc_m {T : Zt} {n k v : Int} (h : OC_ T n v) (e : n ≤ k) : OC_ T k v := by
  obtain ⟨j, a, b, c⟩ := h
  exact ⟨j, a, by omega, c⟩
abbrev cX11_orderAll : ByteArray := prog_13_method_91_code
def yX11_orderAll : MethodName := ⟨RX11, "orderAll", "(II)V"⟩
def zX11_orderAll : Zm := (RX11, cX11_orderAll, 6, none, { frames := 4, cells := 0, slots := 0, locals := 103 })
theorem bk_X11_orderAll_71 : ck_ fX11 none cX11_orderAll 71 [.aload 0, .tableswitch 0 11 87 #[], .ifCond .le 157, .aload 0, .dup, .tableswitch 0 11 87 #[], .iconst 3, .isub, .tableswitch 1 11 87 #[], .aload 0, .tableswitch 0 11 86 #[], .aload 0, .tableswitch 0 11 87 #[], .iaload, .istore 3, .aload 0, .tableswitch 0 11 86 #[], .aload 0, .tableswitch 0 11 87 #[], .iconst 1, .iadd, .iaload, .istore 4, .aload 0, .tableswitch 0 11 86 #[], .aload 0, .tableswitch 0 11 87 #[], .iconst 2, .iadd, .iaload, .istore 5, .iload 4, .iload 3, .isub, .iconst 1, .if_icmp .le 154, .iload 5, .aload 0, .iload 1, .iconst 4] 137 = true := qck_r (nn_ _) (by decide +kernel)
theorem bs_X11_orderAll_71 {P : Zt → Option Zv → Prop} (K : Int → Zl → List Zv → Zt → Prop) : sx_ K P [.aload 0, .tableswitch 0 11 87 #[], .ifCond .le 157, .aload 0, .dup, .tableswitch 0 11 87 #[], .iconst 3, .isub, .tableswitch 1 11 87 #[], .aload 0, .tableswitch 0 11 86 #[], .aload 0, .tableswitch 0 11 87 #[], .iaload, .istore 3, .aload 0, .tableswitch 0 11 86 #[], .aload 0, .tableswitch 0 11 87 #[], .iconst 1, .iadd, .iaload, .istore 4, .aload 0, .tableswitch 0 11 86 #[], .aload 0, .tableswitch 0 11 87 #[], .iconst 2, .iadd, .iaload, .istore 5, .iload 4, .iload 3, .isub, .iconst 1, .if_icmp .le 154, .iload 5, .aload 0, .iload 1, .iconst 4] 137 = x_aload 0 (x_g0 111 87 0 120 (x_ifCond .le 157 K (x_aload 0 (x_dup (x_g0 111 87 0 120 (x_iconst 3 (x_isub (x_p 111 87 0 120 (x_aload 0 (x_g1 111 286 (x_aload 0 (x_g0 111 87 0 120 (x_iaload (x_istore 3 (x_aload 0 (x_g1 111 286 (x_aload 0 (x_g0 111 87 0 120 (x_iconst 1 (x_iadd (x_iaload (x_istore 4 (x_aload 0 (x_g1 111 286 (x_aload 0 (x_g0 111 87 0 120 (x_iconst 2 (x_iadd (x_iaload (x_istore 5 (x_iload 4 (x_iload 3 (x_isub (x_iconst 1 (x_if_icmp .le 154 K (x_iload 5 (x_aload 0 (x_iload 1 (x_iconst 4 (K 137)))))))))))))))))))))))))))))))))))))))) := ((xe_aload 0).trans (congrArg (x_aload 0) ((xe_g0 (kk := 111) rfl tl_11_87).trans (congrArg (x_g0 111 87 0 120) ((xe_ifCond .le 157).trans (congrArg (x_ifCond .le 157 K) ((xe_aload 0).trans (congrArg (x_aload 0) ((xe_dup).trans (congrArg (x_dup) ((xe_g0 (kk := 111) rfl tl_11_87).trans (congrArg (x_g0 111 87 0 120) ((xe_iconst 3).trans (congrArg (x_iconst 3) ((xe_isub).trans (congrArg (x_isub) ((xe_p (kk := 111) rfl tl_11_87).trans (congrArg (x_p 111 87 0 120) ((xe_aload 0).trans (congrArg (x_aload 0) ((xe_g1 (kk := 111) rfl tl_11_86).trans (congrArg (x_g1 111 286) ((xe_aload 0).trans (congrArg (x_aload 0) ((xe_g0 (kk := 111) rfl tl_11_87).trans (congrArg (x_g0 111 87 0 120) ((xe_iaload).trans (congrArg (x_iaload) ((xe_istore 3).trans (congrArg (x_istore 3) ((xe_aload 0).trans (congrArg (x_aload 0) ((xe_g1 (kk := 111) rfl tl_11_86).trans (congrArg (x_g1 111 286) ((xe_aload 0).trans (congrArg (x_aload 0) ((xe_g0 (kk := 111) rfl tl_11_87).trans (congrArg (x_g0 111 87 0 120) ((xe_iconst 1).trans (congrArg (x_iconst 1) ((xe_iadd).trans (congrArg (x_iadd) ((xe_iaload).trans (congrArg (x_iaload) ((xe_istore 4).trans (congrArg (x_istore 4) ((xe_aload 0).trans (congrArg (x_aload 0) ((xe_g1 (kk := 111) rfl tl_11_86).trans (congrArg (x_g1 111 286) ((xe_aload 0).trans (congrArg (x_aload 0) ((xe_g0 (kk := 111) rfl tl_11_87).trans (congrArg (x_g0 111 87 0 120) ((xe_iconst 2).trans (congrArg (x_iconst 2) ((xe_iadd).trans (congrArg (x_iadd) ((xe_iaload).trans (congrArg (x_iaload) ((xe_istore 5).trans (congrArg (x_istore 5) ((xe_iload 4).trans (congrArg (x_iload 4) ((xe_iload 3).trans (congrArg (x_iload 3) ((xe_isub).trans (congrArg (x_isub) ((xe_iconst 1).trans (congrArg (x_iconst 1) ((xe_if_icmp .le 154).trans (congrArg (x_if_icmp .le 154 K) ((xe_iload 5).trans (congrArg (x_iload 5) ((xe_aload 0).trans (congrArg (x_aload 0) ((xe_iload 1).trans (congrArg (x_iload 1) ((xe_iconst 4).trans (congrArg (x_iconst 4) xe_nil))))))))))))))))))))))))))))))))))))))))))))))))))))))))))))))))))))))))))))))))
theorem bk_X11_orderAll_157 : ck_ fX11 none cX11_orderAll 157 [.return_] 158 = true := qck_r (nn_ _) (by decide +kernel)
theorem bs_X11_orderAll_157 {P : Zt → Option Zv → Prop} (K : Int → Zl → List Zv → Zt → Prop) : sx_ K P [.return_] 158 = x_return_ P := (xe_return_)
theorem bk_X11_orderAll_154 : ck_ fX11 none cX11_orderAll 154 [.goto 71] 157 = true := qck_r (nn_ _) (by decide +kernel)
theorem bs_X11_orderAll_154 {P : Zt → Option Zv → Prop} (K : Int → Zl → List Zv → Zt → Prop) : sx_ K P [.goto 71] 157 = x_goto 71 K := (xe_goto 71)
theorem bk_X11_orderAll_140 : ck_ fX11 none cX11_orderAll 140 [.if_icmp .gt 154, .aload 0, .iload 1, .iload 2, .iload 3, .iload 4, .iload 5] 151 = true := qck_r (nn_ _) (by decide +kernel)
theorem bs_X11_orderAll_140 {P : Zt → Option Zv → Prop} (K : Int → Zl → List Zv → Zt → Prop) : sx_ K P [.if_icmp .gt 154, .aload 0, .iload 1, .iload 2, .iload 3, .iload 4, .iload 5] 151 = x_if_icmp .gt 154 K (x_aload 0 (x_iload 1 (x_iload 2 (x_iload 3 (x_iload 4 (x_iload 5 (K 151))))))) := ((xe_if_icmp .gt 154).trans (congrArg (x_if_icmp .gt 154 K) ((xe_aload 0).trans (congrArg (x_aload 0) ((xe_iload 1).trans (congrArg (x_iload 1) ((xe_iload 2).trans (congrArg (x_iload 2) ((xe_iload 3).trans (congrArg (x_iload 3) ((xe_iload 4).trans (congrArg (x_iload 4) ((xe_iload 5).trans (congrArg (x_iload 5) xe_nil))))))))))))))
set_option maxRecDepth 100000 in
theorem cl_X11_523 : cv_ RX11 523 yX11_orderPart zX11_orderPart 11 5 := ⟨gi_V (lwq_9 (dqc_m (dqc_m (dqc_m (dqc_m (dqc_m (dqa_m (dqa_m (dqa_m (List.mem_of_getElem? (i := 2) rfl))))))))) rfl : Cond.methodLink RX11 523 yX11_orderPart ∈ lw_g) (lwq_9 (dqc_m (dqc_m (dqc_m (dqc_m (dqc_m (dqa_m (dqa_m (dqa_m (List.mem_of_getElem? (i := 4) rfl))))))))) rfl : Cond.instanceMethod yX11_orderPart ∈ lw_g) (lw_sel 42 rfl : Cond.selects yX11_orderPart.cls yX11_orderPart yX11_orderPart ∈ lw_g) (lwq_1 (dqa_m (List.mem_of_getElem? (i := 2) rfl)) rfl : Cond.initialized yX11_orderPart.cls ∈ lw_g) (lwq_9 (dqc_m (dqc_m (dqc_m (dqc_m (dqc_m (dqa_m (dqa_m (dqa_m (List.mem_of_getElem? (i := 5) rfl))))))))) rfl : Cond.code yX11_orderPart cX11_orderPart 10 none ∈ lw_g), ⟨nmh_1.1, nmh_1.2, pdq_6⟩, ⟨_, _, rfl⟩⟩
theorem bk_X11_orderAll_18 : ck_ fX11 none cX11_orderAll 18 [.iload 3, .aload 0, .tableswitch 0 11 79 #[], .if_icmp .ge 56, .aload 0, .tableswitch 0 11 77 #[], .iload 3, .aload 0, .tableswitch 0 11 7 #[], .iconst 12, .iload 1, .imul, .iload 3, .iadd, .iaload, .iastore, .aload 0, .tableswitch 0 11 78 #[], .iload 3, .iconst (-1), .iastore, .iinc 3 1, .goto 18] 56 = true := qck_r (nn_ _) (by decide +kernel)
theorem bs_X11_orderAll_18 {P : Zt → Option Zv → Prop} (K : Int → Zl → List Zv → Zt → Prop) : sx_ K P [.iload 3, .aload 0, .tableswitch 0 11 79 #[], .if_icmp .ge 56, .aload 0, .tableswitch 0 11 77 #[], .iload 3, .aload 0, .tableswitch 0 11 7 #[], .iconst 12, .iload 1, .imul, .iload 3, .iadd, .iaload, .iastore, .aload 0, .tableswitch 0 11 78 #[], .iload 3, .iconst (-1), .iastore, .iinc 3 1, .goto 18] 56 = x_iload 3 (x_aload 0 (x_g0 111 79 0 12 (x_if_icmp .ge 56 K (x_aload 0 (x_g1 111 277 (x_iload 3 (x_aload 0 (x_g1 111 207 (x_iconst 12 (x_iload 1 (x_imul (x_iload 3 (x_iadd (x_iaload (x_iastore (x_aload 0 (x_g1 111 278 (x_iload 3 (x_iconst (-1) (x_iastore (x_iinc 3 1 (x_goto 18 K)))))))))))))))))))))) := ((xe_iload 3).trans (congrArg (x_iload 3) ((xe_aload 0).trans (congrArg (x_aload 0) ((xe_g0 (kk := 111) rfl tl_11_79).trans (congrArg (x_g0 111 79 0 12) ((xe_if_icmp .ge 56).trans (congrArg (x_if_icmp .ge 56 K) ((xe_aload 0).trans (congrArg (x_aload 0) ((xe_g1 (kk := 111) rfl tl_11_77).trans (congrArg (x_g1 111 277) ((xe_iload 3).trans (congrArg (x_iload 3) ((xe_aload 0).trans (congrArg (x_aload 0) ((xe_g1 (kk := 111) rfl tl_11_7).trans (congrArg (x_g1 111 207) ((xe_iconst 12).trans (congrArg (x_iconst 12) ((xe_iload 1).trans (congrArg (x_iload 1) ((xe_imul).trans (congrArg (x_imul) ((xe_iload 3).trans (congrArg (x_iload 3) ((xe_iadd).trans (congrArg (x_iadd) ((xe_iaload).trans (congrArg (x_iaload) ((xe_iastore).trans (congrArg (x_iastore) ((xe_aload 0).trans (congrArg (x_aload 0) ((xe_g1 (kk := 111) rfl tl_11_78).trans (congrArg (x_g1 111 278) ((xe_iload 3).trans (congrArg (x_iload 3) ((xe_iconst (-1)).trans (congrArg (x_iconst (-1)) ((xe_iastore).trans (congrArg (x_iastore) ((xe_iinc 3 1).trans (congrArg (x_iinc 3 1) (xe_goto 18)))))))))))))))))))))))))))))))))))))))))))))
theorem bk_X11_orderAll_56 : ck_ fX11 none cX11_orderAll 56 [.aload 0, .iconst 0, .tableswitch 1 11 87 #[], .aload 0, .iconst 0, .aload 0, .tableswitch 0 11 79 #[], .iconst 0] 68 = true := qck_r (nn_ _) (by decide +kernel)
theorem bs_X11_orderAll_56 {P : Zt → Option Zv → Prop} (K : Int → Zl → List Zv → Zt → Prop) : sx_ K P [.aload 0, .iconst 0, .tableswitch 1 11 87 #[], .aload 0, .iconst 0, .aload 0, .tableswitch 0 11 79 #[], .iconst 0] 68 = x_aload 0 (x_iconst 0 (x_p 111 87 0 120 (x_aload 0 (x_iconst 0 (x_aload 0 (x_g0 111 79 0 12 (x_iconst 0 (K 68)))))))) := ((xe_aload 0).trans (congrArg (x_aload 0) ((xe_iconst 0).trans (congrArg (x_iconst 0) ((xe_p (kk := 111) rfl tl_11_87).trans (congrArg (x_p 111 87 0 120) ((xe_aload 0).trans (congrArg (x_aload 0) ((xe_iconst 0).trans (congrArg (x_iconst 0) ((xe_aload 0).trans (congrArg (x_aload 0) ((xe_g0 (kk := 111) rfl tl_11_79).trans (congrArg (x_g0 111 79 0 12) ((xe_iconst 0).trans (congrArg (x_iconst 0) xe_nil))))))))))))))))
theorem bk_X11_orderAll_0 : ck_ fX11 none cX11_orderAll 0 [.aload 0, .iload 1, .iload 2] 3 = true := qck_r (nn_ _) (by decide +kernel)
theorem bs_X11_orderAll_0 {P : Zt → Option Zv → Prop} (K : Int → Zl → List Zv → Zt → Prop) : sx_ K P [.aload 0, .iload 1, .iload 2] 3 = x_aload 0 (x_iload 1 (x_iload 2 (K 3))) := ((xe_aload 0).trans (congrArg (x_aload 0) ((xe_iload 1).trans (congrArg (x_iload 1) ((xe_iload 2).trans (congrArg (x_iload 2) xe_nil))))))
set_option maxRecDepth 100000 in
theorem cl_X11_514 : cv_ RX11 514 yX11_tellAll zX11_tellAll 11 2 := ⟨gi_V (lwq_9 (dqc_m (dqc_m (dqc_m (dqc_m (dqc_m (List.mem_of_getElem? (i := 6) rfl)))))) rfl : Cond.methodLink RX11 514 yX11_tellAll ∈ lw_g) (lwq_9 (dqc_m (dqc_m (dqc_m (dqc_m (dqc_m (dqa_m (List.mem_of_getElem? (i := 0) rfl))))))) rfl : Cond.instanceMethod yX11_tellAll ∈ lw_g) (lw_sel 74 rfl : Cond.selects yX11_tellAll.cls yX11_tellAll yX11_tellAll ∈ lw_g) (lwq_1 (dqa_m (List.mem_of_getElem? (i := 2) rfl)) rfl : Cond.initialized yX11_tellAll.cls ∈ lw_g) (lwq_9 (dqc_m (dqc_m (dqc_m (dqc_m (dqc_m (dqa_m (List.mem_of_getElem? (i := 1) rfl))))))) rfl : Cond.code yX11_tellAll cX11_tellAll 4 none ∈ lw_g), ⟨nmh_1.1, nmh_1.2, pdq_0⟩, ⟨_, _, rfl⟩⟩
theorem bk_X11_orderAll_6 : ck_ fX11 none cX11_orderAll 6 [.aload 0, .aload 0, .tableswitch 0 11 8 #[], .iload 1, .iaload, .tableswitch 1 11 79 #[], .iconst 0, .istore 3] 18 = true := qck_r (nn_ _) (by decide +kernel)
theorem bs_X11_orderAll_6 {P : Zt → Option Zv → Prop} (K : Int → Zl → List Zv → Zt → Prop) : sx_ K P [.aload 0, .aload 0, .tableswitch 0 11 8 #[], .iload 1, .iaload, .tableswitch 1 11 79 #[], .iconst 0, .istore 3] 18 = x_aload 0 (x_aload 0 (x_g1 111 208 (x_iload 1 (x_iaload (x_p 111 79 0 12 (x_iconst 0 (x_istore 3 (K 18)))))))) := ((xe_aload 0).trans (congrArg (x_aload 0) ((xe_aload 0).trans (congrArg (x_aload 0) ((xe_g1 (kk := 111) rfl tl_11_8).trans (congrArg (x_g1 111 208) ((xe_iload 1).trans (congrArg (x_iload 1) ((xe_iaload).trans (congrArg (x_iaload) ((xe_p (kk := 111) rfl tl_11_79).trans (congrArg (x_p 111 79 0 12) ((xe_iconst 0).trans (congrArg (x_iconst 0) ((xe_istore 3).trans (congrArg (x_istore 3) xe_nil))))))))))))))))
abbrev po_X11_orderAll (T : Zt) (c d : Int) : Zt → Option Zv → Prop := fun T' r => r = none ∧ fr_ [(276, []), (284, []), (277, []), (286, []), (278, []), (111, [82, 83, 85, 87, 79])] T T' ∧ (TB_ T' 150000000 ∧ ∀ v, HE_ T c v → OC_ T' 12 v)
set_option maxHeartbeats 4000000 in
theorem ct_X11_orderAll {T : Zt} {c d : Int} (h1 : 0 ≤ c ∧ c < T 111 0 6) (hri : RI_ T) (hml : ML_ T) (hsc : SC_ T) (hyb : YB_ T) : Ct_ yX11_orderAll zX11_orderAll T [vR 111 0, vI c, vI d] (po_X11_orderAll T c d) := by
  refine ct_of pn_11 rfl rfl (Nat.le_of_ble_eq_true rfl) (fun hT hav => ?_)
  have hr_c : -2147483648 ≤ c ∧ c ≤ 2147483647 := hav (vI c) (List.mem_cons_of_mem _ List.mem_cons_self)
  have hr_d : -2147483648 ≤ d ∧ d ≤ 2147483647 := hav (vI d) (List.mem_cons_of_mem _ (List.mem_cons_of_mem _ List.mem_cons_self))
  have hz : zX11_orderAll.2.2.2.1 = some .boolean → ∀ (T' : Zt) (x : Int), po_X11_orderAll T c d T' (some (vI x)) → 0 ≤ x ∧ x ≤ 1 := fun h => by cases h
  have hb_6 : 0 ≤ T 111 0 6 ∧ T 111 0 6 ≤ 4 := bd_f hT 111 6 tl_11_6 0
  have hed : 0 ≤ T 208 0 c ∧ T 208 0 c ≤ 12 := bd_a hT 208 (by decide +kernel : ta_ 208 = some (1, some 4, 0, 12)) 0 (by omega)
  have hr4 : (0 : Int) ≤ T 205 0 (23 * c + 4) ∧ T 205 0 (23 * c + 4) ≤ (7 : Int) := hri c 4 (by omega) (by omega) (by omega) (by omega)
  show J_ zX11_orderAll T (po_X11_orderAll T c d) 0 0 0 [some (vR 111 0), some (vI c), some (vI d), none, none, none] [] T
  have c_71 : ∀ (nn : Nat) (s : Int) (w : Int) (T2 : Zt), ((w + 1).toNat) ≤ nn → (fr_ [(276, []), (284, []), (277, []), (286, []), (278, []), (111, [82, 83, 85, 87, 79])] T T2) → (PQ_ T2 (T 208 0 c) s w) → (s ≤ T 208 0 c ∧ 0 ≤ w) → (TB_ T2 150000000) → (∀ v, HE_ T c v → OC_ T2 (T 208 0 c) v) → J_ zX11_orderAll T (po_X11_orderAll T c d) 0 0 71 [some (vR 111 0), some (vI c), some (vI d), none, none, none] [] T2 := by
    intro nn
    induction nn using Nat.strongRecOn with
    | _ nn ih_71 =>
      intro s w T2 hm_71 hf_71 hpq hs2 tb2 oc2
      replace hm_71 := fun (_ : Unit) => hm_71
      refine j_blx (F := fX11) tb_X11 (nn_ _) bk_X11_orderAll_71 bs_X11_orderAll_71 hz (fun K hK => ?_)
      intro b1 b1b
      refine And.intro (fun c2 => ?_) (fun c2 => ?_)
      · refine hK 157 _ [] T2 ?_
        refine j_blx (F := fX11) tb_X11 (nn_ _) bk_X11_orderAll_157 bs_X11_orderAll_157 hz (fun K hK => ?_)
        refine (show po_X11_orderAll T c d T2 (none) from ?_)
        exact ⟨rfl, fr_t (fr_0 _ _) (fr_s hf_71 rfl), tb2, fun v hv => oc_m (oc2 v hv) (by omega)⟩
      · have hq0 := pq_3 hpq (by omega)
        intro b3 b3b
        refine rg_i (by omega) ?_
        refine bd_i (by omega) ?_
        refine x_nm (fun U4 hU4 => ?_)
        have e5 := up_f hU4
        obtain ⟨hq1, hq2, hq3, hq4, hq5, hq6⟩ := pq_p hpq (by omega) (fun j => up_k hU4 (by exact Nat.ne_of_beq_eq_false rfl) 0 j) (up_f hU4)
        intro b6 b6b
        have e7 : U4 111 0 87 = (T2 111 0 87) - 3 := up_f hU4
        rw [e7] at b6 b6b ⊢
        refine ix_i (by omega) ?_
        intro b8 b8b
        have e9 : U4 286 0 ((T2 111 0 87) - 3) = T2 286 0 ((T2 111 0 87) - 3) := up_k hU4 (by exact Nat.ne_of_beq_eq_false rfl) 0 ((T2 111 0 87) - 3)
        rw [e9] at b8 b8b ⊢
        intro b10 b10b
        have e11 : U4 111 0 87 = (T2 111 0 87) - 3 := up_f hU4
        rw [e11] at b10 b10b ⊢
        refine rg_i (by omega) ?_
        refine ix_i (by omega) ?_
        intro b12 b12b
        have e13 : U4 286 0 (((T2 111 0 87) - 3) + 1) = T2 286 0 (((T2 111 0 87) - 3) + 1) := up_k hU4 (by exact Nat.ne_of_beq_eq_false rfl) 0 (((T2 111 0 87) - 3) + 1)
        rw [e13] at b12 b12b ⊢
        intro b14 b14b
        have e15 : U4 111 0 87 = (T2 111 0 87) - 3 := up_f hU4
        rw [e15] at b14 b14b ⊢
        refine rg_i (by omega) ?_
        refine ix_i (by omega) ?_
        intro b16 b16b
        have e17 : U4 286 0 (((T2 111 0 87) - 3) + 2) = T2 286 0 (((T2 111 0 87) - 3) + 2) := up_k hU4 (by exact Nat.ne_of_beq_eq_false rfl) 0 (((T2 111 0 87) - 3) + 2)
        rw [e17] at b16 b16b ⊢
        refine rg_i (by omega) ?_
        refine And.intro (fun c18 => ?_) (fun c18 => ?_)
        · refine hK 154 [some (vR 111 0), some (vI c), some (vI d), some (vI (T2 286 0 ((T2 111 0 87) - 3))), some (vI (T2 286 0 (((T2 111 0 87) - 3) + 1))), some (vI (T2 286 0 (((T2 111 0 87) - 3) + 2)))] [] U4 ?_
          refine j_blx (F := fX11) tb_X11 (nn_ _) bk_X11_orderAll_154 bs_X11_orderAll_154 hz (fun K hK => ?_)
          refine hK 71 _ [] U4 ?_
          refine j_drq [some (vR 111 0), some (vI c), some (vI d), none, none, none] (drq_s (drq_s (drq_s (drq_n (drq_n (drq_n drq_0)))))) ?_
          refine ih_71 _ ?_ (s - (T2 286 0 (T2 111 0 87 - 3 + 1) - T2 286 0 (T2 111 0 87 - 3))) (w - wt_ (T2 286 0 (T2 111 0 87 - 3 + 1) - T2 286 0 (T2 111 0 87 - 3)) (T2 286 0 (T2 111 0 87 - 3 + 2))) U4 (Nat.le_refl _) ?_ ?_ ?_ ?_ ?_
          · have hm_71 := hm_71 (); omega
          · exact fr_u (fr_t (fr_0 _ _) (fr_s hf_71 rfl)) hU4 rfl
          · exact hq1
          · omega
          · exact tb_f tb2 (fun j => up_k hU4 (by exact Nat.ne_of_beq_eq_false rfl) 0 j)
          · exact fun v hv => oc_f (oc2 v hv) (fun j => up_k hU4 (by exact Nat.ne_of_beq_eq_false rfl) 0 j)
        · refine hK 137 [some (vR 111 0), some (vI c), some (vI d), some (vI (T2 286 0 ((T2 111 0 87) - 3))), some (vI (T2 286 0 (((T2 111 0 87) - 3) + 1))), some (vI (T2 286 0 (((T2 111 0 87) - 3) + 2)))] [vI 4, vI c, vR 111 0, vI (T2 286 0 (((T2 111 0 87) - 3) + 2))] U4 ?_
          refine j_callV (y := yX11_rule0) (Yc := zX11_rule0) (rest := [vI (T2 286 0 (((T2 111 0 87) - 3) + 2))]) [vI c, vI 4] (ct_X11_rule0 (T := U4) (by omega) (by omega)) cl_X11_321 (qd_c (by decide +kernel)) (nn_ _) rfl (rf_of rfl) (Nat.le_of_ble_eq_true rfl) (Nat.le_of_ble_eq_true rfl) (Nat.le_of_ble_eq_true rfl) rfl ?_
          rintro _ _ ⟨rfl, rfl⟩
          have e19 : U4 205 0 (23 * c + 4) = T 205 0 (23 * c + 4) := (up_k hU4 (by exact Nat.ne_of_beq_eq_false rfl) 0 (23 * c + 4)).trans (hf_71 205 0 (23 * c + 4) rfl)
          show J_ zX11_orderAll T (po_X11_orderAll T c d) 0 0 140 _ [vI (U4 205 0 (23 * c + 4)), vI (T2 286 0 (((T2 111 0 87) - 3) + 2))] U4
          refine j_blx (F := fX11) tb_X11 (nn_ _) bk_X11_orderAll_140 bs_X11_orderAll_140 hz (fun K hK => ?_)
          refine And.intro (fun c20 => ?_) (fun c20 => ?_)
          · refine hK 154 _ [] U4 ?_
            refine j_blx (F := fX11) tb_X11 (nn_ _) bk_X11_orderAll_154 bs_X11_orderAll_154 hz (fun K hK => ?_)
            refine hK 71 _ [] U4 ?_
            refine j_drq [some (vR 111 0), some (vI c), some (vI d), none, none, none] (drq_s (drq_s (drq_s (drq_n (drq_n (drq_n drq_0)))))) ?_
            refine ih_71 _ ?_ (s - (T2 286 0 (T2 111 0 87 - 3 + 1) - T2 286 0 (T2 111 0 87 - 3))) (w - wt_ (T2 286 0 (T2 111 0 87 - 3 + 1) - T2 286 0 (T2 111 0 87 - 3)) (T2 286 0 (T2 111 0 87 - 3 + 2))) U4 (Nat.le_refl _) ?_ ?_ ?_ ?_ ?_
            · have hm_71 := hm_71 (); omega
            · exact fr_u (fr_t (fr_0 _ _) (fr_s hf_71 rfl)) hU4 rfl
            · exact hq1
            · omega
            · exact tb_f tb2 (fun j => up_k hU4 (by exact Nat.ne_of_beq_eq_false rfl) 0 j)
            · exact fun v hv => oc_f (oc2 v hv) (fun j => up_k hU4 (by exact Nat.ne_of_beq_eq_false rfl) 0 j)
          · refine hK 151 [some (vR 111 0), some (vI c), some (vI d), some (vI (T2 286 0 ((T2 111 0 87) - 3))), some (vI (T2 286 0 (((T2 111 0 87) - 3) + 1))), some (vI (T2 286 0 (((T2 111 0 87) - 3) + 2)))] [vI (T2 286 0 (((T2 111 0 87) - 3) + 2)), vI (T2 286 0 (((T2 111 0 87) - 3) + 1)), vI (T2 286 0 ((T2 111 0 87) - 3)), vI d, vI c, vR 111 0] U4 ?_
            refine j_callV (y := yX11_orderPart) (Yc := zX11_orderPart) (rest := []) [vI c, vI d, vI (T2 286 0 ((T2 111 0 87) - 3)), vI (T2 286 0 (((T2 111 0 87) - 3) + 1)), vI (T2 286 0 (((T2 111 0 87) - 3) + 2))] (ct_X11_orderPart (T := U4) (n := T 208 0 c) (s := s - (T2 286 0 (T2 111 0 87 - 3 + 1) - T2 286 0 (T2 111 0 87 - 3))) (w := w - wt_ (T2 286 0 (T2 111 0 87 - 3 + 1) - T2 286 0 (T2 111 0 87 - 3)) (T2 286 0 (T2 111 0 87 - 3 + 2))) (by omega) (ML__f (ws := [(111, [87, 82, 83, 85, 87, 79]), (276, []), (284, []), (277, []), (286, []), (278, [])]) hml (fr_u (fr_t (fr_0 _ _) (fr_s hf_71 rfl)) hU4 rfl) ⟨fun _ => rfl, fun _ => rfl, rfl, trivial⟩) (SC__f (ws := [(111, [87, 82, 83, 85, 87, 79]), (276, []), (284, []), (277, []), (286, []), (278, [])]) hsc (fr_u (fr_t (fr_0 _ _) (fr_s hf_71 rfl)) hU4 rfl) ⟨fun _ => rfl, fun _ => rfl, trivial⟩) (by omega) (tb_f tb2 (fun j => up_k hU4 (by exact Nat.ne_of_beq_eq_false rfl) 0 j)) (by omega) hq1) cl_X11_523 (qd_c (by decide +kernel)) (nn_ _) rfl (rf_of rfl) (Nat.le_of_ble_eq_true rfl) (Nat.le_of_ble_eq_true rfl) (Nat.le_of_ble_eq_true rfl) rfl ?_
            rintro U21 _ ⟨rfl, fU21, qU21⟩
            show J_ zX11_orderAll T (po_X11_orderAll T c d) 0 0 154 _ [] U21
            refine j_blx (F := fX11) tb_X11 (nn_ _) bk_X11_orderAll_154 bs_X11_orderAll_154 hz (fun K hK => ?_)
            refine hK 71 _ [] U21 ?_
            refine j_drq [some (vR 111 0), some (vI c), some (vI d), none, none, none] (drq_s (drq_s (drq_s (drq_n (drq_n (drq_n drq_0)))))) ?_
            refine ih_71 _ ?_ (s - (T2 286 0 (T2 111 0 87 - 3 + 1) - T2 286 0 (T2 111 0 87 - 3)) + (T2 286 0 (T2 111 0 87 - 3 + 1) - T2 286 0 (T2 111 0 87 - 3))) (w - wt_ (T2 286 0 (T2 111 0 87 - 3 + 1) - T2 286 0 (T2 111 0 87 - 3)) (T2 286 0 (T2 111 0 87 - 3 + 2)) + wt_ (T2 286 0 (T2 111 0 87 - 3 + 1) - T2 286 0 (T2 111 0 87 - 3)) (T2 286 0 (T2 111 0 87 - 3 + 2)) - 1) U21 (Nat.le_refl _) ?_ ?_ ?_ ?_ ?_
            · have hm_71 := hm_71 (); omega
            · exact fr_t (fr_u (fr_t (fr_0 _ _) (fr_s hf_71 rfl)) hU4 rfl) (fr_s fU21 rfl)
            · exact qU21.1
            · omega
            · exact tb_f tb2 (fun j => (fU21 276 0 j rfl).trans (up_k hU4 (by exact Nat.ne_of_beq_eq_false rfl) 0 j))
            · exact fun v hv => qU21.2 v (oc_f (oc2 v hv) (fun j => up_k hU4 (by exact Nat.ne_of_beq_eq_false rfl) 0 j))
  have c_18 : ∀ (nn : Nat) (i : Int) (T1 : Zt), ((12 - i).toNat) ≤ nn → (fr_ [(276, []), (277, []), (278, []), (111, [82, 83, 79])] T T1) → (0 ≤ i ∧ T1 111 0 79 = T 208 0 c ∧ i ≤ T 208 0 c) → (TB_ T1 150000000) → (∀ j, 0 ≤ j → j < i → T1 277 0 j = T 207 0 (12 * c + j)) → J_ zX11_orderAll T (po_X11_orderAll T c d) 0 0 18 [some (vR 111 0), some (vI c), some (vI d), some (vI i), none, none] [] T1 := by
    intro nn
    induction nn using Nat.strongRecOn with
    | _ nn ih_18 =>
      intro i T1 hm_18 hf_18 i1 tb1 sc1
      replace hm_18 := fun (_ : Unit) => hm_18
      refine j_blx (F := fX11) tb_X11 (nn_ _) bk_X11_orderAll_18 bs_X11_orderAll_18 hz (fun K hK => ?_)
      intro b22 b22b
      refine And.intro (fun c23 => ?_) (fun c23 => ?_)
      · refine hK 56 _ [] T1 ?_
        refine j_blx (F := fX11) tb_X11 (nn_ _) bk_X11_orderAll_56 bs_X11_orderAll_56 hz (fun K hK => ?_)
        refine bd_i (by omega) ?_
        refine x_nm (fun U24 hU24 => ?_)
        have e25 := up_f hU24
        intro b26 b26b
        have e27 : U24 111 0 79 = T1 111 0 79 := up_j hU24 (by exact ni_ rfl) 111 0
        rw [e27] at b26 b26b ⊢
        refine hK 68 _ [vI 0, vI (T1 111 0 79), vI 0, vR 111 0] U24 ?_
        have e28 : U24 111 0 87 = 0 := up_f hU24
        refine j_callV (y := yX11_lay) (Yc := zX11_lay) (rest := []) [vI 0, vI (T1 111 0 79), vI 0] (ct_X11_lay (T := U24) (by omega) (by omega) (by omega) (by omega)) cl_X11_520 (qd_c (by decide +kernel)) (nn_ _) rfl (rf_of rfl) (Nat.le_of_ble_eq_true rfl) (Nat.le_of_ble_eq_true rfl) (Nat.le_of_ble_eq_true rfl) rfl ?_
        rintro U29 _ ⟨rfl, fU29, qU29⟩
        show J_ zX11_orderAll T (po_X11_orderAll T c d) 0 0 71 _ [] U29
        refine j_drq [some (vR 111 0), some (vI c), some (vI d), none, none, none] (drq_s (drq_s (drq_s (drq_n (drq_n (drq_n drq_0)))))) ?_
        refine c_71 _ (0 + (T1 111 0 79 - 0)) (0 + wt_ (T1 111 0 79 - 0) 0) U29 (Nat.le_refl _) ?_ ?_ ?_ ?_ ?_
        · exact fr_t (fr_u (fr_t (fr_0 _ _) (fr_s hf_18 rfl)) hU24 rfl) (fr_s fU29 rfl)
        · exact ⟨1, _, by omega, pp_l (p := 0) (T := U24) ⟨rfl, rfl⟩ (by omega) (fun _ => rfl) rfl qU29 (by omega), Int.le_refl _⟩
        · have := wt_1 (s := T1 111 0 79 - 0) (k := 0) (by decide); omega
        · exact tb_f tb1 (fun j => (fU29 276 0 j rfl).trans (up_k hU24 (by exact Nat.ne_of_beq_eq_false rfl) 0 j))
        · intro v hv
          obtain ⟨j, a, b, e9⟩ := hv
          exact oc_f ⟨j, a, b, (sc1 j a (by omega)).trans e9⟩ (fun j => (fU29 277 0 j rfl).trans (up_k hU24 (by exact Nat.ne_of_beq_eq_false rfl) 0 j))
      · refine rg_i (by omega) ?_
        refine rg_i (by omega) ?_
        refine ix_i (by omega) ?_
        intro b30 b30b
        have e31 : T1 207 0 ((12 * c) + i) = T 207 0 ((12 * c) + i) := hf_18 207 0 ((12 * c) + i) rfl
        rw [e31] at b30 b30b ⊢
        refine iy_i (by omega) (by omega) ?_
        refine x_nm (fun U32 hU32 => ?_)
        have e33 := up_f hU32
        refine iy_i (by omega) (by omega) ?_
        refine x_nm (fun U34 hU34 => ?_)
        have e35 := up_f hU34
        refine rg_i (by omega) ?_
        refine hK 18 [some (vR 111 0), some (vI c), some (vI d), some (vI (i + 1)), none, none] [] U34 ?_
        have e36 : U34 111 0 79 = T1 111 0 79 := (up_k hU34 (by exact Nat.ne_of_beq_eq_false rfl) 0 79).trans (up_k hU32 (by exact Nat.ne_of_beq_eq_false rfl) 0 79)
        refine ih_18 _ ?_ (i + 1) U34 (Nat.le_refl _) ?_ ?_ ?_ ?_
        · have hm_18 := hm_18 (); omega
        · exact fr_u (fr_u (fr_t (fr_0 _ _) (fr_s hf_18 rfl)) hU32 rfl) hU34 rfl
        · omega
        · exact tb_f tb1 (fun j => (up_k hU34 (by exact Nat.ne_of_beq_eq_false rfl) 0 j).trans (up_k hU32 (by exact Nat.ne_of_beq_eq_false rfl) 0 j))
        · intro j a b
          by_cases z : j = i
          · rw [z]; exact (up_k hU34 (by exact Nat.ne_of_beq_eq_false rfl) 0 i).trans (up_f hU32)
          · exact ((up_k hU34 (by exact Nat.ne_of_beq_eq_false rfl) 0 j).trans (up_g hU32 (by omega))).trans (sc1 j a (by omega))
  refine j_blx (F := fX11) tb_X11 (nn_ _) bk_X11_orderAll_0 bs_X11_orderAll_0 hz (fun K hK => ?_)
  refine hK 3 _ [vI d, vI c, vR 111 0] T ?_
  refine j_callV (y := yX11_tellAll) (Yc := zX11_tellAll) (rest := []) [vI c, vI d] (ct_X11_tellAll (T := T) (by omega) (hml) (hsc) (hyb)) cl_X11_514 (qd_c (by decide +kernel)) (nn_ _) rfl (rf_of rfl) (Nat.le_of_ble_eq_true rfl) (Nat.le_of_ble_eq_true rfl) (Nat.le_of_ble_eq_true rfl) rfl ?_
  rintro U37 _ ⟨rfl, fU37, qU37⟩
  show J_ zX11_orderAll T (po_X11_orderAll T c d) 0 0 6 _ [] U37
  refine j_blx (F := fX11) tb_X11 (nn_ _) bk_X11_orderAll_6 bs_X11_orderAll_6 hz (fun K hK => ?_)
  refine ix_i (by omega) ?_
  intro b38 b38b
  have e39 : U37 208 0 c = T 208 0 c := fU37 208 0 c rfl
  rw [e39] at b38 b38b ⊢
  refine bd_i (by omega) ?_
  refine x_nm (fun U40 hU40 => ?_)
  have e41 := up_f hU40
  refine hK 18 [some (vR 111 0), some (vI c), some (vI d), some (vI 0), none, none] [] U40 ?_
  have e42 : U40 111 0 79 = T 208 0 c := up_f hU40
  refine c_18 _ 0 U40 (Nat.le_refl _) ?_ ?_ ?_ ?_
  · exact fr_u (fr_t (fr_0 _ _) (fr_s fU37 rfl)) hU40 rfl
  · omega
  · exact tb_f qU37 (fun j => up_k hU40 (by exact Nat.ne_of_beq_eq_false rfl) 0 j)
  · intro j a b; omega
abbrev cX11_table : ByteArray := prog_13_method_94_code
def yX11_table : MethodName := ⟨RX11, "table", "(IIII)I"⟩
def zX11_table : Zm := (RX11, cX11_table, 5, (some .int), { frames := 5, cells := 0, slots := 0, locals := 128 })
theorem bk_X11_table_95 : ck_ fX11 (some .int) cX11_table 95 [.ireturn] 96 = true := qck_r (nn_ _) (by decide +kernel)
theorem bs_X11_table_95 {P : Zt → Option Zv → Prop} (K : Int → Zl → List Zv → Zt → Prop) : sx_ K P [.ireturn] 96 = x_ireturn P := (xe_ireturn)
theorem bk_X11_table_0 : ck_ fX11 (some .int) cX11_table 0 [.iload 1, .aload 0, .tableswitch 0 11 6 #[]] 5 = true := qck_r (nn_ _) (by decide +kernel)
theorem bs_X11_table_0 {P : Zt → Option Zv → Prop} (K : Int → Zl → List Zv → Zt → Prop) : sx_ K P [.iload 1, .aload 0, .tableswitch 0 11 6 #[]] 5 = x_iload 1 (x_aload 0 (x_g0 111 6 0 4 (K 5))) := ((xe_iload 1).trans (congrArg (x_iload 1) ((xe_aload 0).trans (congrArg (x_aload 0) ((xe_g0 (kk := 111) rfl tl_11_6).trans (congrArg (x_g0 111 6 0 4) xe_nil))))))
theorem bk_X11_table_8 : ck_ fX11 (some .int) cX11_table 8 [.ifCond .eq 22, .iload 3, .aload 0, .tableswitch 0 11 12 #[]] 16 = true := qck_r (nn_ _) (by decide +kernel)
theorem bs_X11_table_8 {P : Zt → Option Zv → Prop} (K : Int → Zl → List Zv → Zt → Prop) : sx_ K P [.ifCond .eq 22, .iload 3, .aload 0, .tableswitch 0 11 12 #[]] 16 = x_ifCond .eq 22 K (x_iload 3 (x_aload 0 (x_g0 111 12 0 12 (K 16)))) := ((xe_ifCond .eq 22).trans (congrArg (x_ifCond .eq 22 K) ((xe_iload 3).trans (congrArg (x_iload 3) ((xe_aload 0).trans (congrArg (x_aload 0) ((xe_g0 (kk := 111) rfl tl_11_12).trans (congrArg (x_g0 111 12 0 12) xe_nil))))))))
theorem bk_X11_table_22 : ck_ fX11 (some .int) cX11_table 22 [.iconst (-2), .ireturn] 25 = true := qck_r (nn_ _) (by decide +kernel)
theorem bs_X11_table_22 {P : Zt → Option Zv → Prop} (K : Int → Zl → List Zv → Zt → Prop) : sx_ K P [.iconst (-2), .ireturn] 25 = x_iconst (-2) (x_ireturn P) := ((xe_iconst (-2)).trans (congrArg (x_iconst (-2)) (xe_ireturn)))
theorem bk_X11_table_19 : ck_ fX11 (some .int) cX11_table 19 [.ifCond .ne 25, .iconst (-2), .ireturn] 25 = true := qck_r (nn_ _) (by decide +kernel)
theorem bs_X11_table_19 {P : Zt → Option Zv → Prop} (K : Int → Zl → List Zv → Zt → Prop) : sx_ K P [.ifCond .ne 25, .iconst (-2), .ireturn] 25 = x_ifCond .ne 25 K (x_iconst (-2) (x_ireturn P)) := ((xe_ifCond .ne 25).trans (congrArg (x_ifCond .ne 25 K) ((xe_iconst (-2)).trans (congrArg (x_iconst (-2)) (xe_ireturn)))))
theorem bk_X11_table_25 : ck_ fX11 (some .int) cX11_table 25 [.iload 2, .iconst 0, .iconst 999] 30 = true := qck_r (nn_ _) (by decide +kernel)
theorem bs_X11_table_25 {P : Zt → Option Zv → Prop} (K : Int → Zl → List Zv → Zt → Prop) : sx_ K P [.iload 2, .iconst 0, .iconst 999] 30 = x_iload 2 (x_iconst 0 (x_iconst 999 (K 30))) := ((xe_iload 2).trans (congrArg (x_iload 2) ((xe_iconst 0).trans (congrArg (x_iconst 0) ((xe_iconst 999).trans (congrArg (x_iconst 999) xe_nil))))))
theorem bk_X11_table_33 : ck_ fX11 (some .int) cX11_table 33 [.ifCond .eq 47, .iload 4, .iconst 0, .iconst 7] 41 = true := qck_r (nn_ _) (by decide +kernel)
theorem bs_X11_table_33 {P : Zt → Option Zv → Prop} (K : Int → Zl → List Zv → Zt → Prop) : sx_ K P [.ifCond .eq 47, .iload 4, .iconst 0, .iconst 7] 41 = x_ifCond .eq 47 K (x_iload 4 (x_iconst 0 (x_iconst 7 (K 41)))) := ((xe_ifCond .eq 47).trans (congrArg (x_ifCond .eq 47 K) ((xe_iload 4).trans (congrArg (x_iload 4) ((xe_iconst 0).trans (congrArg (x_iconst 0) ((xe_iconst 7).trans (congrArg (x_iconst 7) xe_nil))))))))
theorem bk_X11_table_47 : ck_ fX11 (some .int) cX11_table 47 [.iconst (-3), .ireturn] 50 = true := qck_r (nn_ _) (by decide +kernel)
theorem bs_X11_table_47 {P : Zt → Option Zv → Prop} (K : Int → Zl → List Zv → Zt → Prop) : sx_ K P [.iconst (-3), .ireturn] 50 = x_iconst (-3) (x_ireturn P) := ((xe_iconst (-3)).trans (congrArg (x_iconst (-3)) (xe_ireturn)))
theorem bk_X11_table_44 : ck_ fX11 (some .int) cX11_table 44 [.ifCond .ne 50, .iconst (-3), .ireturn] 50 = true := qck_r (nn_ _) (by decide +kernel)
theorem bs_X11_table_44 {P : Zt → Option Zv → Prop} (K : Int → Zl → List Zv → Zt → Prop) : sx_ K P [.ifCond .ne 50, .iconst (-3), .ireturn] 50 = x_ifCond .ne 50 K (x_iconst (-3) (x_ireturn P)) := ((xe_ifCond .ne 50).trans (congrArg (x_ifCond .ne 50 K) ((xe_iconst (-3)).trans (congrArg (x_iconst (-3)) (xe_ireturn)))))
theorem bk_X11_table_50 : ck_ fX11 (some .int) cX11_table 50 [.aload 0, .iload 1, .iload 3] 53 = true := qck_r (nn_ _) (by decide +kernel)
theorem bs_X11_table_50 {P : Zt → Option Zv → Prop} (K : Int → Zl → List Zv → Zt → Prop) : sx_ K P [.aload 0, .iload 1, .iload 3] 53 = x_aload 0 (x_iload 1 (x_iload 3 (K 53))) := ((xe_aload 0).trans (congrArg (x_aload 0) ((xe_iload 1).trans (congrArg (x_iload 1) ((xe_iload 3).trans (congrArg (x_iload 3) xe_nil))))))
theorem bk_X11_table_56 : ck_ fX11 (some .int) cX11_table 56 [.ifCond .ne 62, .iconst (-4), .ireturn] 62 = true := qck_r (nn_ _) (by decide +kernel)
theorem bs_X11_table_56 {P : Zt → Option Zv → Prop} (K : Int → Zl → List Zv → Zt → Prop) : sx_ K P [.ifCond .ne 62, .iconst (-4), .ireturn] 62 = x_ifCond .ne 62 K (x_iconst (-4) (x_ireturn P)) := ((xe_ifCond .ne 62).trans (congrArg (x_ifCond .ne 62 K) ((xe_iconst (-4)).trans (congrArg (x_iconst (-4)) (xe_ireturn)))))
theorem bk_X11_table_62 : ck_ fX11 (some .int) cX11_table 62 [.aload 0, .iload 1, .iload 2] 65 = true := qck_r (nn_ _) (by decide +kernel)
theorem bs_X11_table_62 {P : Zt → Option Zv → Prop} (K : Int → Zl → List Zv → Zt → Prop) : sx_ K P [.aload 0, .iload 1, .iload 2] 65 = x_aload 0 (x_iload 1 (x_iload 2 (K 65))) := ((xe_aload 0).trans (congrArg (x_aload 0) ((xe_iload 1).trans (congrArg (x_iload 1) ((xe_iload 2).trans (congrArg (x_iload 2) xe_nil))))))
set_option maxRecDepth 100000 in
theorem cl_X11_532 : cv_ RX11 532 yX11_orderAll zX11_orderAll 11 2 := ⟨gi_V (lwq_9 (dqc_m (dqc_m (dqc_m (dqc_m (dqc_m (List.mem_of_getElem? (i := 2) rfl)))))) rfl : Cond.methodLink RX11 532 yX11_orderAll ∈ lw_g) (lwq_9 (dqc_m (dqc_m (dqc_m (dqc_m (dqc_m (List.mem_of_getElem? (i := 4) rfl)))))) rfl : Cond.instanceMethod yX11_orderAll ∈ lw_g) (lw_sel 41 rfl : Cond.selects yX11_orderAll.cls yX11_orderAll yX11_orderAll ∈ lw_g) (lwq_1 (dqa_m (List.mem_of_getElem? (i := 2) rfl)) rfl : Cond.initialized yX11_orderAll.cls ∈ lw_g) (lwq_9 (dqc_m (dqc_m (dqc_m (dqc_m (dqc_m (List.mem_of_getElem? (i := 5) rfl)))))) rfl : Cond.code yX11_orderAll cX11_orderAll 6 none ∈ lw_g), ⟨nmh_1.1, nmh_1.2, pdq_0⟩, ⟨_, _, rfl⟩⟩
theorem bk_X11_table_68 : ck_ fX11 (some .int) cX11_table 68 [.iload 4, .iconst 7, .if_icmp .ne 83, .aload 0, .iload 3] 77 = true := qck_r (nn_ _) (by decide +kernel)
theorem bs_X11_table_68 {P : Zt → Option Zv → Prop} (K : Int → Zl → List Zv → Zt → Prop) : sx_ K P [.iload 4, .iconst 7, .if_icmp .ne 83, .aload 0, .iload 3] 77 = x_iload 4 (x_iconst 7 (x_if_icmp .ne 83 K (x_aload 0 (x_iload 3 (K 77))))) := ((xe_iload 4).trans (congrArg (x_iload 4) ((xe_iconst 7).trans (congrArg (x_iconst 7) ((xe_if_icmp .ne 83).trans (congrArg (x_if_icmp .ne 83 K) ((xe_aload 0).trans (congrArg (x_aload 0) ((xe_iload 3).trans (congrArg (x_iload 3) xe_nil))))))))))
theorem bk_X11_table_83 : ck_ fX11 (some .int) cX11_table 83 [.aload 0, .tableswitch 0 11 76 #[], .iconst 9, .iload 3, .imul, .iload 4, .iadd, .iaload] 95 = true := qck_r (nn_ _) (by decide +kernel)
theorem bs_X11_table_83 {P : Zt → Option Zv → Prop} (K : Int → Zl → List Zv → Zt → Prop) : sx_ K P [.aload 0, .tableswitch 0 11 76 #[], .iconst 9, .iload 3, .imul, .iload 4, .iadd, .iaload] 95 = x_aload 0 (x_g1 111 276 (x_iconst 9 (x_iload 3 (x_imul (x_iload 4 (x_iadd (x_iaload (K 95)))))))) := ((xe_aload 0).trans (congrArg (x_aload 0) ((xe_g1 (kk := 111) rfl tl_11_76).trans (congrArg (x_g1 111 276) ((xe_iconst 9).trans (congrArg (x_iconst 9) ((xe_iload 3).trans (congrArg (x_iload 3) ((xe_imul).trans (congrArg (x_imul) ((xe_iload 4).trans (congrArg (x_iload 4) ((xe_iadd).trans (congrArg (x_iadd) ((xe_iaload).trans (congrArg (x_iaload) xe_nil))))))))))))))))
set_option maxRecDepth 100000 in
theorem cl_X11_535 : cv_ RX11 535 yX11_placeOf zX11_placeOf 11 1 := ⟨gi_V (lwq_9 (dqc_m (dqc_m (dqc_m (dqc_m (dqc_m (dqc_m (dqa_m (dqa_m (List.mem_of_getElem? (i := 4) rfl))))))))) rfl : Cond.methodLink RX11 535 yX11_placeOf ∈ lw_g) (lwq_9 (dqc_m (dqc_m (dqc_m (dqc_m (dqc_m (dqc_m (dqa_m (dqa_m (List.mem_of_getElem? (i := 6) rfl))))))))) rfl : Cond.instanceMethod yX11_placeOf ∈ lw_g) (lw_sel 45 rfl : Cond.selects yX11_placeOf.cls yX11_placeOf yX11_placeOf ∈ lw_g) (lwq_1 (dqa_m (List.mem_of_getElem? (i := 2) rfl)) rfl : Cond.initialized yX11_placeOf.cls ∈ lw_g) (lwq_9 (dqc_m (dqc_m (dqc_m (dqc_m (dqc_m (dqc_m (dqa_m (dqa_m (List.mem_of_getElem? (i := 7) rfl))))))))) rfl : Cond.code yX11_placeOf cX11_placeOf 3 (some .int) ∈ lw_g), ⟨nmh_1.1, nmh_1.2, pdq_15⟩, ⟨_, _, rfl⟩⟩
theorem bk_X11_table_80 : ck_ fX11 (some .int) cX11_table 80 [.goto 95] 83 = true := qck_r (nn_ _) (by decide +kernel)
theorem bs_X11_table_80 {P : Zt → Option Zv → Prop} (K : Int → Zl → List Zv → Zt → Prop) : sx_ K P [.goto 95] 83 = x_goto 95 K := (xe_goto 95)
abbrev po_X11_table (T : Zt) (c d cl w : Int) : Zt → Option Zv → Prop := fun T' r => ∃ x : Int, r = some (vI x) ∧ fr_ [(276, []), (284, []), (277, []), (286, []), (278, []), (111, [82, 83, 85, 87, 79])] T T' ∧ (True)
set_option maxHeartbeats 4000000 in
theorem ct_X11_table {T : Zt} {c d cl w : Int} (hri : RI_ T) (hml : ML_ T) (hsc : SC_ T) (hyb : YB_ T) : Ct_ yX11_table zX11_table T [vR 111 0, vI c, vI d, vI cl, vI w] (po_X11_table T c d cl w) := by
  refine ct_of pn_11 rfl rfl (Nat.le_of_ble_eq_true rfl) (fun hT hav => ?_)
  have hr_c : -2147483648 ≤ c ∧ c ≤ 2147483647 := hav (vI c) (List.mem_cons_of_mem _ List.mem_cons_self)
  have hr_d : -2147483648 ≤ d ∧ d ≤ 2147483647 := hav (vI d) (List.mem_cons_of_mem _ (List.mem_cons_of_mem _ List.mem_cons_self))
  have hr_cl : -2147483648 ≤ cl ∧ cl ≤ 2147483647 := hav (vI cl) (List.mem_cons_of_mem _ (List.mem_cons_of_mem _ (List.mem_cons_of_mem _ List.mem_cons_self)))
  have hr_w : -2147483648 ≤ w ∧ w ≤ 2147483647 := hav (vI w) (List.mem_cons_of_mem _ (List.mem_cons_of_mem _ (List.mem_cons_of_mem _ (List.mem_cons_of_mem _ List.mem_cons_self))))
  have hz : zX11_table.2.2.2.1 = some .boolean → ∀ (T' : Zt) (x : Int), po_X11_table T c d cl w T' (some (vI x)) → 0 ≤ x ∧ x ≤ 1 := fun h => by cases h
  have hb_6 : 0 ≤ T 111 0 6 ∧ T 111 0 6 ≤ 4 := bd_f hT 111 6 tl_11_6 0
  have hb_12 : 0 ≤ T 111 0 12 ∧ T 111 0 12 ≤ 12 := bd_f hT 111 12 tl_11_12 0
  show J_ zX11_table T (po_X11_table T c d cl w) 0 0 0 [some (vR 111 0), some (vI c), some (vI d), some (vI cl), some (vI w)] [] T
  have c_95 : ∀ (v : Int) (T9 : Zt), (fr_ [(276, []), (284, []), (277, []), (286, []), (278, []), (111, [82, 83, 85, 87, 79])] T T9) → J_ zX11_table T (po_X11_table T c d cl w) 0 0 95 [some (vR 111 0), some (vI c), some (vI d), some (vI cl), some (vI w)] [vI v] T9 := by
    intro v T9 hf_95
    refine j_blx (F := fX11) tb_X11 (nn_ _) bk_X11_table_95 bs_X11_table_95 hz (fun K hK => ?_)
    refine (show po_X11_table T c d cl w T9 (some (vI v)) from ?_)
    exact ⟨_, rfl, fr_t (fr_0 _ _) (fr_s hf_95 rfl), by trivial⟩
  refine j_blx (F := fX11) tb_X11 (nn_ _) bk_X11_table_0 bs_X11_table_0 hz (fun K hK => ?_)
  intro b1 b1b
  refine hK 5 _ [vI (T 111 0 6), vI c] T ?_
  refine j_callS (y := yX11_isOf) (Yc := zX11_isOf) (rest := []) [vI c, vI (T 111 0 6)] (ct_X11_isOf (T := T) (by omega)) cl_X11_317 (qd_c (by decide +kernel)) (nn_ _) rfl (rf_of rfl) (Nat.le_of_ble_eq_true rfl) (Nat.le_of_ble_eq_true rfl) (Nat.le_of_ble_eq_true rfl) rfl ?_
  rintro _ _ ⟨rfl, x2, rfl, hx2⟩
  show J_ zX11_table T (po_X11_table T c d cl w) 0 0 8 _ [vI x2] T
  refine j_blx (F := fX11) tb_X11 (nn_ _) bk_X11_table_8 bs_X11_table_8 hz (fun K hK => ?_)
  refine And.intro (fun c3 => ?_) (fun c3 => ?_)
  · replace hx2 := hx2.resolve_left (fun z => absurd (c3.symm.trans z.1) (by decide))
    clear c3
    refine hK 22 _ [] T ?_
    refine j_blx (F := fX11) tb_X11 (nn_ _) bk_X11_table_22 bs_X11_table_22 hz (fun K hK => ?_)
    refine (show po_X11_table T c d cl w T (some (vI (-2))) from ?_)
    exact ⟨_, rfl, fr_0 _ _, by trivial⟩
  · replace hx2 := hx2.resolve_right (fun z => c3 z.1)
    clear c3
    intro b4 b4b
    refine hK 16 _ [vI (T 111 0 12), vI cl] T ?_
    refine j_callS (y := yX11_isOf) (Yc := zX11_isOf) (rest := []) [vI cl, vI (T 111 0 12)] (ct_X11_isOf (T := T) (by omega)) cl_X11_317 (qd_c (by decide +kernel)) (nn_ _) rfl (rf_of rfl) (Nat.le_of_ble_eq_true rfl) (Nat.le_of_ble_eq_true rfl) (Nat.le_of_ble_eq_true rfl) rfl ?_
    rintro _ _ ⟨rfl, x5, rfl, hx5⟩
    show J_ zX11_table T (po_X11_table T c d cl w) 0 0 19 _ [vI x5] T
    refine j_blx (F := fX11) tb_X11 (nn_ _) bk_X11_table_19 bs_X11_table_19 hz (fun K hK => ?_)
    refine And.intro (fun c6 => ?_) (fun c6 => ?_)
    · replace hx5 := hx5.resolve_right (fun z => c6 z.1)
      clear c6
      refine hK 25 _ [] T ?_
      refine j_blx (F := fX11) tb_X11 (nn_ _) bk_X11_table_25 bs_X11_table_25 hz (fun K hK => ?_)
      refine hK 30 _ [vI 999, vI 0, vI d] T ?_
      refine j_callS (y := yX11_in) (Yc := zX11_in) (rest := []) [vI d, vI 0, vI 999] (ct_X11_in (T := T)) cl_X11_255 (qd_c (by decide +kernel)) (nn_ _) rfl (rf_of rfl) (Nat.le_of_ble_eq_true rfl) (Nat.le_of_ble_eq_true rfl) (Nat.le_of_ble_eq_true rfl) rfl ?_
      rintro _ _ ⟨rfl, x7, rfl, hx7⟩
      show J_ zX11_table T (po_X11_table T c d cl w) 0 0 33 _ [vI x7] T
      refine j_blx (F := fX11) tb_X11 (nn_ _) bk_X11_table_33 bs_X11_table_33 hz (fun K hK => ?_)
      refine And.intro (fun c8 => ?_) (fun c8 => ?_)
      · replace hx7 := hx7.resolve_left (fun z => absurd (c8.symm.trans z.1) (by decide))
        clear c8
        refine hK 47 _ [] T ?_
        refine j_blx (F := fX11) tb_X11 (nn_ _) bk_X11_table_47 bs_X11_table_47 hz (fun K hK => ?_)
        refine (show po_X11_table T c d cl w T (some (vI (-3))) from ?_)
        exact ⟨_, rfl, fr_0 _ _, by trivial⟩
      · replace hx7 := hx7.resolve_right (fun z => c8 z.1)
        clear c8
        refine hK 41 _ [vI 7, vI 0, vI w] T ?_
        refine j_callS (y := yX11_in) (Yc := zX11_in) (rest := []) [vI w, vI 0, vI 7] (ct_X11_in (T := T)) cl_X11_255 (qd_c (by decide +kernel)) (nn_ _) rfl (rf_of rfl) (Nat.le_of_ble_eq_true rfl) (Nat.le_of_ble_eq_true rfl) (Nat.le_of_ble_eq_true rfl) rfl ?_
        rintro _ _ ⟨rfl, x9, rfl, hx9⟩
        show J_ zX11_table T (po_X11_table T c d cl w) 0 0 44 _ [vI x9] T
        refine j_blx (F := fX11) tb_X11 (nn_ _) bk_X11_table_44 bs_X11_table_44 hz (fun K hK => ?_)
        refine And.intro (fun c10 => ?_) (fun c10 => ?_)
        · replace hx9 := hx9.resolve_right (fun z => c10 z.1)
          clear c10
          refine hK 50 _ [] T ?_
          refine j_blx (F := fX11) tb_X11 (nn_ _) bk_X11_table_50 bs_X11_table_50 hz (fun K hK => ?_)
          refine hK 53 _ [vI cl, vI c, vR 111 0] T ?_
          refine j_callV (y := yX11_hasEntered) (Yc := zX11_hasEntered) (rest := []) [vI c, vI cl] (ct_X11_hasEntered (T := T) (by omega)) cl_X11_340 (qd_c (by decide +kernel)) (nn_ _) rfl (rf_of rfl) (Nat.le_of_ble_eq_true rfl) (Nat.le_of_ble_eq_true rfl) (Nat.le_of_ble_eq_true rfl) rfl ?_
          rintro _ _ ⟨rfl, x11, rfl, hx11⟩
          show J_ zX11_table T (po_X11_table T c d cl w) 0 0 56 _ [vI x11] T
          refine j_blx (F := fX11) tb_X11 (nn_ _) bk_X11_table_56 bs_X11_table_56 hz (fun K hK => ?_)
          refine And.intro (fun c12 => ?_) (fun c12 => ?_)
          · refine hK 62 _ [] T ?_
            refine j_blx (F := fX11) tb_X11 (nn_ _) bk_X11_table_62 bs_X11_table_62 hz (fun K hK => ?_)
            refine hK 65 _ [vI d, vI c, vR 111 0] T ?_
            refine j_callV (y := yX11_orderAll) (Yc := zX11_orderAll) (rest := []) [vI c, vI d] (ct_X11_orderAll (T := T) (by omega) (hri) (hml) (hsc) (hyb)) cl_X11_532 (qd_c (by decide +kernel)) (nn_ _) rfl (rf_of rfl) (Nat.le_of_ble_eq_true rfl) (Nat.le_of_ble_eq_true rfl) (Nat.le_of_ble_eq_true rfl) rfl ?_
            rintro U13 _ ⟨rfl, fU13, ⟨qU13a, qU13b⟩⟩
            show J_ zX11_table T (po_X11_table T c d cl w) 0 0 68 _ [] U13
            refine j_blx (F := fX11) tb_X11 (nn_ _) bk_X11_table_68 bs_X11_table_68 hz (fun K hK => ?_)
            refine And.intro (fun c14 => ?_) (fun c14 => ?_)
            · refine hK 83 _ [] U13 ?_
              refine j_blx (F := fX11) tb_X11 (nn_ _) bk_X11_table_83 bs_X11_table_83 hz (fun K hK => ?_)
              refine rg_i (by omega) ?_
              refine rg_i (by omega) ?_
              refine ix_i (by omega) ?_
              intro b15 b15b
              refine hK 95 _ [vI (U13 276 0 ((9 * cl) + w))] U13 ?_
              refine c_95 (U13 276 0 ((9 * cl) + w)) U13 ?_
              · exact fr_t (fr_0 _ _) (fr_s fU13 rfl)
            · refine hK 77 _ [vI cl, vR 111 0] U13 ?_
              refine j_callV (y := yX11_placeOf) (Yc := zX11_placeOf) (rest := []) [vI cl] (ct_X11_placeOf (T := U13) (by exact qU13b cl ((hx11.resolve_right (fun z => absurd z.1 (by omega))).2))) cl_X11_535 (qd_c (by decide +kernel)) (nn_ _) rfl (rf_of rfl) (Nat.le_of_ble_eq_true rfl) (Nat.le_of_ble_eq_true rfl) (Nat.le_of_ble_eq_true rfl) rfl ?_
              rintro _ _ ⟨rfl, x16, rfl, hx16⟩
              show J_ zX11_table T (po_X11_table T c d cl w) 0 0 80 _ [vI x16] U13
              refine j_blx (F := fX11) tb_X11 (nn_ _) bk_X11_table_80 bs_X11_table_80 hz (fun K hK => ?_)
              refine hK 95 _ [vI x16] U13 ?_
              refine c_95 x16 U13 ?_
              · exact fr_t (fr_0 _ _) (fr_s fU13 rfl)
          · replace hx11 := hx11.resolve_left (fun z => absurd (c12.symm.trans z.1) (by decide))
            clear c12
            refine (show po_X11_table T c d cl w T (some (vI (-4))) from ?_)
            exact ⟨_, rfl, fr_0 _ _, by trivial⟩
        · replace hx9 := hx9.resolve_left (fun z => absurd (c10.symm.trans z.1) (by decide))
          clear c10
          refine (show po_X11_table T c d cl w T (some (vI (-3))) from ?_)
          exact ⟨_, rfl, fr_0 _ _, by trivial⟩
    · replace hx5 := hx5.resolve_left (fun z => absurd (c6.symm.trans z.1) (by decide))
      clear c6
      refine (show po_X11_table T c d cl w T (some (vI (-2))) from ?_)
      exact ⟨_, rfl, fr_0 _ _, by trivial⟩
abbrev cX11_standing : ByteArray := prog_13_method_95_code
def yX11_standing : MethodName := ⟨RX11, "standing", "(III)I"⟩
def zX11_standing : Zm := (RX11, cX11_standing, 4, (some .int), { frames := 5, cells := 0, slots := 0, locals := 128 })
theorem bk_X11_standing_55 : ck_ fX11 (some .int) cX11_standing 55 [.ireturn] 56 = true := qck_r (nn_ _) (by decide +kernel)
theorem bs_X11_standing_55 {P : Zt → Option Zv → Prop} (K : Int → Zl → List Zv → Zt → Prop) : sx_ K P [.ireturn] 56 = x_ireturn P := (xe_ireturn)
theorem bk_X11_standing_0 : ck_ fX11 (some .int) cX11_standing 0 [.iload 1, .aload 0, .tableswitch 0 11 6 #[]] 5 = true := qck_r (nn_ _) (by decide +kernel)
theorem bs_X11_standing_0 {P : Zt → Option Zv → Prop} (K : Int → Zl → List Zv → Zt → Prop) : sx_ K P [.iload 1, .aload 0, .tableswitch 0 11 6 #[]] 5 = x_iload 1 (x_aload 0 (x_g0 111 6 0 4 (K 5))) := ((xe_iload 1).trans (congrArg (x_iload 1) ((xe_aload 0).trans (congrArg (x_aload 0) ((xe_g0 (kk := 111) rfl tl_11_6).trans (congrArg (x_g0 111 6 0 4) xe_nil))))))
theorem bk_X11_standing_8 : ck_ fX11 (some .int) cX11_standing 8 [.ifCond .ne 14, .iconst (-2), .ireturn] 14 = true := qck_r (nn_ _) (by decide +kernel)
theorem bs_X11_standing_8 {P : Zt → Option Zv → Prop} (K : Int → Zl → List Zv → Zt → Prop) : sx_ K P [.ifCond .ne 14, .iconst (-2), .ireturn] 14 = x_ifCond .ne 14 K (x_iconst (-2) (x_ireturn P)) := ((xe_ifCond .ne 14).trans (congrArg (x_ifCond .ne 14 K) ((xe_iconst (-2)).trans (congrArg (x_iconst (-2)) (xe_ireturn)))))
theorem bk_X11_standing_14 : ck_ fX11 (some .int) cX11_standing 14 [.iload 2, .iconst 0, .iconst 999] 19 = true := qck_r (nn_ _) (by decide +kernel)
theorem bs_X11_standing_14 {P : Zt → Option Zv → Prop} (K : Int → Zl → List Zv → Zt → Prop) : sx_ K P [.iload 2, .iconst 0, .iconst 999] 19 = x_iload 2 (x_iconst 0 (x_iconst 999 (K 19))) := ((xe_iload 2).trans (congrArg (x_iload 2) ((xe_iconst 0).trans (congrArg (x_iconst 0) ((xe_iconst 999).trans (congrArg (x_iconst 999) xe_nil))))))
theorem bk_X11_standing_22 : ck_ fX11 (some .int) cX11_standing 22 [.ifCond .ne 28, .iconst (-3), .ireturn] 28 = true := qck_r (nn_ _) (by decide +kernel)
theorem bs_X11_standing_22 {P : Zt → Option Zv → Prop} (K : Int → Zl → List Zv → Zt → Prop) : sx_ K P [.ifCond .ne 28, .iconst (-3), .ireturn] 28 = x_ifCond .ne 28 K (x_iconst (-3) (x_ireturn P)) := ((xe_ifCond .ne 28).trans (congrArg (x_ifCond .ne 28 K) ((xe_iconst (-3)).trans (congrArg (x_iconst (-3)) (xe_ireturn)))))
theorem bk_X11_standing_28 : ck_ fX11 (some .int) cX11_standing 28 [.aload 0, .iload 1, .iload 2] 31 = true := qck_r (nn_ _) (by decide +kernel)
theorem bs_X11_standing_28 {P : Zt → Option Zv → Prop} (K : Int → Zl → List Zv → Zt → Prop) : sx_ K P [.aload 0, .iload 1, .iload 2] 31 = x_aload 0 (x_iload 1 (x_iload 2 (K 31))) := ((xe_aload 0).trans (congrArg (x_aload 0) ((xe_iload 1).trans (congrArg (x_iload 1) ((xe_iload 2).trans (congrArg (x_iload 2) xe_nil))))))
theorem bk_X11_standing_34 : ck_ fX11 (some .int) cX11_standing 34 [.iload 3, .aload 0, .tableswitch 0 11 79 #[]] 39 = true := qck_r (nn_ _) (by decide +kernel)
theorem bs_X11_standing_34 {P : Zt → Option Zv → Prop} (K : Int → Zl → List Zv → Zt → Prop) : sx_ K P [.iload 3, .aload 0, .tableswitch 0 11 79 #[]] 39 = x_iload 3 (x_aload 0 (x_g0 111 79 0 12 (K 39))) := ((xe_iload 3).trans (congrArg (x_iload 3) ((xe_aload 0).trans (congrArg (x_aload 0) ((xe_g0 (kk := 111) rfl tl_11_79).trans (congrArg (x_g0 111 79 0 12) xe_nil))))))
theorem bk_X11_standing_42 : ck_ fX11 (some .int) cX11_standing 42 [.ifCond .eq 54, .aload 0, .tableswitch 0 11 77 #[], .iload 3, .iaload, .goto 55] 54 = true := qck_r (nn_ _) (by decide +kernel)
theorem bs_X11_standing_42 {P : Zt → Option Zv → Prop} (K : Int → Zl → List Zv → Zt → Prop) : sx_ K P [.ifCond .eq 54, .aload 0, .tableswitch 0 11 77 #[], .iload 3, .iaload, .goto 55] 54 = x_ifCond .eq 54 K (x_aload 0 (x_g1 111 277 (x_iload 3 (x_iaload (x_goto 55 K))))) := ((xe_ifCond .eq 54).trans (congrArg (x_ifCond .eq 54 K) ((xe_aload 0).trans (congrArg (x_aload 0) ((xe_g1 (kk := 111) rfl tl_11_77).trans (congrArg (x_g1 111 277) ((xe_iload 3).trans (congrArg (x_iload 3) ((xe_iaload).trans (congrArg (x_iaload) (xe_goto 55)))))))))))
theorem bk_X11_standing_54 : ck_ fX11 (some .int) cX11_standing 54 [.iconst (-1)] 55 = true := qck_r (nn_ _) (by decide +kernel)
theorem bs_X11_standing_54 {P : Zt → Option Zv → Prop} (K : Int → Zl → List Zv → Zt → Prop) : sx_ K P [.iconst (-1)] 55 = x_iconst (-1) (K 55) := ((xe_iconst (-1)).trans (congrArg (x_iconst (-1)) xe_nil))
abbrev po_X11_standing (T : Zt) (c d k : Int) : Zt → Option Zv → Prop := fun T' r => ∃ x : Int, r = some (vI x) ∧ fr_ [(276, []), (284, []), (277, []), (286, []), (278, []), (111, [82, 83, 85, 87, 79])] T T' ∧ (True)
set_option maxHeartbeats 4000000 in
theorem ct_X11_standing {T : Zt} {c d k : Int} (hri : RI_ T) (hml : ML_ T) (hsc : SC_ T) (hyb : YB_ T) : Ct_ yX11_standing zX11_standing T [vR 111 0, vI c, vI d, vI k] (po_X11_standing T c d k) := by
  refine ct_of pn_11 rfl rfl (Nat.le_of_ble_eq_true rfl) (fun hT hav => ?_)
  have hr_c : -2147483648 ≤ c ∧ c ≤ 2147483647 := hav (vI c) (List.mem_cons_of_mem _ List.mem_cons_self)
  have hr_d : -2147483648 ≤ d ∧ d ≤ 2147483647 := hav (vI d) (List.mem_cons_of_mem _ (List.mem_cons_of_mem _ List.mem_cons_self))
  have hr_k : -2147483648 ≤ k ∧ k ≤ 2147483647 := hav (vI k) (List.mem_cons_of_mem _ (List.mem_cons_of_mem _ (List.mem_cons_of_mem _ List.mem_cons_self)))
  have hz : zX11_standing.2.2.2.1 = some .boolean → ∀ (T' : Zt) (x : Int), po_X11_standing T c d k T' (some (vI x)) → 0 ≤ x ∧ x ≤ 1 := fun h => by cases h
  have hb_6 : 0 ≤ T 111 0 6 ∧ T 111 0 6 ≤ 4 := bd_f hT 111 6 tl_11_6 0
  show J_ zX11_standing T (po_X11_standing T c d k) 0 0 0 [some (vR 111 0), some (vI c), some (vI d), some (vI k)] [] T
  have c_55 : ∀ (v : Int) (T9 : Zt), (fr_ [(276, []), (284, []), (277, []), (286, []), (278, []), (111, [82, 83, 85, 87, 79])] T T9) → J_ zX11_standing T (po_X11_standing T c d k) 0 0 55 [some (vR 111 0), some (vI c), some (vI d), some (vI k)] [vI v] T9 := by
    intro v T9 hf_55
    refine j_blx (F := fX11) tb_X11 (nn_ _) bk_X11_standing_55 bs_X11_standing_55 hz (fun K hK => ?_)
    refine (show po_X11_standing T c d k T9 (some (vI v)) from ?_)
    exact ⟨_, rfl, fr_t (fr_0 _ _) (fr_s hf_55 rfl), by trivial⟩
  refine j_blx (F := fX11) tb_X11 (nn_ _) bk_X11_standing_0 bs_X11_standing_0 hz (fun K hK => ?_)
  intro b1 b1b
  refine hK 5 _ [vI (T 111 0 6), vI c] T ?_
  refine j_callS (y := yX11_isOf) (Yc := zX11_isOf) (rest := []) [vI c, vI (T 111 0 6)] (ct_X11_isOf (T := T) (by omega)) cl_X11_317 (qd_c (by decide +kernel)) (nn_ _) rfl (rf_of rfl) (Nat.le_of_ble_eq_true rfl) (Nat.le_of_ble_eq_true rfl) (Nat.le_of_ble_eq_true rfl) rfl ?_
  rintro _ _ ⟨rfl, x2, rfl, hx2⟩
  show J_ zX11_standing T (po_X11_standing T c d k) 0 0 8 _ [vI x2] T
  refine j_blx (F := fX11) tb_X11 (nn_ _) bk_X11_standing_8 bs_X11_standing_8 hz (fun K hK => ?_)
  refine And.intro (fun c3 => ?_) (fun c3 => ?_)
  · replace hx2 := hx2.resolve_right (fun z => c3 z.1)
    clear c3
    refine hK 14 _ [] T ?_
    refine j_blx (F := fX11) tb_X11 (nn_ _) bk_X11_standing_14 bs_X11_standing_14 hz (fun K hK => ?_)
    refine hK 19 _ [vI 999, vI 0, vI d] T ?_
    refine j_callS (y := yX11_in) (Yc := zX11_in) (rest := []) [vI d, vI 0, vI 999] (ct_X11_in (T := T)) cl_X11_255 (qd_c (by decide +kernel)) (nn_ _) rfl (rf_of rfl) (Nat.le_of_ble_eq_true rfl) (Nat.le_of_ble_eq_true rfl) (Nat.le_of_ble_eq_true rfl) rfl ?_
    rintro _ _ ⟨rfl, x4, rfl, hx4⟩
    show J_ zX11_standing T (po_X11_standing T c d k) 0 0 22 _ [vI x4] T
    refine j_blx (F := fX11) tb_X11 (nn_ _) bk_X11_standing_22 bs_X11_standing_22 hz (fun K hK => ?_)
    refine And.intro (fun c5 => ?_) (fun c5 => ?_)
    · replace hx4 := hx4.resolve_right (fun z => c5 z.1)
      clear c5
      refine hK 28 _ [] T ?_
      refine j_blx (F := fX11) tb_X11 (nn_ _) bk_X11_standing_28 bs_X11_standing_28 hz (fun K hK => ?_)
      refine hK 31 _ [vI d, vI c, vR 111 0] T ?_
      refine j_callV (y := yX11_orderAll) (Yc := zX11_orderAll) (rest := []) [vI c, vI d] (ct_X11_orderAll (T := T) (by omega) (hri) (hml) (hsc) (hyb)) cl_X11_532 (qd_c (by decide +kernel)) (nn_ _) rfl (rf_of rfl) (Nat.le_of_ble_eq_true rfl) (Nat.le_of_ble_eq_true rfl) (Nat.le_of_ble_eq_true rfl) rfl ?_
      rintro U6 _ ⟨rfl, fU6, ⟨qU6a, qU6b⟩⟩
      show J_ zX11_standing T (po_X11_standing T c d k) 0 0 34 _ [] U6
      refine j_blx (F := fX11) tb_X11 (nn_ _) bk_X11_standing_34 bs_X11_standing_34 hz (fun K hK => ?_)
      intro b7 b7b
      refine hK 39 _ [vI (U6 111 0 79), vI k] U6 ?_
      refine j_callS (y := yX11_isOf) (Yc := zX11_isOf) (rest := []) [vI k, vI (U6 111 0 79)] (ct_X11_isOf (T := U6) (by omega)) cl_X11_317 (qd_c (by decide +kernel)) (nn_ _) rfl (rf_of rfl) (Nat.le_of_ble_eq_true rfl) (Nat.le_of_ble_eq_true rfl) (Nat.le_of_ble_eq_true rfl) rfl ?_
      rintro _ _ ⟨rfl, x8, rfl, hx8⟩
      show J_ zX11_standing T (po_X11_standing T c d k) 0 0 42 _ [vI x8] U6
      refine j_blx (F := fX11) tb_X11 (nn_ _) bk_X11_standing_42 bs_X11_standing_42 hz (fun K hK => ?_)
      refine And.intro (fun c9 => ?_) (fun c9 => ?_)
      · replace hx8 := hx8.resolve_left (fun z => absurd (c9.symm.trans z.1) (by decide))
        clear c9
        refine hK 54 _ [] U6 ?_
        refine j_blx (F := fX11) tb_X11 (nn_ _) bk_X11_standing_54 bs_X11_standing_54 hz (fun K hK => ?_)
        refine hK 55 _ [vI (-1)] U6 ?_
        refine c_55 (-1) U6 ?_
        · exact fr_t (fr_0 _ _) (fr_s fU6 rfl)
      · replace hx8 := hx8.resolve_right (fun z => c9 z.1)
        clear c9
        refine ix_i (by omega) ?_
        intro b10 b10b
        refine hK 55 _ [vI (U6 277 0 k)] U6 ?_
        refine c_55 (U6 277 0 k) U6 ?_
        · exact fr_t (fr_0 _ _) (fr_s fU6 rfl)
    · replace hx4 := hx4.resolve_left (fun z => absurd (c5.symm.trans z.1) (by decide))
      clear c5
      refine (show po_X11_standing T c d k T (some (vI (-3))) from ?_)
      exact ⟨_, rfl, fr_0 _ _, by trivial⟩
  · replace hx2 := hx2.resolve_left (fun z => absurd (c3.symm.trans z.1) (by decide))
    clear c3
    refine (show po_X11_standing T c d k T (some (vI (-2))) from ?_)
    exact ⟨_, rfl, fr_0 _ _, by trivial⟩
abbrev cX11_parted : ByteArray := prog_13_method_96_code
def yX11_parted : MethodName := ⟨RX11, "parted", "(III)I"⟩
def zX11_parted : Zm := (RX11, cX11_parted, 4, (some .int), { frames := 5, cells := 0, slots := 0, locals := 128 })
theorem bk_X11_parted_57 : ck_ fX11 (some .int) cX11_parted 57 [.ireturn] 58 = true := qck_r (nn_ _) (by decide +kernel)
theorem bs_X11_parted_57 {P : Zt → Option Zv → Prop} (K : Int → Zl → List Zv → Zt → Prop) : sx_ K P [.ireturn] 58 = x_ireturn P := (xe_ireturn)
theorem bk_X11_parted_0 : ck_ fX11 (some .int) cX11_parted 0 [.iload 1, .aload 0, .tableswitch 0 11 6 #[]] 5 = true := qck_r (nn_ _) (by decide +kernel)
theorem bs_X11_parted_0 {P : Zt → Option Zv → Prop} (K : Int → Zl → List Zv → Zt → Prop) : sx_ K P [.iload 1, .aload 0, .tableswitch 0 11 6 #[]] 5 = x_iload 1 (x_aload 0 (x_g0 111 6 0 4 (K 5))) := ((xe_iload 1).trans (congrArg (x_iload 1) ((xe_aload 0).trans (congrArg (x_aload 0) ((xe_g0 (kk := 111) rfl tl_11_6).trans (congrArg (x_g0 111 6 0 4) xe_nil))))))
theorem bk_X11_parted_8 : ck_ fX11 (some .int) cX11_parted 8 [.ifCond .ne 14, .iconst (-2), .ireturn] 14 = true := qck_r (nn_ _) (by decide +kernel)
theorem bs_X11_parted_8 {P : Zt → Option Zv → Prop} (K : Int → Zl → List Zv → Zt → Prop) : sx_ K P [.ifCond .ne 14, .iconst (-2), .ireturn] 14 = x_ifCond .ne 14 K (x_iconst (-2) (x_ireturn P)) := ((xe_ifCond .ne 14).trans (congrArg (x_ifCond .ne 14 K) ((xe_iconst (-2)).trans (congrArg (x_iconst (-2)) (xe_ireturn)))))
theorem bk_X11_parted_14 : ck_ fX11 (some .int) cX11_parted 14 [.iload 2, .iconst 0, .iconst 999] 19 = true := qck_r (nn_ _) (by decide +kernel)
theorem bs_X11_parted_14 {P : Zt → Option Zv → Prop} (K : Int → Zl → List Zv → Zt → Prop) : sx_ K P [.iload 2, .iconst 0, .iconst 999] 19 = x_iload 2 (x_iconst 0 (x_iconst 999 (K 19))) := ((xe_iload 2).trans (congrArg (x_iload 2) ((xe_iconst 0).trans (congrArg (x_iconst 0) ((xe_iconst 999).trans (congrArg (x_iconst 999) xe_nil))))))
theorem bk_X11_parted_22 : ck_ fX11 (some .int) cX11_parted 22 [.ifCond .ne 28, .iconst (-3), .ireturn] 28 = true := qck_r (nn_ _) (by decide +kernel)
theorem bs_X11_parted_22 {P : Zt → Option Zv → Prop} (K : Int → Zl → List Zv → Zt → Prop) : sx_ K P [.ifCond .ne 28, .iconst (-3), .ireturn] 28 = x_ifCond .ne 28 K (x_iconst (-3) (x_ireturn P)) := ((xe_ifCond .ne 28).trans (congrArg (x_ifCond .ne 28 K) ((xe_iconst (-3)).trans (congrArg (x_iconst (-3)) (xe_ireturn)))))
theorem bk_X11_parted_28 : ck_ fX11 (some .int) cX11_parted 28 [.aload 0, .iload 1, .iload 2] 31 = true := qck_r (nn_ _) (by decide +kernel)
theorem bs_X11_parted_28 {P : Zt → Option Zv → Prop} (K : Int → Zl → List Zv → Zt → Prop) : sx_ K P [.aload 0, .iload 1, .iload 2] 31 = x_aload 0 (x_iload 1 (x_iload 2 (K 31))) := ((xe_aload 0).trans (congrArg (x_aload 0) ((xe_iload 1).trans (congrArg (x_iload 1) ((xe_iload 2).trans (congrArg (x_iload 2) xe_nil))))))
theorem bk_X11_parted_34 : ck_ fX11 (some .int) cX11_parted 34 [.iload 3, .aload 0, .tableswitch 0 11 79 #[], .iconst 1, .isub] 41 = true := qck_r (nn_ _) (by decide +kernel)
theorem bs_X11_parted_34 {P : Zt → Option Zv → Prop} (K : Int → Zl → List Zv → Zt → Prop) : sx_ K P [.iload 3, .aload 0, .tableswitch 0 11 79 #[], .iconst 1, .isub] 41 = x_iload 3 (x_aload 0 (x_g0 111 79 0 12 (x_iconst 1 (x_isub (K 41))))) := ((xe_iload 3).trans (congrArg (x_iload 3) ((xe_aload 0).trans (congrArg (x_aload 0) ((xe_g0 (kk := 111) rfl tl_11_79).trans (congrArg (x_g0 111 79 0 12) ((xe_iconst 1).trans (congrArg (x_iconst 1) ((xe_isub).trans (congrArg (x_isub) xe_nil))))))))))
theorem bk_X11_parted_44 : ck_ fX11 (some .int) cX11_parted 44 [.ifCond .eq 56, .aload 0, .tableswitch 0 11 78 #[], .iload 3, .iaload, .goto 57] 56 = true := qck_r (nn_ _) (by decide +kernel)
theorem bs_X11_parted_44 {P : Zt → Option Zv → Prop} (K : Int → Zl → List Zv → Zt → Prop) : sx_ K P [.ifCond .eq 56, .aload 0, .tableswitch 0 11 78 #[], .iload 3, .iaload, .goto 57] 56 = x_ifCond .eq 56 K (x_aload 0 (x_g1 111 278 (x_iload 3 (x_iaload (x_goto 57 K))))) := ((xe_ifCond .eq 56).trans (congrArg (x_ifCond .eq 56 K) ((xe_aload 0).trans (congrArg (x_aload 0) ((xe_g1 (kk := 111) rfl tl_11_78).trans (congrArg (x_g1 111 278) ((xe_iload 3).trans (congrArg (x_iload 3) ((xe_iaload).trans (congrArg (x_iaload) (xe_goto 57)))))))))))
theorem bk_X11_parted_56 : ck_ fX11 (some .int) cX11_parted 56 [.iconst (-1)] 57 = true := qck_r (nn_ _) (by decide +kernel)
theorem bs_X11_parted_56 {P : Zt → Option Zv → Prop} (K : Int → Zl → List Zv → Zt → Prop) : sx_ K P [.iconst (-1)] 57 = x_iconst (-1) (K 57) := ((xe_iconst (-1)).trans (congrArg (x_iconst (-1)) xe_nil))
abbrev po_X11_parted (T : Zt) (c d k : Int) : Zt → Option Zv → Prop := fun T' r => ∃ x : Int, r = some (vI x) ∧ fr_ [(276, []), (284, []), (277, []), (286, []), (278, []), (111, [82, 83, 85, 87, 79])] T T' ∧ (True)
set_option maxHeartbeats 4000000 in
theorem ct_X11_parted {T : Zt} {c d k : Int} (hri : RI_ T) (hml : ML_ T) (hsc : SC_ T) (hyb : YB_ T) : Ct_ yX11_parted zX11_parted T [vR 111 0, vI c, vI d, vI k] (po_X11_parted T c d k) := by
  refine ct_of pn_11 rfl rfl (Nat.le_of_ble_eq_true rfl) (fun hT hav => ?_)
  have hr_c : -2147483648 ≤ c ∧ c ≤ 2147483647 := hav (vI c) (List.mem_cons_of_mem _ List.mem_cons_self)
  have hr_d : -2147483648 ≤ d ∧ d ≤ 2147483647 := hav (vI d) (List.mem_cons_of_mem _ (List.mem_cons_of_mem _ List.mem_cons_self))
  have hr_k : -2147483648 ≤ k ∧ k ≤ 2147483647 := hav (vI k) (List.mem_cons_of_mem _ (List.mem_cons_of_mem _ (List.mem_cons_of_mem _ List.mem_cons_self)))
  have hz : zX11_parted.2.2.2.1 = some .boolean → ∀ (T' : Zt) (x : Int), po_X11_parted T c d k T' (some (vI x)) → 0 ≤ x ∧ x ≤ 1 := fun h => by cases h
  have hb_6 : 0 ≤ T 111 0 6 ∧ T 111 0 6 ≤ 4 := bd_f hT 111 6 tl_11_6 0
  show J_ zX11_parted T (po_X11_parted T c d k) 0 0 0 [some (vR 111 0), some (vI c), some (vI d), some (vI k)] [] T
  have c_57 : ∀ (v : Int) (T9 : Zt), (fr_ [(276, []), (284, []), (277, []), (286, []), (278, []), (111, [82, 83, 85, 87, 79])] T T9) → J_ zX11_parted T (po_X11_parted T c d k) 0 0 57 [some (vR 111 0), some (vI c), some (vI d), some (vI k)] [vI v] T9 := by
    intro v T9 hf_57
    refine j_blx (F := fX11) tb_X11 (nn_ _) bk_X11_parted_57 bs_X11_parted_57 hz (fun K hK => ?_)
    refine (show po_X11_parted T c d k T9 (some (vI v)) from ?_)
    exact ⟨_, rfl, fr_t (fr_0 _ _) (fr_s hf_57 rfl), by trivial⟩
  refine j_blx (F := fX11) tb_X11 (nn_ _) bk_X11_parted_0 bs_X11_parted_0 hz (fun K hK => ?_)
  intro b1 b1b
  refine hK 5 _ [vI (T 111 0 6), vI c] T ?_
  refine j_callS (y := yX11_isOf) (Yc := zX11_isOf) (rest := []) [vI c, vI (T 111 0 6)] (ct_X11_isOf (T := T) (by omega)) cl_X11_317 (qd_c (by decide +kernel)) (nn_ _) rfl (rf_of rfl) (Nat.le_of_ble_eq_true rfl) (Nat.le_of_ble_eq_true rfl) (Nat.le_of_ble_eq_true rfl) rfl ?_
  rintro _ _ ⟨rfl, x2, rfl, hx2⟩
  show J_ zX11_parted T (po_X11_parted T c d k) 0 0 8 _ [vI x2] T
  refine j_blx (F := fX11) tb_X11 (nn_ _) bk_X11_parted_8 bs_X11_parted_8 hz (fun K hK => ?_)
  refine And.intro (fun c3 => ?_) (fun c3 => ?_)
  · replace hx2 := hx2.resolve_right (fun z => c3 z.1)
    clear c3
    refine hK 14 _ [] T ?_
    refine j_blx (F := fX11) tb_X11 (nn_ _) bk_X11_parted_14 bs_X11_parted_14 hz (fun K hK => ?_)
    refine hK 19 _ [vI 999, vI 0, vI d] T ?_
    refine j_callS (y := yX11_in) (Yc := zX11_in) (rest := []) [vI d, vI 0, vI 999] (ct_X11_in (T := T)) cl_X11_255 (qd_c (by decide +kernel)) (nn_ _) rfl (rf_of rfl) (Nat.le_of_ble_eq_true rfl) (Nat.le_of_ble_eq_true rfl) (Nat.le_of_ble_eq_true rfl) rfl ?_
    rintro _ _ ⟨rfl, x4, rfl, hx4⟩
    show J_ zX11_parted T (po_X11_parted T c d k) 0 0 22 _ [vI x4] T
    refine j_blx (F := fX11) tb_X11 (nn_ _) bk_X11_parted_22 bs_X11_parted_22 hz (fun K hK => ?_)
    refine And.intro (fun c5 => ?_) (fun c5 => ?_)
    · replace hx4 := hx4.resolve_right (fun z => c5 z.1)
      clear c5
      refine hK 28 _ [] T ?_
      refine j_blx (F := fX11) tb_X11 (nn_ _) bk_X11_parted_28 bs_X11_parted_28 hz (fun K hK => ?_)
      refine hK 31 _ [vI d, vI c, vR 111 0] T ?_
      refine j_callV (y := yX11_orderAll) (Yc := zX11_orderAll) (rest := []) [vI c, vI d] (ct_X11_orderAll (T := T) (by omega) (hri) (hml) (hsc) (hyb)) cl_X11_532 (qd_c (by decide +kernel)) (nn_ _) rfl (rf_of rfl) (Nat.le_of_ble_eq_true rfl) (Nat.le_of_ble_eq_true rfl) (Nat.le_of_ble_eq_true rfl) rfl ?_
      rintro U6 _ ⟨rfl, fU6, ⟨qU6a, qU6b⟩⟩
      show J_ zX11_parted T (po_X11_parted T c d k) 0 0 34 _ [] U6
      refine j_blx (F := fX11) tb_X11 (nn_ _) bk_X11_parted_34 bs_X11_parted_34 hz (fun K hK => ?_)
      intro b7 b7b
      refine rg_i (by omega) ?_
      refine hK 41 _ [vI ((U6 111 0 79) - 1), vI k] U6 ?_
      refine j_callS (y := yX11_isOf) (Yc := zX11_isOf) (rest := []) [vI k, vI ((U6 111 0 79) - 1)] (ct_X11_isOf (T := U6) (by omega)) cl_X11_317 (qd_c (by decide +kernel)) (nn_ _) rfl (rf_of rfl) (Nat.le_of_ble_eq_true rfl) (Nat.le_of_ble_eq_true rfl) (Nat.le_of_ble_eq_true rfl) rfl ?_
      rintro _ _ ⟨rfl, x8, rfl, hx8⟩
      show J_ zX11_parted T (po_X11_parted T c d k) 0 0 44 _ [vI x8] U6
      refine j_blx (F := fX11) tb_X11 (nn_ _) bk_X11_parted_44 bs_X11_parted_44 hz (fun K hK => ?_)
      refine And.intro (fun c9 => ?_) (fun c9 => ?_)
      · replace hx8 := hx8.resolve_left (fun z => absurd (c9.symm.trans z.1) (by decide))
        clear c9
        refine hK 56 _ [] U6 ?_
        refine j_blx (F := fX11) tb_X11 (nn_ _) bk_X11_parted_56 bs_X11_parted_56 hz (fun K hK => ?_)
        refine hK 57 _ [vI (-1)] U6 ?_
        refine c_57 (-1) U6 ?_
        · exact fr_t (fr_0 _ _) (fr_s fU6 rfl)
      · replace hx8 := hx8.resolve_right (fun z => c9 z.1)
        clear c9
        refine ix_i (by omega) ?_
        intro b10 b10b
        refine hK 57 _ [vI (U6 278 0 k)] U6 ?_
        refine c_57 (U6 278 0 k) U6 ?_
        · exact fr_t (fr_0 _ _) (fr_s fU6 rfl)
    · replace hx4 := hx4.resolve_left (fun z => absurd (c5.symm.trans z.1) (by decide))
      clear c5
      refine (show po_X11_parted T c d k T (some (vI (-3))) from ?_)
      exact ⟨_, rfl, fr_0 _ _, by trivial⟩
  · replace hx2 := hx2.resolve_left (fun z => absurd (c3.symm.trans z.1) (by decide))
    clear c3
    refine (show po_X11_parted T c d k T (some (vI (-2))) from ?_)
    exact ⟨_, rfl, fr_0 _ _, by trivial⟩
theorem i3_n {x : Int} (h : 0 ≤ x ∧ x ≤ 2147483647) : (Int32.ofInt x).toBitVec.toNat = x.toNat := by
  show (BitVec.ofInt 32 x).toNat = x.toNat
  rw [BitVec.toNat_ofInt]; omega
theorem bv_i {b : BitVec 32} (h : b.toNat < 2147483648) : b.toInt = (b.toNat : Int) := by
  rw [BitVec.toInt_eq_toNat_cond]; split <;> omega
theorem an_n {x y : Int} (hx : 0 ≤ x ∧ x ≤ 2147483647) (hy : 0 ≤ y ∧ y ≤ 2147483647) : an_ x y = ((x.toNat &&& y.toNat : Nat) : Int) := by
  have e : ((Int32.ofInt x).toBitVec &&& (Int32.ofInt y).toBitVec).toNat = x.toNat &&& y.toNat := by
    rw [BitVec.toNat_and, i3_n hx, i3_n hy]
  have l : x.toNat &&& y.toNat ≤ x.toNat := Nat.and_le_left
  show ((Int32.ofInt x).toBitVec &&& (Int32.ofInt y).toBitVec).toInt = _
  rw [bv_i (by rw [e]; omega), e]
theorem or_n {x y : Int} (hx : 0 ≤ x ∧ x ≤ 2147483647) (hy : 0 ≤ y ∧ y ≤ 2147483647) : or_ x y = ((x.toNat ||| y.toNat : Nat) : Int) := by
  have e : ((Int32.ofInt x).toBitVec ||| (Int32.ofInt y).toBitVec).toNat = x.toNat ||| y.toNat := by
    rw [BitVec.toNat_or, i3_n hx, i3_n hy]
  have l : x.toNat ||| y.toNat < 2 ^ 31 := Nat.or_lt_two_pow (by omega) (by omega)
  show ((Int32.ofInt x).toBitVec ||| (Int32.ofInt y).toBitVec).toInt = _
  rw [bv_i (by rw [e]; omega), e]
theorem sh_31 {k : Int} (h : 0 ≤ k ∧ k < 32) : (Int32.ofInt k &&& 31) = Int32.ofInt k := by
  have : ∀ n : Nat, n < 32 → (Int32.ofInt (n : Int) &&& 31) = Int32.ofInt (n : Int) := by decide +kernel
  have := this k.toNat (by omega)
  rwa [show ((k.toNat : Nat) : Int) = k by omega] at this
theorem sr_n {x k : Int} (hx : 0 ≤ x ∧ x ≤ 2147483647) (hk : 0 ≤ k ∧ k < 32) : sr_ x k = ((x.toNat >>> k.toNat : Nat) : Int) := by
  unfold sr_
  rw [sh_31 hk]
  have hs : ((Int32.ofInt k).toBitVec.smod 32).toNat = k.toNat := by
    have : ∀ n : Nat, n < 32 → ((Int32.ofInt (n : Int)).toBitVec.smod 32).toNat = n := by decide +kernel
    have := this k.toNat (by omega)
    rwa [show ((k.toNat : Nat) : Int) = k by omega] at this
  have m : (Int32.ofInt x).toBitVec.msb = false := by
    rw [BitVec.msb_eq_false_iff_two_mul_lt, i3_n hx]; omega
  have e : ((Int32.ofInt x).toBitVec.sshiftRight ((Int32.ofInt k).toBitVec.smod 32).toNat).toNat = x.toNat >>> k.toNat := by
    rw [hs, BitVec.sshiftRight_eq_of_msb_false m, BitVec.toNat_ushiftRight, i3_n hx]
  have l : x.toNat >>> k.toNat ≤ x.toNat := by rw [Nat.shiftRight_eq_div_pow]; exact Nat.div_le_self _ _
  show ((Int32.ofInt x).toBitVec.sshiftRight ((Int32.ofInt k).toBitVec.smod 32).toNat).toInt = _
  rw [bv_i (by rw [e]; omega), e]
/-- a bit of a number -/
def bt_ (s k : Nat) : Int := if s.testBit k then 1 else 0
theorem bt_01 (s k : Nat) : bt_ s k = 0 ∨ bt_ s k = 1 := by unfold bt_; split <;> simp
theorem bt_n {x k : Int} (hx : 0 ≤ x ∧ x ≤ 2147483647) (hk : 0 ≤ k ∧ k < 32) : an_ (sr_ x k) 1 = bt_ x.toNat k.toNat := by
  have l : x.toNat >>> k.toNat ≤ x.toNat := by rw [Nat.shiftRight_eq_div_pow]; exact Nat.div_le_self _ _
  rw [sr_n hx hk]
  unfold bt_ Nat.testBit
  generalize x.toNat >>> k.toNat = y at l ⊢
  rw [an_n (by omega) (by decide), show ((y : Int)).toNat = y by omega, show Int.toNat 1 = 1 by rfl, Nat.and_comm]
  have : 1 &&& y ≤ 1 := Nat.and_le_left
  rcases (by omega : 1 &&& y = 0 ∨ 1 &&& y = 1) with z | z <;> rw [z] <;> rfl
theorem bt_or (s t k : Nat) : bt_ (s ||| t) k = bt_ s k + bt_ t k - bt_ s k * bt_ t k := by
  unfold bt_; rw [Nat.testBit_or]; cases s.testBit k <;> cases t.testBit k <;> rfl
theorem bt_and (s t k : Nat) : bt_ (s &&& t) k = bt_ s k * bt_ t k := by
  unfold bt_; rw [Nat.testBit_and]; cases s.testBit k <;> cases t.testBit k <;> rfl
/-- a sum over the members below n -/
def sp_ (f : Nat → Int) (s : Nat) : Nat → Int
  | 0 => 0
  | n + 1 => sp_ f s n + bt_ s n * f n
/-- how many of the pairs lie within a set -/
def ed_ (s : Nat) : List (Nat × Nat) → Int
  | [] => 0
  | p :: l => bt_ s p.1 * bt_ s p.2 + ed_ s l
def vs_ (f : Nat → Int) (l : List (Nat × Nat)) (s : Nat) : Int := sp_ f s 12 - 2 * ed_ s l
/-- what a pair's way changes -/
def ch_ (s a b : Nat) (w : Int) : Int := 2 * bt_ s a * bt_ s b - (2 - w) * bt_ s a - w * bt_ s b
theorem ch_c (s a b : Nat) (w : Int) : (bt_ s a = bt_ s b ∧ ch_ s a b w = 0) ∨ (bt_ s a = 1 ∧ bt_ s b = 0 ∧ ch_ s a b w = w - 2) ∨ (bt_ s a = 0 ∧ bt_ s b = 1 ∧ ch_ s a b w = -w) := by
  unfold ch_
  rcases bt_01 s a with x | x <;> rcases bt_01 s b with y | y <;> rw [x, y] <;> omega
theorem sp_m (f : Nat → Int) (s t : Nat) : ∀ n, sp_ f (s ||| t) n + sp_ f (s &&& t) n = sp_ f s n + sp_ f t n
  | 0 => rfl
  | n + 1 => by
      have i := sp_m f s t n
      unfold sp_
      rw [bt_or, bt_and]
      rcases bt_01 s n with x | x <;> rcases bt_01 t n with y | y <;> rw [x, y] <;> simp <;> omega
theorem ed_m (s t : Nat) : ∀ l, ed_ s l + ed_ t l ≤ ed_ (s ||| t) l + ed_ (s &&& t) l
  | [] => Int.le_refl _
  | p :: l => by
      have i := ed_m s t l
      unfold ed_
      rw [bt_or, bt_or, bt_and, bt_and]
      rcases bt_01 s p.1 with x | x <;> rcases bt_01 t p.1 with y | y <;> rcases bt_01 s p.2 with z | z <;> rcases bt_01 t p.2 with w | w <;> rw [x, y, z, w] <;> simp <;> omega
theorem vs_2 {f : Nat → Int} {l : List (Nat × Nat)} {a b s t : Nat} (h : ∀ u, u = s ||| t ∨ u = s &&& t → 0 ≤ vs_ f ((a, b) :: l) u) (s1 : bt_ s a = 1) (s2 : bt_ s b = 0) (t1 : bt_ t a = 0) (t2 : bt_ t b = 1) : 2 ≤ vs_ f ((a, b) :: l) s + vs_ f ((a, b) :: l) t := by
  have p := h _ (Or.inl rfl)
  have q := h _ (Or.inr rfl)
  have i := ed_m s t l
  have j := sp_m f s t 12
  unfold vs_ ed_ at p q ⊢
  simp only [bt_or, bt_and, s1, s2, t1, t2] at p q ⊢
  simp at p q ⊢
  omega
/-- for any pair some way goes -/
theorem vs_w {f : Nat → Int} {l : List (Nat × Nat)} {a b : Nat} {P : Nat → Prop} (hu : ∀ s t, P s → P t → P (s ||| t) ∧ P (s &&& t)) (h : ∀ s, P s → 0 ≤ vs_ f ((a, b) :: l) s)
    {s0 s1 s2 : Nat} (p0 : P s0) (p1 : P s1) (p2 : P s2) (h0 : vs_ f ((a, b) :: l) s0 + ch_ s0 a b 0 < 0) (h1 : vs_ f ((a, b) :: l) s1 + ch_ s1 a b 1 < 0) (h2 : vs_ f ((a, b) :: l) s2 + ch_ s2 a b 2 < 0) : False := by
  have k0 := h s0 p0
  have k1 := h s1 p1
  have k2 := h s2 p2
  have c0 := ch_c s0 a b 0
  have c1 := ch_c s1 a b 1
  have c2 := ch_c s2 a b 2
  have v {s t : Nat} (ps : P s) (pt : P t) (e1 : bt_ s a = 1) (e2 : bt_ s b = 0) (e3 : bt_ t a = 0) (e4 : bt_ t b = 1) := vs_2 (f := f) (l := l) (fun u hu' => by rcases hu' with rfl | rfl; exact h _ (hu s t ps pt).1; exact h _ (hu s t ps pt).2) e1 e2 e3 e4
  rcases c1 with c1 | c1 | c1
  · omega
  · have := v p1 p2 c1.1 c1.2.1 (by omega) (by omega)
    omega
  · have := v p0 p1 (by omega) (by omega) c1.1 c1.2.1
    omega
/-- the spare after a way is taken -/
def fw2_ (f : Nat → Int) (a b : Nat) (w : Int) : Nat → Int := fun k => f k - (if k = a then 2 - w else 0) - (if k = b then w else 0)
theorem sp_w (f : Nat → Int) (s a b : Nat) (w : Int) : ∀ n, sp_ (fw2_ f a b w) s n = sp_ f s n - (if a < n then bt_ s a * (2 - w) else 0) - (if b < n then bt_ s b * w else 0)
  | 0 => rfl
  | n + 1 => by
      unfold sp_
      rw [sp_w f s a b w n]
      unfold fw2_
      by_cases x : n = a
      · subst x
        by_cases y : n = b
        · subst y
          simp only [Nat.lt_irrefl, Nat.lt_succ_self, if_true, if_false, Int.mul_sub]; omega
        · by_cases z : b < n
          · simp only [Nat.lt_irrefl, Nat.lt_succ_self, if_true, if_false, z, Nat.lt_succ_of_lt z, y, Int.mul_sub]; omega
          · have z' : ¬ b < n + 1 := by omega
            simp only [Nat.lt_irrefl, Nat.lt_succ_self, if_true, if_false, z, z', y, Int.mul_sub]; omega
      · by_cases y : n = b
        · subst y
          by_cases z : a < n
          · simp only [Nat.lt_irrefl, Nat.lt_succ_self, if_true, if_false, z, Nat.lt_succ_of_lt z, x, Int.mul_sub]; omega
          · have z' : ¬ a < n + 1 := by omega
            simp only [Nat.lt_irrefl, Nat.lt_succ_self, if_true, if_false, z, z', x, Int.mul_sub]; omega
        · have e1 : (a < n + 1) = (a < n) := by apply propext; omega
          have e2 : (b < n + 1) = (b < n) := by apply propext; omega
          simp only [e1, e2, x, y, if_false, Int.sub_zero]; omega
theorem vs_s {f : Nat → Int} {l : List (Nat × Nat)} {a b s : Nat} {w : Int} (ha : a < 12) (hb : b < 12) : vs_ (fw2_ f a b w) l s = vs_ f ((a, b) :: l) s + ch_ s a b w := by
  unfold vs_ ch_
  rw [sp_w, if_pos ha, if_pos hb]
  show _ = sp_ f s 12 - 2 * (bt_ s a * bt_ s b + ed_ s l) + _
  rcases bt_01 s a with x | x <;> rcases bt_01 s b with y | y <;> rw [x, y] <;> omega
theorem bt_low {s lo : Nat} (h1 : bt_ s lo = 1) (h0 : ∀ j, j < lo → bt_ s j = 0) (k : Nat) : bt_ (s &&& (s - 1)) k = if k = lo then 0 else bt_ s k := by
  have t1 : s.testBit lo = true := by unfold bt_ at h1; split at h1 <;> simp_all
  have t0 : ∀ j, j < lo → s.testBit j = false := fun j hj => by
    have := h0 j hj
    unfold bt_ at this
    split at this <;> simp_all
  have hm : s % 2 ^ lo = 0 := by
    apply Nat.eq_of_testBit_eq
    intro j
    rw [Nat.testBit_mod_two_pow, Nat.zero_testBit]
    by_cases z : j < lo
    · rw [t0 j z]; simp
    · simp [z]
  obtain ⟨m, rfl⟩ : ∃ m, s = 2 ^ lo * m := ⟨s / 2 ^ lo, (Nat.mul_div_cancel' (Nat.dvd_of_mod_eq_zero hm)).symm⟩
  have hp : 0 < 2 ^ lo := Nat.two_pow_pos lo
  have o : m % 2 = 1 := by
    rw [Nat.testBit_two_pow_mul] at t1
    simp only [ge_iff_le, Nat.le_refl, decide_true, Bool.true_and, Nat.sub_self, Nat.testBit_zero, decide_eq_true_eq] at t1
    exact t1
  have e : 2 ^ lo * m - 1 = 2 ^ lo * (m - 1) + (2 ^ lo - 1) := by
    obtain ⟨q, rfl⟩ : ∃ q, m = q + 1 := ⟨m - 1, by omega⟩
    rw [Nat.add_sub_cancel, Nat.mul_succ]; omega
  have b : ∀ j, (2 ^ lo * m &&& (2 ^ lo * m - 1)).testBit j = if j = lo then false else (2 ^ lo * m).testBit j := by
    intro j
    rw [Nat.testBit_and, e, Nat.testBit_two_pow_mul_add _ (by omega), Nat.testBit_two_pow_mul]
    by_cases z : j = lo
    · subst z
      obtain ⟨q, rfl⟩ : ∃ q, m = 2 * q + 1 := ⟨m / 2, by omega⟩
      simp [Nat.testBit_zero]
    · by_cases y : j < lo
      · have : ¬ lo ≤ j := by omega
        simp [z, y, this]
      · obtain ⟨i, rfl⟩ : ∃ i, j = lo + (i + 1) := ⟨j - lo - 1, by omega⟩
        obtain ⟨q, rfl⟩ : ∃ q, m = 2 * q + 1 := ⟨m / 2, by omega⟩
        have e1 : lo + (i + 1) - lo = i + 1 := by omega
        have e2 : 2 * q + 1 - 1 = 2 * q := by omega
        rw [e1, e2, Nat.testBit_add_one, Nat.testBit_add_one, show (2 * q + 1) / 2 = q by omega, show 2 * q / 2 = q by omega]
        simp
        exact fun h => Or.inr h
  unfold bt_
  rw [b k]
  by_cases z : k = lo
  · simp [z]
  · simp [z]
theorem sp_low {f : Nat → Int} {s t lo : Nat} (e : ∀ k, bt_ t k = if k = lo then 0 else bt_ s k) (h1 : bt_ s lo = 1) : ∀ n, sp_ f s n = sp_ f t n + (if lo < n then f lo else 0)
  | 0 => rfl
  | n + 1 => by
      have i := sp_low (f := f) e h1 n
      unfold sp_
      rw [i, e n]
      by_cases z : n = lo
      · subst z; simp [h1]
      · by_cases y : lo < n
        · have : lo < n + 1 := by omega
          simp [z, y, this]; omega
        · have : ¬ lo < n + 1 := by omega
          simp [z, y, this]
/-- a sum over the members from lo on, below n -/
def su_ (g : Nat → Int) (s lo : Nat) : Nat → Int
  | 0 => 0
  | n + 1 => su_ g s lo n + (if lo ≤ n then bt_ s n * g n else 0)
/-- how many of the pairs are these two -/
def cb_ (a b : Nat) : List (Nat × Nat) → Int
  | [] => 0
  | p :: l => (if (p.1 = a ∧ p.2 = b) ∨ (p.1 = b ∧ p.2 = a) then 1 else 0) + cb_ a b l
theorem su_0 (s lo : Nat) : ∀ n, su_ (fun _ => 0) s lo n = 0
  | 0 => rfl
  | n + 1 => by unfold su_; rw [su_0 s lo n]; simp
theorem su_a (g h : Nat → Int) (s lo : Nat) : ∀ n, su_ (fun k => g k + h k) s lo n = su_ g s lo n + su_ h s lo n
  | 0 => rfl
  | n + 1 => by
      unfold su_; rw [su_a g h s lo n]
      split
      · rw [Int.mul_add]; omega
      · omega
theorem su_1 (s lo c : Nat) : ∀ n, su_ (fun k => if k = c then 1 else 0) s lo n = if lo ≤ c ∧ c < n then bt_ s c else 0
  | 0 => by simp [su_]
  | n + 1 => by
      unfold su_; rw [su_1 s lo c n]
      by_cases z : n = c
      · subst z
        simp [Nat.lt_irrefl]
      · have e : (c < n + 1) = (c < n) := by apply propext; omega
        simp [z, e]
theorem su_e {g h : Nat → Int} {s lo : Nat} (e : ∀ k, lo ≤ k → g k = h k) : ∀ n, su_ g s lo n = su_ h s lo n
  | 0 => rfl
  | n + 1 => by
      unfold su_; rw [su_e e n]
      split
      · rw [e n (by assumption)]
      · rfl
theorem ed_low {s t lo : Nat} (e : ∀ k, bt_ t k = if k = lo then 0 else bt_ s k) (h1 : bt_ s lo = 1) (h0 : ∀ j, j < lo → bt_ s j = 0) (hl : lo < 12) : ∀ l : List (Nat × Nat), (∀ p ∈ l, p.1 ≠ p.2 ∧ p.1 < 12 ∧ p.2 < 12) → ed_ s l = ed_ t l + su_ (fun k => cb_ lo k l) s (lo + 1) 12
  | [], _ => by show (0 : Int) = 0 + su_ (fun _ => 0) s (lo + 1) 12; rw [su_0]; rfl
  | p :: l, h => by
      have i := ed_low e h1 h0 hl l (fun q hq => h q (List.mem_cons_of_mem _ hq))
      have hp := h p List.mem_cons_self
      show bt_ s p.1 * bt_ s p.2 + ed_ s l = bt_ t p.1 * bt_ t p.2 + ed_ t l + su_ (fun k => (if (p.1 = lo ∧ p.2 = k) ∨ (p.1 = k ∧ p.2 = lo) then 1 else 0) + cb_ lo k l) s (lo + 1) 12
      rw [su_a, i, e p.1, e p.2]
      by_cases x : p.1 = lo
      · have y : ¬ p.2 = lo := fun z => hp.1 (x.trans z.symm)
        have q : su_ (fun k => if (p.1 = lo ∧ p.2 = k) ∨ (p.1 = k ∧ p.2 = lo) then (1 : Int) else 0) s (lo + 1) 12 = bt_ s p.2 := by
          rw [su_e (h := fun k => if k = p.2 then 1 else 0) (fun k _ => by simp [x, y, eq_comm]), su_1]
          by_cases z : lo + 1 ≤ p.2
          · rw [if_pos ⟨z, hp.2.2⟩]
          · rw [if_neg (fun w => z w.1), h0 p.2 (by omega)]
        rw [q, x, h1]; simp; omega
      · by_cases y : p.2 = lo
        · have q : su_ (fun k => if (p.1 = lo ∧ p.2 = k) ∨ (p.1 = k ∧ p.2 = lo) then (1 : Int) else 0) s (lo + 1) 12 = bt_ s p.1 := by
            rw [su_e (h := fun k => if k = p.1 then 1 else 0) (fun k _ => by simp [x, y, eq_comm]), su_1]
            by_cases z : lo + 1 ≤ p.1
            · rw [if_pos ⟨z, hp.2.1⟩]
            · rw [if_neg (fun w => z w.1), h0 p.1 (by omega)]
          rw [q, y, h1]; simp [x]; omega
        · have q : su_ (fun k => if (p.1 = lo ∧ p.2 = k) ∨ (p.1 = k ∧ p.2 = lo) then (1 : Int) else 0) s (lo + 1) 12 = 0 := by
            rw [su_e (h := fun _ => 0) (fun k _ => by simp [x, y]), su_0]
          rw [q]; simp [x, y]; omega
theorem vs_low {f : Nat → Int} {l : List (Nat × Nat)} {s lo : Nat} (h1 : bt_ s lo = 1) (h0 : ∀ j, j < lo → bt_ s j = 0) (hl : lo < 12) (h : ∀ p ∈ l, p.1 ≠ p.2 ∧ p.1 < 12 ∧ p.2 < 12) : vs_ f l s = vs_ f l (s &&& (s - 1)) + f lo - 2 * su_ (fun k => cb_ lo k l) s (lo + 1) 12 := by
  have e := bt_low h1 h0
  unfold vs_
  rw [sp_low (f := f) e h1 12, ed_low e h1 h0 hl l h, if_pos hl]
  omega
theorem sp_b {f : Nat → Int} {s : Nat} {F : Int} (hF : 0 ≤ F) (h : ∀ k, k < 12 → -F ≤ f k ∧ f k ≤ F) : ∀ n, n ≤ 12 → -(n * F) ≤ sp_ f s n ∧ sp_ f s n ≤ n * F
  | 0, _ => by simp [sp_]
  | n + 1, hn => by
      have i := sp_b (s := s) hF h n (by omega)
      have k := h n (by omega)
      unfold sp_
      rw [show ((n + 1 : Nat) : Int) * F = n * F + F by rw [Int.natCast_add, Int.add_mul]; simp]
      rcases bt_01 s n with x | x <;> rw [x] <;> omega
theorem ed_b (s : Nat) : ∀ l : List (Nat × Nat), 0 ≤ ed_ s l ∧ ed_ s l ≤ l.length
  | [] => by simp [ed_]
  | p :: l => by
      have i := ed_b s l
      unfold ed_
      rw [List.length_cons]
      rcases bt_01 s p.1 with x | x <;> rcases bt_01 s p.2 with y | y <;> rw [x, y] <;> omega
theorem vs_b {f : Nat → Int} {l : List (Nat × Nat)} {F : Int} (hF : 0 ≤ F) (h : ∀ k, k < 12 → -F ≤ f k ∧ f k ≤ F) (s : Nat) : -(12 * F) - 2 * l.length ≤ vs_ f l s ∧ vs_ f l s ≤ 12 * F := by
  have a := sp_b (s := s) hF h 12 (Nat.le_refl _)
  have b := ed_b s l
  unfold vs_
  omega
theorem cb_b (a b : Nat) : ∀ l : List (Nat × Nat), 0 ≤ cb_ a b l ∧ cb_ a b l ≤ l.length
  | [] => by simp [cb_]
  | p :: l => by
      have i := cb_b a b l
      unfold cb_
      rw [List.length_cons]
      split <;> omega
theorem cb_s (a b : Nat) (p : Nat × Nat) : ∀ l : List (Nat × Nat), cb_ a b (l ++ [p]) = cb_ a b l + (if (p.1 = a ∧ p.2 = b) ∨ (p.1 = b ∧ p.2 = a) then 1 else 0)
  | [] => by simp [cb_]
  | q :: l => by
      show _ + cb_ a b (l ++ [p]) = _ + cb_ a b l + _
      rw [cb_s a b p l]; omega
/-- the pairs of the matches still left, from m on, that another club than cl plays -/
def plf_ (T : Zt) (cl : Int) : Nat → Int → List (Nat × Nat)
  | 0, _ => []
  | n + 1, m => (if (T 235 0 m = 0 ∨ T 235 0 m = 1) ∧ T 232 0 m ≠ cl ∧ T 233 0 m ≠ cl ∧ T 232 0 m ≠ T 233 0 m then [((T 232 0 m).toNat, (T 233 0 m).toNat)] else []) ++ plf_ T cl n (m + 1)
theorem plf_s (T : Zt) (cl : Int) : ∀ (n : Nat) (m : Int), plf_ T cl (n + 1) m = plf_ T cl n m ++ (if (T 235 0 (m + n) = 0 ∨ T 235 0 (m + n) = 1) ∧ T 232 0 (m + n) ≠ cl ∧ T 233 0 (m + n) ≠ cl ∧ T 232 0 (m + n) ≠ T 233 0 (m + n) then [((T 232 0 (m + n)).toNat, (T 233 0 (m + n)).toNat)] else [])
  | 0, m => by simp [plf_]
  | n + 1, m => by
      have i := plf_s T cl n (m + 1)
      rw [show m + 1 + (n : Int) = m + ((n + 1 : Nat) : Int) by omega] at i
      show _ ++ plf_ T cl (n + 1) (m + 1) = (_ ++ plf_ T cl n (m + 1)) ++ _
      rw [i, List.append_assoc]
theorem plf_b {T : Zt} {cl : Int} : ∀ (n : Nat) (m : Int), (∀ j, m ≤ j → j < m + n → (0 ≤ T 232 0 j ∧ T 232 0 j ≤ 11) ∧ (0 ≤ T 233 0 j ∧ T 233 0 j ≤ 11)) → ∀ p ∈ plf_ T cl n m, p.1 ≠ p.2 ∧ p.1 < 12 ∧ p.2 < 12
  | 0, _, _, p, hp => by cases hp
  | n + 1, m, h, p, hp => by
      unfold plf_ at hp
      rcases List.mem_append.mp hp with z | z
      · have g := h m (by omega) (by omega)
        split at z
        · rename_i c
          rw [List.mem_singleton] at z
          subst z
          refine ⟨?_, ?_, ?_⟩ <;> simp only <;> omega
        · cases z
      · exact plf_b n (m + 1) (fun j a b => h j (by omega) (by omega)) p z
theorem plf_n (T : Zt) (cl : Int) : ∀ (n : Nat) (m : Int), (plf_ T cl n m).length ≤ n
  | 0, _ => by simp [plf_]
  | n + 1, m => by
      have i := plf_n T cl n (m + 1)
      unfold plf_
      rw [List.length_append]
      split <;> simp <;> omega
/-- the slack of every set of others: a sum less its pairs twice, nowhere below 0 -/
def SVE_ (T : Zt) (o : Int) (l : List (Nat × Nat)) : Prop := ∃ f : Nat → Int, ∀ s : Int, 0 ≤ s → s < 4096 → an_ s o = s → T 296 0 s = vs_ f l s.toNat ∧ 0 ≤ T 296 0 s ∧ T 296 0 s ≤ 1000000000
def SW_ (T : Zt) (o a b : Int) (l : List (Nat × Nat)) : Prop := (a ≠ b → SVE_ T o ((a.toNat, b.toNat) :: l)) ∧ (a = b → SVE_ T o l)
def NW_ (T : Zt) (o a b w : Int) : Prop := ∃ s : Int, 1 ≤ s ∧ s < 4096 ∧ an_ s o = s ∧ T 296 0 s + ch_ s.toNat a.toNat b.toNat w < 0
theorem an_z {s o : Int} (ho : 0 ≤ o ∧ o ≤ 4095) (hs : 0 ≤ s ∧ s < 4096) : an_ s o = s ↔ s.toNat &&& o.toNat = s.toNat := by
  rw [an_n (by omega) (by omega)]; omega
theorem sw_n {T : Zt} {o a b : Int} {l : List (Nat × Nat)} (h : SW_ T o a b l) (ho : 0 ≤ o ∧ o ≤ 4095) (h0 : NW_ T o a b 0) (h1 : NW_ T o a b 1) (h2 : NW_ T o a b 2) : False := by
  by_cases z : a = b
  · obtain ⟨f, g⟩ := h.2 z
    obtain ⟨s, p1, p2, p3, p4⟩ := h0
    have q := g s (by omega) p2 p3
    have c := ch_c s.toNat a.toNat b.toNat 0
    rw [z] at c p4
    omega
  · obtain ⟨f, g⟩ := h.1 z
    obtain ⟨s0, p1, p2, p3, p4⟩ := h0
    obtain ⟨s1, q1, q2, q3, q4⟩ := h1
    obtain ⟨s2, r1, r2, r3, r4⟩ := h2
    rw [(g s0 (by omega) p2 p3).1] at p4
    rw [(g s1 (by omega) q2 q3).1] at q4
    rw [(g s2 (by omega) r2 r3).1] at r4
    refine vs_w (P := fun s => s < 4096 ∧ s &&& o.toNat = s) (fun s t hs ht => ⟨⟨Nat.or_lt_two_pow (n := 12) hs.1 ht.1, ?_⟩, ⟨Nat.lt_of_le_of_lt Nat.and_le_left hs.1, ?_⟩⟩) (fun s hs => ?_) ⟨by omega, (an_z ho (by omega)).mp p3⟩ ⟨by omega, (an_z ho (by omega)).mp q3⟩ ⟨by omega, (an_z ho (by omega)).mp r3⟩ p4 q4 r4
    · rw [Nat.and_or_distrib_right, hs.2, ht.2]
    · rw [Nat.and_assoc, ht.2]
    · have k := g (s : Int) (by omega) (by omega) ((an_z ho (by omega)).mpr (by rw [Int.toNat_natCast]; exact hs.2))
      rw [Int.toNat_natCast] at k
      omega
theorem ch_b (s a b : Nat) {w : Int} (hw : 0 ≤ w ∧ w ≤ 2) : -2 ≤ ch_ s a b w ∧ ch_ s a b w ≤ 0 := by
  have := ch_c s a b w
  omega
theorem ch_0 (a b : Nat) (w : Int) : ch_ 0 a b w = 0 := by
  have e : ∀ k, bt_ 0 k = 0 := fun k => by unfold bt_; rw [Nat.zero_testBit]; rfl
  unfold ch_; rw [e, e]; simp
theorem sw_p {T T1 : Zt} {o a b w : Int} {l : List (Nat × Nat)} (h : SW_ T o a b l) (ha : 0 ≤ a ∧ a < 12) (hb : 0 ≤ b ∧ b < 12) (hw : 0 ≤ w ∧ w ≤ 2)
    (ok : ∀ s, 1 ≤ s → s < 4096 → an_ s o = s → 0 ≤ T 296 0 s + ch_ s.toNat a.toNat b.toNat w)
    (up : ∀ s, 1 ≤ s → s < 4096 → an_ s o = s → T1 296 0 s = T 296 0 s + ch_ s.toNat a.toNat b.toNat w) (u0 : T1 296 0 0 = T 296 0 0) : SVE_ T1 o l := by
  have u : ∀ s, 0 ≤ s → s < 4096 → an_ s o = s → T1 296 0 s = T 296 0 s + ch_ s.toNat a.toNat b.toNat w := fun s h1 h2 h3 => by
    by_cases z : s = 0
    · subst z
      rw [u0, show Int.toNat 0 = 0 by rfl, ch_0]; omega
    · exact up s (by omega) h2 h3
  by_cases z : a = b
  · obtain ⟨f, g⟩ := h.2 z
    refine ⟨f, fun s h1 h2 h3 => ?_⟩
    have k := g s h1 h2 h3
    have c := ch_c s.toNat a.toNat b.toNat w
    have v := u s h1 h2 h3
    rw [z] at c v
    have : ch_ s.toNat b.toNat b.toNat w = 0 := by omega
    rw [this] at v
    rw [v, Int.add_zero]
    exact k
  · obtain ⟨f, g⟩ := h.1 z
    refine ⟨fw2_ f a.toNat b.toNat w, fun s h1 h2 h3 => ?_⟩
    have k := g s h1 h2 h3
    have v := u s h1 h2 h3
    have c := ch_b s.toNat a.toNat b.toNat hw
    rw [vs_s (by omega) (by omega)]
    by_cases y : s = 0
    · subst y
      rw [show Int.toNat 0 = 0 by rfl, ch_0] at v ⊢
      rw [show Int.toNat 0 = 0 by rfl] at k
      omega
    · have := ok s (by omega) h2 h3
      omega
theorem sve_e {T T1 : Zt} {o : Int} {l : List (Nat × Nat)} (h : SVE_ T o l) (e : ∀ j, T1 296 0 j = T 296 0 j) : SVE_ T1 o l := by
  obtain ⟨f, g⟩ := h
  exact ⟨f, fun s a b c => by rw [e]; exact g s a b c⟩
theorem plf_e {T T1 : Zt} {cl : Int} (a : ∀ j, T1 235 0 j = T 235 0 j) (b : ∀ j, T1 232 0 j = T 232 0 j) (c : ∀ j, T1 233 0 j = T 233 0 j) : ∀ (n : Nat) (m : Int), plf_ T1 cl n m = plf_ T cl n m
  | 0, _ => rfl
  | n + 1, m => by
      unfold plf_
      rw [a, b, c, plf_e a b c n (m + 1)]
/-- between two clubs stand as many as the pairs say -/
def BW_ (T : Zt) (l : List (Nat × Nat)) : Prop := ∀ x y : Int, 0 ≤ x → x < 12 → 0 ≤ y → y < 12 → x ≠ y → T 294 0 (12 * x + y) = cb_ x.toNat y.toNat l
theorem bw_s {T T1 T2 : Zt} {l : List (Nat × Nat)} {h a : Int} (w : BW_ T l) (hh : 0 ≤ h ∧ h ≤ 11) (ha : 0 ≤ a ∧ a ≤ 11) (e1 : T1 = up_ T 294 0 (12 * h + a) (T 294 0 (12 * h + a) + 1)) (e2 : T2 = up_ T1 294 0 (12 * a + h) (T1 294 0 (12 * a + h) + 1)) (ne : h ≠ a) : BW_ T2 (l ++ [(h.toNat, a.toNat)]) := fun x y x0 x1 y0 y1 xy => by
  rw [cb_s]
  have k := w x y x0 x1 y0 y1 xy
  by_cases z : x = h ∧ y = a
  · obtain ⟨rfl, rfl⟩ := z
    rw [up_g e2 (fun q => by omega), up_f e1, k, if_pos (Or.inl ⟨rfl, rfl⟩)]
  · by_cases z2 : x = a ∧ y = h
    · obtain ⟨rfl, rfl⟩ := z2
      rw [up_f e2, up_g e1 (fun q => by omega), k, if_pos (Or.inr ⟨rfl, rfl⟩)]
    · rw [up_g e2 (fun q => by omega), up_g e1 (fun q => by omega), k, if_neg (fun q => by simp only at q; omega)]; omega
theorem bw_d {T T1 T2 : Zt} {l : List (Nat × Nat)} {h a : Int} (w : BW_ T l) (hh : 0 ≤ h ∧ h ≤ 11) (e1 : T1 = up_ T 294 0 (12 * h + a) (T 294 0 (12 * h + a) + 1)) (e2 : T2 = up_ T1 294 0 (12 * a + h) (T1 294 0 (12 * a + h) + 1)) (ne : h = a) : BW_ T2 l := fun x y x0 x1 y0 y1 xy => by
  rw [up_g e2 (fun q => by omega), up_g e1 (fun q => by omega)]
  exact w x y x0 x1 y0 y1 xy
/-- what the slack is, below the set s -/
def SV_ (T : Zt) (o s : Int) (l : List (Nat × Nat)) (f : Nat → Int) : Prop := ∀ t : Int, 0 ≤ t → t < s → an_ t o = t → T 296 0 t = vs_ f l t.toNat
theorem su_b {g : Nat → Int} {s lo : Nat} {B : Int} (hB : 0 ≤ B) (h : ∀ k, 0 ≤ g k ∧ g k ≤ B) : ∀ n : Nat, 0 ≤ su_ g s lo n ∧ su_ g s lo n ≤ n * B
  | 0 => by simp [su_]
  | n + 1 => by
      have i := su_b (s := s) (lo := lo) hB h n
      have k := h n
      unfold su_
      rw [show ((n + 1 : Nat) : Int) * B = n * B + B by rw [Int.natCast_add, Int.add_mul]; simp]
      split
      · rcases bt_01 s n with x | x <;> rw [x] <;> omega
      · omega
theorem su_n {g : Nat → Int} {s lo : Nat} : ∀ n : Nat, n ≤ lo → su_ g s lo n = 0
  | 0, _ => rfl
  | n + 1, h => by unfold su_; rw [su_n n (by omega), if_neg (by omega)]; rfl
theorem vs_0 (f : Nat → Int) (l : List (Nat × Nat)) : vs_ f l 0 = 0 := by
  have e : ∀ k, bt_ 0 k = 0 := fun k => by unfold bt_; rw [Nat.zero_testBit]; rfl
  have a : ∀ n, sp_ f 0 n = 0 := fun n => by
    induction n with
    | zero => rfl
    | succ n i => unfold sp_; rw [i, e]; simp
  have b : ∀ l : List (Nat × Nat), ed_ 0 l = 0 := fun l => by
    induction l with
    | nil => rfl
    | cons p l i => unfold ed_; rw [i, e]; simp
  unfold vs_; rw [a, b]; rfl
theorem lo_lt {s lo : Int} (hs : 1 ≤ s ∧ s < 4096) (h0 : 0 ≤ lo) (h : ∀ j, 0 ≤ j → j < lo → an_ (sr_ s j) 1 = 0) : lo < 12 := by
  apply Int.not_le.mp
  intro hl
  have z : s.toNat = 0 := by
    apply Nat.eq_of_testBit_eq
    intro j
    rw [Nat.zero_testBit]
    by_cases y : j < 12
    · have k := h (j : Int) (by omega) (by omega)
      rw [bt_n (by omega) (by omega), Int.toNat_natCast] at k
      unfold bt_ at k
      split at k
      · omega
      · simp_all
    · exact Nat.testBit_lt_two_pow (Nat.lt_of_lt_of_le (by omega : s.toNat < 2 ^ 12) (Nat.pow_le_pow_right (by decide) (by omega)))
  omega
theorem an_1 {s : Int} (hs : 1 ≤ s ∧ s < 4096) : an_ s (s - 1) = ((s.toNat &&& (s.toNat - 1) : Nat) : Int) ∧ 0 ≤ an_ s (s - 1) ∧ an_ s (s - 1) ≤ s - 1 := by
  have e := an_n (x := s) (y := s - 1) (by omega) (by omega)
  rw [show (s - 1).toNat = s.toNat - 1 by omega] at e
  have l : s.toNat &&& (s.toNat - 1) ≤ s.toNat - 1 := Nat.and_le_right
  exact ⟨e, by omega, by omega⟩
theorem an_2 {s o : Int} (ho : 0 ≤ o ∧ o ≤ 4095) (hs : 1 ≤ s ∧ s < 4096) (h : an_ s o = s) : an_ (an_ s (s - 1)) o = an_ s (s - 1) := by
  have a := an_1 hs
  rw [an_z ho (by omega)] at h
  rw [an_z ho (by omega), a.1, Int.toNat_natCast, Nat.and_assoc, Nat.and_comm (s.toNat - 1), ← Nat.and_assoc, h]
theorem sw_b {T : Zt} {o a b s : Int} {l : List (Nat × Nat)} (h : SW_ T o a b l) (h1 : 0 ≤ s) (h2 : s < 4096) (h3 : an_ s o = s) : 0 ≤ T 296 0 s ∧ T 296 0 s ≤ 1000000000 := by
  by_cases z : a = b
  · obtain ⟨f, g⟩ := h.2 z
    exact (g s h1 h2 h3).2
  · obtain ⟨f, g⟩ := h.1 z
    exact (g s h1 h2 h3).2
theorem mul_b {x y : Int} (hx : 0 ≤ x ∧ x ≤ 9) (hy : 0 ≤ y ∧ y ≤ 1000) : 0 ≤ x * y ∧ x * y ≤ 9000 := by
  refine ⟨Int.mul_nonneg hx.1 hy.1, ?_⟩
  have := Int.mul_le_mul hx.2 hy.2 hy.1 (by decide : (0 : Int) ≤ 9)
  omega
abbrev cX11_isLeft : ByteArray := prog_13_method_97_code
def yX11_isLeft : MethodName := ⟨RX11, "isLeft", "(I)Z"⟩
def zX11_isLeft : Zm := (RX11, cX11_isLeft, 2, (some .boolean), { frames := 0, cells := 0, slots := 0, locals := 0 })
theorem bk_X11_isLeft_0 : ck_ fX11 (some .boolean) cX11_isLeft 0 [.aload 0, .tableswitch 0 11 35 #[], .iload 1, .iaload, .ifCond .eq 19, .aload 0, .tableswitch 0 11 35 #[], .iload 1, .iaload, .iconst 1, .if_icmp .ne 23, .iconst 1, .goto 24] 23 = true := qck_r (nn_ _) (by decide +kernel)
theorem bs_X11_isLeft_0 {P : Zt → Option Zv → Prop} (K : Int → Zl → List Zv → Zt → Prop) : sx_ K P [.aload 0, .tableswitch 0 11 35 #[], .iload 1, .iaload, .ifCond .eq 19, .aload 0, .tableswitch 0 11 35 #[], .iload 1, .iaload, .iconst 1, .if_icmp .ne 23, .iconst 1, .goto 24] 23 = x_aload 0 (x_g1 111 235 (x_iload 1 (x_iaload (x_ifCond .eq 19 K (x_aload 0 (x_g1 111 235 (x_iload 1 (x_iaload (x_iconst 1 (x_if_icmp .ne 23 K (x_iconst 1 (x_goto 24 K)))))))))))) := ((xe_aload 0).trans (congrArg (x_aload 0) ((xe_g1 (kk := 111) rfl tl_11_35).trans (congrArg (x_g1 111 235) ((xe_iload 1).trans (congrArg (x_iload 1) ((xe_iaload).trans (congrArg (x_iaload) ((xe_ifCond .eq 19).trans (congrArg (x_ifCond .eq 19 K) ((xe_aload 0).trans (congrArg (x_aload 0) ((xe_g1 (kk := 111) rfl tl_11_35).trans (congrArg (x_g1 111 235) ((xe_iload 1).trans (congrArg (x_iload 1) ((xe_iaload).trans (congrArg (x_iaload) ((xe_iconst 1).trans (congrArg (x_iconst 1) ((xe_if_icmp .ne 23).trans (congrArg (x_if_icmp .ne 23 K) ((xe_iconst 1).trans (congrArg (x_iconst 1) (xe_goto 24)))))))))))))))))))))))))
theorem bk_X11_isLeft_19 : ck_ fX11 (some .boolean) cX11_isLeft 19 [.iconst 1, .goto 24] 23 = true := qck_r (nn_ _) (by decide +kernel)
theorem bs_X11_isLeft_19 {P : Zt → Option Zv → Prop} (K : Int → Zl → List Zv → Zt → Prop) : sx_ K P [.iconst 1, .goto 24] 23 = x_iconst 1 (x_goto 24 K) := ((xe_iconst 1).trans (congrArg (x_iconst 1) (xe_goto 24)))
theorem bk_X11_isLeft_24 : ck_ fX11 (some .boolean) cX11_isLeft 24 [.ireturn] 25 = true := qck_r (nn_ _) (by decide +kernel)
theorem bs_X11_isLeft_24 {P : Zt → Option Zv → Prop} (K : Int → Zl → List Zv → Zt → Prop) : sx_ K P [.ireturn] 25 = x_ireturn P := (xe_ireturn)
theorem bk_X11_isLeft_23 : ck_ fX11 (some .boolean) cX11_isLeft 23 [.iconst 0, .ireturn] 25 = true := qck_r (nn_ _) (by decide +kernel)
theorem bs_X11_isLeft_23 {P : Zt → Option Zv → Prop} (K : Int → Zl → List Zv → Zt → Prop) : sx_ K P [.iconst 0, .ireturn] 25 = x_iconst 0 (x_ireturn P) := ((xe_iconst 0).trans (congrArg (x_iconst 0) (xe_ireturn)))
abbrev po_X11_isLeft (T : Zt) (m : Int) : Zt → Option Zv → Prop := fun T' r => T = T' ∧ ∃ x : Int, r = some (vI x) ∧ ((x = 1 ∧ (T 235 0 m = 0 ∨ T 235 0 m = 1)) ∨ (x = 0 ∧ ¬ (T 235 0 m = 0 ∨ T 235 0 m = 1)))
set_option maxHeartbeats 4000000 in
theorem ct_X11_isLeft {T : Zt} {m : Int} (h1 : 0 ≤ m ∧ m < 400) : Ct_ yX11_isLeft zX11_isLeft T [vR 111 0, vI m] (po_X11_isLeft T m) := by
  refine ct_of pn_11 rfl rfl (Nat.le_of_ble_eq_true rfl) (fun hT hav => ?_)
  have hr_m : -2147483648 ≤ m ∧ m ≤ 2147483647 := hav (vI m) (List.mem_cons_of_mem _ List.mem_cons_self)
  have hz : zX11_isLeft.2.2.2.1 = some .boolean → ∀ (T' : Zt) (x : Int), po_X11_isLeft T m T' (some (vI x)) → 0 ≤ x ∧ x ≤ 1 := fun _ T' x h => by obtain ⟨-, y, e, hy⟩ := h; cases e; omega
  show J_ zX11_isLeft T (po_X11_isLeft T m) 0 0 0 [some (vR 111 0), some (vI m)] [] T
  refine j_blx (F := fX11) tb_X11 (nn_ _) bk_X11_isLeft_0 bs_X11_isLeft_0 hz (fun K hK => ?_)
  refine ix_i (by omega) ?_
  intro b1 b1b
  refine And.intro (fun c2 => ?_) (fun c2 => ?_)
  · refine hK 19 _ [] T ?_
    refine j_blx (F := fX11) tb_X11 (nn_ _) bk_X11_isLeft_19 bs_X11_isLeft_19 hz (fun K hK => ?_)
    refine hK 24 _ [vI 1] T ?_
    refine j_blx (F := fX11) tb_X11 (nn_ _) bk_X11_isLeft_24 bs_X11_isLeft_24 hz (fun K hK => ?_)
    refine (show po_X11_isLeft T m T (some (vI 1)) from ?_)
    exact ⟨rfl, _, rfl, Or.inl ⟨rfl, by omega⟩⟩
  · refine ix_i (by omega) ?_
    intro b3 b3b
    refine And.intro (fun c4 => ?_) (fun c4 => ?_)
    · refine hK 23 _ [] T ?_
      refine j_blx (F := fX11) tb_X11 (nn_ _) bk_X11_isLeft_23 bs_X11_isLeft_23 hz (fun K hK => ?_)
      refine (show po_X11_isLeft T m T (some (vI 0)) from ?_)
      exact ⟨rfl, _, rfl, Or.inr ⟨rfl, by omega⟩⟩
    · refine hK 24 _ [vI 1] T ?_
      refine j_blx (F := fX11) tb_X11 (nn_ _) bk_X11_isLeft_24 bs_X11_isLeft_24 hz (fun K hK => ?_)
      refine (show po_X11_isLeft T m T (some (vI 1)) from ?_)
      exact ⟨rfl, _, rfl, Or.inl ⟨rfl, by omega⟩⟩
def PB6_ (T : Zt) : Prop := ∀ k : Int, 0 ≤ k → k < 12 → -7500000 ≤ T 291 0 k ∧ T 291 0 k ≤ 7500000
theorem PB6__f {ws : List (Nat × List Int)} {T T' : Zt} (h : PB6_ T) (f : fr_ ws T T') (w : (∀ j, fw_ ws 291 j = false) ∧ True) : PB6_ T' := by
  have e0 : ∀ i j, T' 291 i j = T 291 i j := fun i j => f 291 i j (w.1 j)
  simp only [PB6_, e0] at h ⊢
  exact h
def LB_ (T : Zt) (b : Int) : Prop := ∀ k, 0 ≤ k → k < 12 → 0 ≤ T 292 0 k ∧ T 292 0 k ≤ b
theorem lb_u {T T1 : Zt} {b i v : Int} (h : LB_ T b) (e : T1 = up_ T 292 0 i v) (hv : 0 ≤ v ∧ v ≤ b + 1) : LB_ T1 (b + 1) := fun j a c => by
  by_cases z : j = i
  · rw [z, up_f e]; exact hv
  · rw [up_g e (fun q => z q.2.2)]
    have := h j a c
    omega
theorem lb_m {T : Zt} {b d : Int} (h : LB_ T b) (e : b ≤ d) : LB_ T d := fun j a c => by
  have := h j a c
  omega
abbrev cX11_countLeft : ByteArray := prog_13_method_98_code
def yX11_countLeft : MethodName := ⟨RX11, "countLeft", "(I)V"⟩
def zX11_countLeft : Zm := (RX11, cX11_countLeft, 3, none, { frames := 3, cells := 0, slots := 0, locals := 70 })
set_option maxRecDepth 100000 in
theorem cl_X11_538 : cv_ RX11 538 yX11_isLeft zX11_isLeft 11 1 := ⟨gi_V (lwq_9 (dqc_m (dqc_m (dqc_m (dqc_m (dqc_m (dqc_m (dqc_m (dqa_m (List.mem_of_getElem? (i := 0) rfl))))))))) rfl : Cond.methodLink RX11 538 yX11_isLeft ∈ lw_g) (lwq_9 (dqc_m (dqc_m (dqc_m (dqc_m (dqc_m (dqc_m (dqc_m (dqa_m (List.mem_of_getElem? (i := 2) rfl))))))))) rfl : Cond.instanceMethod yX11_isLeft ∈ lw_g) (lw_sel 26 rfl : Cond.selects yX11_isLeft.cls yX11_isLeft yX11_isLeft ∈ lw_g) (lwq_1 (dqa_m (List.mem_of_getElem? (i := 2) rfl)) rfl : Cond.initialized yX11_isLeft.cls ∈ lw_g) (lwq_9 (dqc_m (dqc_m (dqc_m (dqc_m (dqc_m (dqc_m (dqc_m (dqa_m (List.mem_of_getElem? (i := 3) rfl))))))))) rfl : Cond.code yX11_isLeft cX11_isLeft 2 (some .boolean) ∈ lw_g), ⟨nmh_1.1, nmh_1.2, pdq_7⟩, ⟨_, _, rfl⟩⟩
abbrev cX11_othersOf : ByteArray := prog_13_method_99_code
def yX11_othersOf : MethodName := ⟨RX11, "othersOf", "(II)I"⟩
def zX11_othersOf : Zm := (RX11, cX11_othersOf, 5, (some .int), { frames := 0, cells := 0, slots := 0, locals := 0 })
theorem bk_X11_othersOf_5 : ck_ fX11 (some .int) cX11_othersOf 5 [.iload 4, .aload 0, .tableswitch 0 11 8 #[], .iload 1, .iaload, .if_icmp .ge 59, .aload 0, .tableswitch 0 11 7 #[], .iconst 12, .iload 1, .imul, .iload 4, .iadd, .iaload, .iload 2, .if_icmp .ne 36, .iload 3, .goto 52] 36 = true := qck_r (nn_ _) (by decide +kernel)
theorem bs_X11_othersOf_5 {P : Zt → Option Zv → Prop} (K : Int → Zl → List Zv → Zt → Prop) : sx_ K P [.iload 4, .aload 0, .tableswitch 0 11 8 #[], .iload 1, .iaload, .if_icmp .ge 59, .aload 0, .tableswitch 0 11 7 #[], .iconst 12, .iload 1, .imul, .iload 4, .iadd, .iaload, .iload 2, .if_icmp .ne 36, .iload 3, .goto 52] 36 = x_iload 4 (x_aload 0 (x_g1 111 208 (x_iload 1 (x_iaload (x_if_icmp .ge 59 K (x_aload 0 (x_g1 111 207 (x_iconst 12 (x_iload 1 (x_imul (x_iload 4 (x_iadd (x_iaload (x_iload 2 (x_if_icmp .ne 36 K (x_iload 3 (x_goto 52 K))))))))))))))))) := ((xe_iload 4).trans (congrArg (x_iload 4) ((xe_aload 0).trans (congrArg (x_aload 0) ((xe_g1 (kk := 111) rfl tl_11_8).trans (congrArg (x_g1 111 208) ((xe_iload 1).trans (congrArg (x_iload 1) ((xe_iaload).trans (congrArg (x_iaload) ((xe_if_icmp .ge 59).trans (congrArg (x_if_icmp .ge 59 K) ((xe_aload 0).trans (congrArg (x_aload 0) ((xe_g1 (kk := 111) rfl tl_11_7).trans (congrArg (x_g1 111 207) ((xe_iconst 12).trans (congrArg (x_iconst 12) ((xe_iload 1).trans (congrArg (x_iload 1) ((xe_imul).trans (congrArg (x_imul) ((xe_iload 4).trans (congrArg (x_iload 4) ((xe_iadd).trans (congrArg (x_iadd) ((xe_iaload).trans (congrArg (x_iaload) ((xe_iload 2).trans (congrArg (x_iload 2) ((xe_if_icmp .ne 36).trans (congrArg (x_if_icmp .ne 36 K) ((xe_iload 3).trans (congrArg (x_iload 3) (xe_goto 52)))))))))))))))))))))))))))))))))))
theorem bk_X11_othersOf_59 : ck_ fX11 (some .int) cX11_othersOf 59 [.iload 3, .ireturn] 61 = true := qck_r (nn_ _) (by decide +kernel)
theorem bs_X11_othersOf_59 {P : Zt → Option Zv → Prop} (K : Int → Zl → List Zv → Zt → Prop) : sx_ K P [.iload 3, .ireturn] 61 = x_iload 3 (x_ireturn P) := ((xe_iload 3).trans (congrArg (x_iload 3) (xe_ireturn)))
theorem bk_X11_othersOf_36 : ck_ fX11 (some .int) cX11_othersOf 36 [.iload 3, .iconst 1, .aload 0, .tableswitch 0 11 7 #[], .iconst 12, .iload 1, .imul, .iload 4, .iadd, .iaload, .ishl, .ior, .istore 3, .iinc 4 1, .goto 5] 59 = true := qck_r (nn_ _) (by decide +kernel)
theorem bs_X11_othersOf_36 {P : Zt → Option Zv → Prop} (K : Int → Zl → List Zv → Zt → Prop) : sx_ K P [.iload 3, .iconst 1, .aload 0, .tableswitch 0 11 7 #[], .iconst 12, .iload 1, .imul, .iload 4, .iadd, .iaload, .ishl, .ior, .istore 3, .iinc 4 1, .goto 5] 59 = x_iload 3 (x_iconst 1 (x_aload 0 (x_g1 111 207 (x_iconst 12 (x_iload 1 (x_imul (x_iload 4 (x_iadd (x_iaload (x_ishl (x_ior (x_istore 3 (x_iinc 4 1 (x_goto 5 K)))))))))))))) := ((xe_iload 3).trans (congrArg (x_iload 3) ((xe_iconst 1).trans (congrArg (x_iconst 1) ((xe_aload 0).trans (congrArg (x_aload 0) ((xe_g1 (kk := 111) rfl tl_11_7).trans (congrArg (x_g1 111 207) ((xe_iconst 12).trans (congrArg (x_iconst 12) ((xe_iload 1).trans (congrArg (x_iload 1) ((xe_imul).trans (congrArg (x_imul) ((xe_iload 4).trans (congrArg (x_iload 4) ((xe_iadd).trans (congrArg (x_iadd) ((xe_iaload).trans (congrArg (x_iaload) ((xe_ishl).trans (congrArg (x_ishl) ((xe_ior).trans (congrArg (x_ior) ((xe_istore 3).trans (congrArg (x_istore 3) ((xe_iinc 4 1).trans (congrArg (x_iinc 4 1) (xe_goto 5)))))))))))))))))))))))))))))
theorem bk_X11_othersOf_52 : ck_ fX11 (some .int) cX11_othersOf 52 [.istore 3, .iinc 4 1, .goto 5] 59 = true := qck_r (nn_ _) (by decide +kernel)
theorem bs_X11_othersOf_52 {P : Zt → Option Zv → Prop} (K : Int → Zl → List Zv → Zt → Prop) : sx_ K P [.istore 3, .iinc 4 1, .goto 5] 59 = x_istore 3 (x_iinc 4 1 (x_goto 5 K)) := ((xe_istore 3).trans (congrArg (x_istore 3) ((xe_iinc 4 1).trans (congrArg (x_iinc 4 1) (xe_goto 5)))))
theorem bk_X11_othersOf_0 : ck_ fX11 (some .int) cX11_othersOf 0 [.iconst 0, .istore 3, .iconst 0, .istore 4] 5 = true := qck_r (nn_ _) (by decide +kernel)
theorem bs_X11_othersOf_0 {P : Zt → Option Zv → Prop} (K : Int → Zl → List Zv → Zt → Prop) : sx_ K P [.iconst 0, .istore 3, .iconst 0, .istore 4] 5 = x_iconst 0 (x_istore 3 (x_iconst 0 (x_istore 4 (K 5)))) := ((xe_iconst 0).trans (congrArg (x_iconst 0) ((xe_istore 3).trans (congrArg (x_istore 3) ((xe_iconst 0).trans (congrArg (x_iconst 0) ((xe_istore 4).trans (congrArg (x_istore 4) xe_nil))))))))
abbrev po_X11_othersOf (T : Zt) (c cl : Int) : Zt → Option Zv → Prop := fun T' r => T = T' ∧ ∃ x : Int, r = some (vI x) ∧ (0 ≤ x ∧ x ≤ 4095)
set_option maxHeartbeats 4000000 in
theorem ct_X11_othersOf {T : Zt} {c cl : Int} (h1 : 0 ≤ c ∧ c < 4) : Ct_ yX11_othersOf zX11_othersOf T [vR 111 0, vI c, vI cl] (po_X11_othersOf T c cl) := by
  refine ct_of pn_11 rfl rfl (Nat.le_of_ble_eq_true rfl) (fun hT hav => ?_)
  have hr_c : -2147483648 ≤ c ∧ c ≤ 2147483647 := hav (vI c) (List.mem_cons_of_mem _ List.mem_cons_self)
  have hr_cl : -2147483648 ≤ cl ∧ cl ≤ 2147483647 := hav (vI cl) (List.mem_cons_of_mem _ (List.mem_cons_of_mem _ List.mem_cons_self))
  have hz : zX11_othersOf.2.2.2.1 = some .boolean → ∀ (T' : Zt) (x : Int), po_X11_othersOf T c cl T' (some (vI x)) → 0 ≤ x ∧ x ≤ 1 := fun h => by cases h
  show J_ zX11_othersOf T (po_X11_othersOf T c cl) 0 0 0 [some (vR 111 0), some (vI c), some (vI cl), none, none] [] T
  have c_5 : ∀ (nn : Nat) (u : Int) (i : Int), ((12 - i).toNat) ≤ nn → (0 ≤ i ∧ 0 ≤ u ∧ u ≤ 4095) → J_ zX11_othersOf T (po_X11_othersOf T c cl) 0 0 5 [some (vR 111 0), some (vI c), some (vI cl), some (vI u), some (vI i)] [] T := by
    intro nn
    induction nn using Nat.strongRecOn with
    | _ nn ih_5 =>
      intro u i hm_5 i1
      replace hm_5 := fun (_ : Unit) => hm_5
      refine j_blx (F := fX11) tb_X11 (nn_ _) bk_X11_othersOf_5 bs_X11_othersOf_5 hz (fun K hK => ?_)
      refine ix_i (by omega) ?_
      intro b1 b1b
      refine And.intro (fun c2 => ?_) (fun c2 => ?_)
      · refine hK 59 _ [] T ?_
        refine j_blx (F := fX11) tb_X11 (nn_ _) bk_X11_othersOf_59 bs_X11_othersOf_59 hz (fun K hK => ?_)
        refine (show po_X11_othersOf T c cl T (some (vI u)) from ?_)
        exact ⟨rfl, _, rfl, by omega⟩
      · refine rg_i (by omega) ?_
        refine rg_i (by omega) ?_
        refine ix_i (by omega) ?_
        intro b3 b3b
        refine And.intro (fun c4 => ?_) (fun c4 => ?_)
        · refine hK 36 _ [] T ?_
          refine j_blx (F := fX11) tb_X11 (nn_ _) bk_X11_othersOf_36 bs_X11_othersOf_36 hz (fun K hK => ?_)
          refine rg_i (by omega) ?_
          refine rg_i (by omega) ?_
          refine ix_i (by omega) ?_
          intro b5 b5b
          intro w6 w6b
          intro w7 w7b
          have ob8 : 0 ≤ or_ u (sl_ 1 (T 207 0 ((12 * c) + i))) ∧ or_ u (sl_ 1 (T 207 0 ((12 * c) + i))) ≤ 4095 := or_b (by omega) (sl_b (by omega))
          refine rg_i (by omega) ?_
          refine hK 5 [some (vR 111 0), some (vI c), some (vI cl), some (vI (or_ u (sl_ 1 (T 207 0 ((12 * c) + i))))), some (vI (i + 1))] [] T ?_
          refine ih_5 _ ?_ (or_ u (sl_ 1 (T 207 0 ((12 * c) + i)))) (i + 1) (Nat.le_refl _) ?_
          · have hm_5 := hm_5 (); omega
          · omega
        · refine hK 52 [some (vR 111 0), some (vI c), some (vI cl), some (vI u), some (vI i)] [vI u] T ?_
          refine j_blx (F := fX11) tb_X11 (nn_ _) bk_X11_othersOf_52 bs_X11_othersOf_52 hz (fun K hK => ?_)
          refine rg_i (by omega) ?_
          refine hK 5 [some (vR 111 0), some (vI c), some (vI cl), some (vI u), some (vI (i + 1))] [] T ?_
          refine ih_5 _ ?_ u (i + 1) (Nat.le_refl _) ?_
          · have hm_5 := hm_5 (); omega
          · omega
  refine j_blx (F := fX11) tb_X11 (nn_ _) bk_X11_othersOf_0 bs_X11_othersOf_0 hz (fun K hK => ?_)
  refine hK 5 [some (vR 111 0), some (vI c), some (vI cl), some (vI 0), some (vI 0)] [] T ?_
  refine c_5 _ 0 0 (Nat.le_refl _) ?_
  · omega
def BB_ (T : Zt) (b : Int) : Prop := ∀ k, 0 ≤ k → k < 144 → 0 ≤ T 294 0 k ∧ T 294 0 k ≤ b
theorem bb_u {T T1 : Zt} {b i v : Int} (h : BB_ T b) (e : T1 = up_ T 294 0 i v) (hv : 0 ≤ v ∧ v ≤ b + 1) : BB_ T1 (b + 1) := fun j a c => by
  by_cases z : j = i
  · rw [z, up_f e]; exact hv
  · rw [up_g e (fun q => z q.2.2)]
    have := h j a c
    omega
theorem bb_m {T : Zt} {b d : Int} (h : BB_ T b) (e : b ≤ d) : BB_ T d := fun j a c => by
  have := h j a c
  omega
abbrev cX11_layBetween : ByteArray := prog_13_method_100_code
def yX11_layBetween : MethodName := ⟨RX11, "layBetween", "(II)V"⟩
def zX11_layBetween : Zm := (RX11, cX11_layBetween, 4, none, { frames := 1, cells := 0, slots := 0, locals := 21 })
theorem bk_X11_layBetween_29 : ck_ fX11 none cX11_layBetween 29 [.iload 3, .aload 0, .tableswitch 0 11 10 #[], .iload 1, .iaload, .aload 0, .tableswitch 0 11 11 #[], .iload 1, .iaload, .iadd, .if_icmp .ge 130, .aload 0, .iload 3] 48 = true := qck_r (nn_ _) (by decide +kernel)
theorem bs_X11_layBetween_29 {P : Zt → Option Zv → Prop} (K : Int → Zl → List Zv → Zt → Prop) : sx_ K P [.iload 3, .aload 0, .tableswitch 0 11 10 #[], .iload 1, .iaload, .aload 0, .tableswitch 0 11 11 #[], .iload 1, .iaload, .iadd, .if_icmp .ge 130, .aload 0, .iload 3] 48 = x_iload 3 (x_aload 0 (x_g1 111 210 (x_iload 1 (x_iaload (x_aload 0 (x_g1 111 211 (x_iload 1 (x_iaload (x_iadd (x_if_icmp .ge 130 K (x_aload 0 (x_iload 3 (K 48))))))))))))) := ((xe_iload 3).trans (congrArg (x_iload 3) ((xe_aload 0).trans (congrArg (x_aload 0) ((xe_g1 (kk := 111) rfl tl_11_10).trans (congrArg (x_g1 111 210) ((xe_iload 1).trans (congrArg (x_iload 1) ((xe_iaload).trans (congrArg (x_iaload) ((xe_aload 0).trans (congrArg (x_aload 0) ((xe_g1 (kk := 111) rfl tl_11_11).trans (congrArg (x_g1 111 211) ((xe_iload 1).trans (congrArg (x_iload 1) ((xe_iaload).trans (congrArg (x_iaload) ((xe_iadd).trans (congrArg (x_iadd) ((xe_if_icmp .ge 130).trans (congrArg (x_if_icmp .ge 130 K) ((xe_aload 0).trans (congrArg (x_aload 0) ((xe_iload 3).trans (congrArg (x_iload 3) xe_nil))))))))))))))))))))))))))
theorem bk_X11_layBetween_130 : ck_ fX11 none cX11_layBetween 130 [.return_] 131 = true := qck_r (nn_ _) (by decide +kernel)
theorem bs_X11_layBetween_130 {P : Zt → Option Zv → Prop} (K : Int → Zl → List Zv → Zt → Prop) : sx_ K P [.return_] 131 = x_return_ P := (xe_return_)
theorem bk_X11_layBetween_51 : ck_ fX11 none cX11_layBetween 51 [.ifCond .eq 124, .aload 0, .tableswitch 0 11 32 #[], .iload 3, .iaload, .iload 2, .if_icmp .eq 124, .aload 0, .tableswitch 0 11 33 #[], .iload 3, .iaload, .iload 2, .if_icmp .eq 124, .aload 0, .tableswitch 0 11 94 #[], .iconst 12, .aload 0, .tableswitch 0 11 32 #[], .iload 3, .iaload, .imul, .aload 0, .tableswitch 0 11 33 #[], .iload 3, .iaload, .iadd, .dup2, .iaload, .iconst 1, .iadd, .iastore, .aload 0, .tableswitch 0 11 94 #[], .iconst 12, .aload 0, .tableswitch 0 11 33 #[], .iload 3, .iaload, .imul, .aload 0, .tableswitch 0 11 32 #[], .iload 3, .iaload, .iadd, .dup2, .iaload, .iconst 1, .iadd, .iastore, .iinc 3 1, .goto 29] 130 = true := qck_r (nn_ _) (by decide +kernel)
theorem bs_X11_layBetween_51 {P : Zt → Option Zv → Prop} (K : Int → Zl → List Zv → Zt → Prop) : sx_ K P [.ifCond .eq 124, .aload 0, .tableswitch 0 11 32 #[], .iload 3, .iaload, .iload 2, .if_icmp .eq 124, .aload 0, .tableswitch 0 11 33 #[], .iload 3, .iaload, .iload 2, .if_icmp .eq 124, .aload 0, .tableswitch 0 11 94 #[], .iconst 12, .aload 0, .tableswitch 0 11 32 #[], .iload 3, .iaload, .imul, .aload 0, .tableswitch 0 11 33 #[], .iload 3, .iaload, .iadd, .dup2, .iaload, .iconst 1, .iadd, .iastore, .aload 0, .tableswitch 0 11 94 #[], .iconst 12, .aload 0, .tableswitch 0 11 33 #[], .iload 3, .iaload, .imul, .aload 0, .tableswitch 0 11 32 #[], .iload 3, .iaload, .iadd, .dup2, .iaload, .iconst 1, .iadd, .iastore, .iinc 3 1, .goto 29] 130 = x_ifCond .eq 124 K (x_aload 0 (x_g1 111 232 (x_iload 3 (x_iaload (x_iload 2 (x_if_icmp .eq 124 K (x_aload 0 (x_g1 111 233 (x_iload 3 (x_iaload (x_iload 2 (x_if_icmp .eq 124 K (x_aload 0 (x_g1 111 294 (x_iconst 12 (x_aload 0 (x_g1 111 232 (x_iload 3 (x_iaload (x_imul (x_aload 0 (x_g1 111 233 (x_iload 3 (x_iaload (x_iadd (x_dup2 (x_iaload (x_iconst 1 (x_iadd (x_iastore (x_aload 0 (x_g1 111 294 (x_iconst 12 (x_aload 0 (x_g1 111 233 (x_iload 3 (x_iaload (x_imul (x_aload 0 (x_g1 111 232 (x_iload 3 (x_iaload (x_iadd (x_dup2 (x_iaload (x_iconst 1 (x_iadd (x_iastore (x_iinc 3 1 (x_goto 29 K)))))))))))))))))))))))))))))))))))))))))))))))))) := ((xe_ifCond .eq 124).trans (congrArg (x_ifCond .eq 124 K) ((xe_aload 0).trans (congrArg (x_aload 0) ((xe_g1 (kk := 111) rfl tl_11_32).trans (congrArg (x_g1 111 232) ((xe_iload 3).trans (congrArg (x_iload 3) ((xe_iaload).trans (congrArg (x_iaload) ((xe_iload 2).trans (congrArg (x_iload 2) ((xe_if_icmp .eq 124).trans (congrArg (x_if_icmp .eq 124 K) ((xe_aload 0).trans (congrArg (x_aload 0) ((xe_g1 (kk := 111) rfl tl_11_33).trans (congrArg (x_g1 111 233) ((xe_iload 3).trans (congrArg (x_iload 3) ((xe_iaload).trans (congrArg (x_iaload) ((xe_iload 2).trans (congrArg (x_iload 2) ((xe_if_icmp .eq 124).trans (congrArg (x_if_icmp .eq 124 K) ((xe_aload 0).trans (congrArg (x_aload 0) ((xe_g1 (kk := 111) rfl tl_11_94).trans (congrArg (x_g1 111 294) ((xe_iconst 12).trans (congrArg (x_iconst 12) ((xe_aload 0).trans (congrArg (x_aload 0) ((xe_g1 (kk := 111) rfl tl_11_32).trans (congrArg (x_g1 111 232) ((xe_iload 3).trans (congrArg (x_iload 3) ((xe_iaload).trans (congrArg (x_iaload) ((xe_imul).trans (congrArg (x_imul) ((xe_aload 0).trans (congrArg (x_aload 0) ((xe_g1 (kk := 111) rfl tl_11_33).trans (congrArg (x_g1 111 233) ((xe_iload 3).trans (congrArg (x_iload 3) ((xe_iaload).trans (congrArg (x_iaload) ((xe_iadd).trans (congrArg (x_iadd) ((xe_dup2).trans (congrArg (x_dup2) ((xe_iaload).trans (congrArg (x_iaload) ((xe_iconst 1).trans (congrArg (x_iconst 1) ((xe_iadd).trans (congrArg (x_iadd) ((xe_iastore).trans (congrArg (x_iastore) ((xe_aload 0).trans (congrArg (x_aload 0) ((xe_g1 (kk := 111) rfl tl_11_94).trans (congrArg (x_g1 111 294) ((xe_iconst 12).trans (congrArg (x_iconst 12) ((xe_aload 0).trans (congrArg (x_aload 0) ((xe_g1 (kk := 111) rfl tl_11_33).trans (congrArg (x_g1 111 233) ((xe_iload 3).trans (congrArg (x_iload 3) ((xe_iaload).trans (congrArg (x_iaload) ((xe_imul).trans (congrArg (x_imul) ((xe_aload 0).trans (congrArg (x_aload 0) ((xe_g1 (kk := 111) rfl tl_11_32).trans (congrArg (x_g1 111 232) ((xe_iload 3).trans (congrArg (x_iload 3) ((xe_iaload).trans (congrArg (x_iaload) ((xe_iadd).trans (congrArg (x_iadd) ((xe_dup2).trans (congrArg (x_dup2) ((xe_iaload).trans (congrArg (x_iaload) ((xe_iconst 1).trans (congrArg (x_iconst 1) ((xe_iadd).trans (congrArg (x_iadd) ((xe_iastore).trans (congrArg (x_iastore) ((xe_iinc 3 1).trans (congrArg (x_iinc 3 1) (xe_goto 29)))))))))))))))))))))))))))))))))))))))))))))))))))))))))))))))))))))))))))))))))))))))))))))))))))))
theorem bk_X11_layBetween_124 : ck_ fX11 none cX11_layBetween 124 [.iinc 3 1, .goto 29] 130 = true := qck_r (nn_ _) (by decide +kernel)
theorem bs_X11_layBetween_124 {P : Zt → Option Zv → Prop} (K : Int → Zl → List Zv → Zt → Prop) : sx_ K P [.iinc 3 1, .goto 29] 130 = x_iinc 3 1 (x_goto 29 K) := ((xe_iinc 3 1).trans (congrArg (x_iinc 3 1) (xe_goto 29)))
theorem bk_X11_layBetween_2 : ck_ fX11 none cX11_layBetween 2 [.iload 3, .iconst 144, .if_icmp .ge 22, .aload 0, .tableswitch 0 11 94 #[], .iload 3, .iconst 0, .iastore, .iinc 3 1, .goto 2] 22 = true := qck_r (nn_ _) (by decide +kernel)
theorem bs_X11_layBetween_2 {P : Zt → Option Zv → Prop} (K : Int → Zl → List Zv → Zt → Prop) : sx_ K P [.iload 3, .iconst 144, .if_icmp .ge 22, .aload 0, .tableswitch 0 11 94 #[], .iload 3, .iconst 0, .iastore, .iinc 3 1, .goto 2] 22 = x_iload 3 (x_iconst 144 (x_if_icmp .ge 22 K (x_aload 0 (x_g1 111 294 (x_iload 3 (x_iconst 0 (x_iastore (x_iinc 3 1 (x_goto 2 K))))))))) := ((xe_iload 3).trans (congrArg (x_iload 3) ((xe_iconst 144).trans (congrArg (x_iconst 144) ((xe_if_icmp .ge 22).trans (congrArg (x_if_icmp .ge 22 K) ((xe_aload 0).trans (congrArg (x_aload 0) ((xe_g1 (kk := 111) rfl tl_11_94).trans (congrArg (x_g1 111 294) ((xe_iload 3).trans (congrArg (x_iload 3) ((xe_iconst 0).trans (congrArg (x_iconst 0) ((xe_iastore).trans (congrArg (x_iastore) ((xe_iinc 3 1).trans (congrArg (x_iinc 3 1) (xe_goto 2)))))))))))))))))))
theorem bk_X11_layBetween_22 : ck_ fX11 none cX11_layBetween 22 [.aload 0, .tableswitch 0 11 10 #[], .iload 1, .iaload, .istore 3] 29 = true := qck_r (nn_ _) (by decide +kernel)
theorem bs_X11_layBetween_22 {P : Zt → Option Zv → Prop} (K : Int → Zl → List Zv → Zt → Prop) : sx_ K P [.aload 0, .tableswitch 0 11 10 #[], .iload 1, .iaload, .istore 3] 29 = x_aload 0 (x_g1 111 210 (x_iload 1 (x_iaload (x_istore 3 (K 29))))) := ((xe_aload 0).trans (congrArg (x_aload 0) ((xe_g1 (kk := 111) rfl tl_11_10).trans (congrArg (x_g1 111 210) ((xe_iload 1).trans (congrArg (x_iload 1) ((xe_iaload).trans (congrArg (x_iaload) ((xe_istore 3).trans (congrArg (x_istore 3) xe_nil))))))))))
theorem bk_X11_layBetween_0 : ck_ fX11 none cX11_layBetween 0 [.iconst 0, .istore 3] 2 = true := qck_r (nn_ _) (by decide +kernel)
theorem bs_X11_layBetween_0 {P : Zt → Option Zv → Prop} (K : Int → Zl → List Zv → Zt → Prop) : sx_ K P [.iconst 0, .istore 3] 2 = x_iconst 0 (x_istore 3 (K 2)) := ((xe_iconst 0).trans (congrArg (x_iconst 0) ((xe_istore 3).trans (congrArg (x_istore 3) xe_nil))))
abbrev po_X11_layBetween (T : Zt) (c cl : Int) : Zt → Option Zv → Prop := fun T' r => r = none ∧ fr_ [(294, [])] T T' ∧ (BW_ T' (plf_ T cl (T 211 0 c).toNat (T 210 0 c)))
set_option maxHeartbeats 4000000 in
theorem ct_X11_layBetween {T : Zt} {c cl : Int} (h1 : 0 ≤ c ∧ c < 4) (hml : ML_ T) : Ct_ yX11_layBetween zX11_layBetween T [vR 111 0, vI c, vI cl] (po_X11_layBetween T c cl) := by
  refine ct_of pn_11 rfl rfl (Nat.le_of_ble_eq_true rfl) (fun hT hav => ?_)
  have hr_c : -2147483648 ≤ c ∧ c ≤ 2147483647 := hav (vI c) (List.mem_cons_of_mem _ List.mem_cons_self)
  have hr_cl : -2147483648 ≤ cl ∧ cl ≤ 2147483647 := hav (vI cl) (List.mem_cons_of_mem _ (List.mem_cons_of_mem _ List.mem_cons_self))
  have hz : zX11_layBetween.2.2.2.1 = some .boolean → ∀ (T' : Zt) (x : Int), po_X11_layBetween T c cl T' (some (vI x)) → 0 ≤ x ∧ x ≤ 1 := fun h => by cases h
  have hmc := hml c (by omega) (by omega)
  have hb_29 : 0 ≤ T 111 0 29 ∧ T 111 0 29 ≤ 400 := bd_f hT 111 29 tl_11_29 0
  have hfo : 0 ≤ T 210 0 c ∧ T 210 0 c ≤ 400 := bd_a hT 210 (by decide +kernel : ta_ 210 = some (1, some 4, 0, 400)) 0 (by omega)
  have hmo : 0 ≤ T 211 0 c ∧ T 211 0 c ≤ 400 := bd_a hT 211 (by decide +kernel : ta_ 211 = some (1, some 4, 0, 400)) 0 (by omega)
  show J_ zX11_layBetween T (po_X11_layBetween T c cl) 0 0 0 [some (vR 111 0), some (vI c), some (vI cl), none] [] T
  have c_29 : ∀ (nn : Nat) (m : Int) (T2 : Zt), ((400 - m).toNat) ≤ nn → (fr_ [(294, [])] T T2) → (T 210 0 c ≤ m ∧ m ≤ T 210 0 c + T 211 0 c) → (BW_ T2 (plf_ T cl (m - T 210 0 c).toNat (T 210 0 c))) → (BB_ T2 (2 * (m - T 210 0 c))) → J_ zX11_layBetween T (po_X11_layBetween T c cl) 0 0 29 [some (vR 111 0), some (vI c), some (vI cl), some (vI m)] [] T2 := by
    intro nn
    induction nn using Nat.strongRecOn with
    | _ nn ih_29 =>
      intro m T2 hm_29 hf_29 i2 bw2 bb2
      replace hm_29 := fun (_ : Unit) => hm_29
      have hmw := hf_29 235 0 m rfl
      refine j_blx (F := fX11) tb_X11 (nn_ _) bk_X11_layBetween_29 bs_X11_layBetween_29 hz (fun K hK => ?_)
      refine ix_i (by omega) ?_
      intro b1 b1b
      have e2 : T2 210 0 c = T 210 0 c := hf_29 210 0 c rfl
      rw [e2] at b1 b1b ⊢
      refine ix_i (by omega) ?_
      intro b3 b3b
      have e4 : T2 211 0 c = T 211 0 c := hf_29 211 0 c rfl
      rw [e4] at b3 b3b ⊢
      refine rg_i (by omega) ?_
      refine And.intro (fun c5 => ?_) (fun c5 => ?_)
      · refine hK 130 _ [] T2 ?_
        refine j_blx (F := fX11) tb_X11 (nn_ _) bk_X11_layBetween_130 bs_X11_layBetween_130 hz (fun K hK => ?_)
        refine (show po_X11_layBetween T c cl T2 (none) from ?_)
        refine ⟨rfl, fr_t (fr_0 _ _) (fr_s hf_29 rfl), ?_⟩
        rw [show m - T 210 0 c = T 211 0 c by omega] at bw2
        exact bw2
      · refine hK 48 _ [vI m, vR 111 0] T2 ?_
        refine j_callV (y := yX11_isLeft) (Yc := zX11_isLeft) (rest := []) [vI m] (ct_X11_isLeft (T := T2) (by omega)) cl_X11_538 (qd_c (by decide +kernel)) (nn_ _) rfl (rf_of rfl) (Nat.le_of_ble_eq_true rfl) (Nat.le_of_ble_eq_true rfl) (Nat.le_of_ble_eq_true rfl) rfl ?_
        rintro _ _ ⟨rfl, x6, rfl, hx6⟩
        show J_ zX11_layBetween T (po_X11_layBetween T c cl) 0 0 51 _ [vI x6] T2
        refine j_blx (F := fX11) tb_X11 (nn_ _) bk_X11_layBetween_51 bs_X11_layBetween_51 hz (fun K hK => ?_)
        refine And.intro (fun c7 => ?_) (fun c7 => ?_)
        · replace hx6 := hx6.resolve_left (fun z => absurd (c7.symm.trans z.1) (by decide))
          clear c7
          refine hK 124 _ [] T2 ?_
          refine j_blx (F := fX11) tb_X11 (nn_ _) bk_X11_layBetween_124 bs_X11_layBetween_124 hz (fun K hK => ?_)
          refine rg_i (by omega) ?_
          refine hK 29 [some (vR 111 0), some (vI c), some (vI cl), some (vI (m + 1))] [] T2 ?_
          refine ih_29 _ ?_ (m + 1) T2 (Nat.le_refl _) ?_ ?_ ?_ ?_
          · have hm_29 := hm_29 (); omega
          · exact fr_t (fr_0 _ _) (fr_s hf_29 rfl)
          · omega
          · rw [show (m + 1 - T 210 0 c).toNat = (m - T 210 0 c).toNat + 1 by omega, plf_s, show T 210 0 c + ((m - T 210 0 c).toNat : Int) = m by omega, if_neg (by omega), List.append_nil]
            exact bw2
          · exact bb_m (bb2) (by omega)
        · replace hx6 := hx6.resolve_right (fun z => c7 z.1)
          clear c7
          refine ix_i (by omega) ?_
          intro b8 b8b
          have e9 : T2 232 0 m = T 232 0 m := hf_29 232 0 m rfl
          rw [e9] at b8 b8b ⊢
          refine And.intro (fun c10 => ?_) (fun c10 => ?_)
          · refine hK 124 [some (vR 111 0), some (vI c), some (vI cl), some (vI m)] [] T2 ?_
            refine j_blx (F := fX11) tb_X11 (nn_ _) bk_X11_layBetween_124 bs_X11_layBetween_124 hz (fun K hK => ?_)
            refine rg_i (by omega) ?_
            refine hK 29 [some (vR 111 0), some (vI c), some (vI cl), some (vI (m + 1))] [] T2 ?_
            refine ih_29 _ ?_ (m + 1) T2 (Nat.le_refl _) ?_ ?_ ?_ ?_
            · have hm_29 := hm_29 (); omega
            · exact fr_t (fr_0 _ _) (fr_s hf_29 rfl)
            · omega
            · rw [show (m + 1 - T 210 0 c).toNat = (m - T 210 0 c).toNat + 1 by omega, plf_s, show T 210 0 c + ((m - T 210 0 c).toNat : Int) = m by omega, if_neg (by omega), List.append_nil]
              exact bw2
            · exact bb_m (bb2) (by omega)
          · refine ix_i (by omega) ?_
            intro b11 b11b
            have e12 : T2 233 0 m = T 233 0 m := hf_29 233 0 m rfl
            rw [e12] at b11 b11b ⊢
            refine And.intro (fun c13 => ?_) (fun c13 => ?_)
            · refine hK 124 [some (vR 111 0), some (vI c), some (vI cl), some (vI m)] [] T2 ?_
              refine j_blx (F := fX11) tb_X11 (nn_ _) bk_X11_layBetween_124 bs_X11_layBetween_124 hz (fun K hK => ?_)
              refine rg_i (by omega) ?_
              refine hK 29 [some (vR 111 0), some (vI c), some (vI cl), some (vI (m + 1))] [] T2 ?_
              refine ih_29 _ ?_ (m + 1) T2 (Nat.le_refl _) ?_ ?_ ?_ ?_
              · have hm_29 := hm_29 (); omega
              · exact fr_t (fr_0 _ _) (fr_s hf_29 rfl)
              · omega
              · rw [show (m + 1 - T 210 0 c).toNat = (m - T 210 0 c).toNat + 1 by omega, plf_s, show T 210 0 c + ((m - T 210 0 c).toNat : Int) = m by omega, if_neg (by omega), List.append_nil]
                exact bw2
              · exact bb_m (bb2) (by omega)
            · refine ix_i (by omega) ?_
              intro b14 b14b
              have e15 : T2 232 0 m = T 232 0 m := hf_29 232 0 m rfl
              rw [e15] at b14 b14b ⊢
              refine rg_i (by omega) ?_
              refine ix_i (by omega) ?_
              intro b16 b16b
              have e17 : T2 233 0 m = T 233 0 m := hf_29 233 0 m rfl
              rw [e17] at b16 b16b ⊢
              refine rg_i (by omega) ?_
              refine ix_i (by omega) ?_
              intro b18 b18b
              have t19 : 0 ≤ T2 294 0 ((12 * (T 232 0 m)) + (T 233 0 m)) ∧ T2 294 0 ((12 * (T 232 0 m)) + (T 233 0 m)) ≤ 2 * (m - T 210 0 c) := (bb2) ((12 * (T 232 0 m)) + (T 233 0 m)) (by omega) (by omega)
              refine rg_i (by omega) ?_
              refine iy_i (by omega) (by omega) ?_
              refine x_nm (fun U20 hU20 => ?_)
              have e21 := up_f hU20
              refine ix_i (by omega) ?_
              intro b22 b22b
              have e23 : U20 233 0 m = T 233 0 m := (up_k hU20 (by exact Nat.ne_of_beq_eq_false rfl) 0 m).trans (hf_29 233 0 m rfl)
              rw [e23] at b22 b22b ⊢
              refine rg_i (by omega) ?_
              refine ix_i (by omega) ?_
              intro b24 b24b
              have e25 : U20 232 0 m = T 232 0 m := (up_k hU20 (by exact Nat.ne_of_beq_eq_false rfl) 0 m).trans (hf_29 232 0 m rfl)
              rw [e25] at b24 b24b ⊢
              refine rg_i (by omega) ?_
              refine ix_i (by omega) ?_
              intro b26 b26b
              have t27 : 0 ≤ U20 294 0 ((12 * (T 233 0 m)) + (T 232 0 m)) ∧ U20 294 0 ((12 * (T 233 0 m)) + (T 232 0 m)) ≤ 2 * (m - T 210 0 c) + 1 := (bb_u (bb2) hU20 (by omega)) ((12 * (T 233 0 m)) + (T 232 0 m)) (by omega) (by omega)
              refine rg_i (by omega) ?_
              refine iy_i (by omega) (by omega) ?_
              refine x_nm (fun U28 hU28 => ?_)
              have e29 := up_f hU28
              refine rg_i (by omega) ?_
              refine hK 29 _ [] U28 ?_
              refine ih_29 _ ?_ (m + 1) U28 (Nat.le_refl _) ?_ ?_ ?_ ?_
              · have hm_29 := hm_29 (); omega
              · exact fr_u (fr_u (fr_t (fr_0 _ _) (fr_s hf_29 rfl)) hU20 rfl) hU28 rfl
              · omega
              · rw [show (m + 1 - T 210 0 c).toNat = (m - T 210 0 c).toNat + 1 by omega, plf_s, show T 210 0 c + ((m - T 210 0 c).toNat : Int) = m by omega]
                by_cases z : T 232 0 m = T 233 0 m
                · rw [if_neg (fun q => q.2.2.2 z), List.append_nil]
                  exact bw_d bw2 (by omega) hU20 hU28 z
                · rw [if_pos ⟨by omega, by omega, by omega, z⟩]
                  exact bw_s bw2 (by omega) (by omega) hU20 hU28 z
              · exact bb_m (bb_u (bb_u (bb2) hU20 (by omega)) hU28 (by omega)) (by omega)
  have c_2 : ∀ (nn : Nat) (i : Int) (T1 : Zt), ((144 - i).toNat) ≤ nn → (fr_ [(294, [])] T T1) → (0 ≤ i ∧ i ≤ 144) → (∀ j, 0 ≤ j → j < i → T1 294 0 j = 0) → J_ zX11_layBetween T (po_X11_layBetween T c cl) 0 0 2 [some (vR 111 0), some (vI c), some (vI cl), some (vI i)] [] T1 := by
    intro nn
    induction nn using Nat.strongRecOn with
    | _ nn ih_2 =>
      intro i T1 hm_2 hf_2 i1 z1
      replace hm_2 := fun (_ : Unit) => hm_2
      refine j_blx (F := fX11) tb_X11 (nn_ _) bk_X11_layBetween_2 bs_X11_layBetween_2 hz (fun K hK => ?_)
      refine And.intro (fun c30 => ?_) (fun c30 => ?_)
      · refine hK 22 _ [] T1 ?_
        refine j_blx (F := fX11) tb_X11 (nn_ _) bk_X11_layBetween_22 bs_X11_layBetween_22 hz (fun K hK => ?_)
        refine ix_i (by omega) ?_
        intro b31 b31b
        have e32 : T1 210 0 c = T 210 0 c := hf_2 210 0 c rfl
        rw [e32] at b31 b31b ⊢
        refine hK 29 [some (vR 111 0), some (vI c), some (vI cl), some (vI (T 210 0 c))] [] T1 ?_
        refine c_29 _ (T 210 0 c) T1 (Nat.le_refl _) ?_ ?_ ?_ ?_
        · exact fr_t (fr_0 _ _) (fr_s hf_2 rfl)
        · omega
        · rw [show (T 210 0 c - T 210 0 c).toNat = 0 by omega]
          exact fun x y a b c d _ => z1 _ (by omega) (by omega)
        · exact fun j a b => by have := z1 j a (by omega); omega
      · refine iy_i (by omega) (by omega) ?_
        refine x_nm (fun U33 hU33 => ?_)
        have e34 := up_f hU33
        refine rg_i (by omega) ?_
        refine hK 2 [some (vR 111 0), some (vI c), some (vI cl), some (vI (i + 1))] [] U33 ?_
        refine ih_2 _ ?_ (i + 1) U33 (Nat.le_refl _) ?_ ?_ ?_
        · have hm_2 := hm_2 (); omega
        · exact fr_u (fr_t (fr_0 _ _) (fr_s hf_2 rfl)) hU33 rfl
        · omega
        · intro j a b
          by_cases z : j = i
          · rw [z]; exact up_f hU33
          · rw [up_g hU33 (fun q => z q.2.2)]; exact z1 j a (by omega)
  refine j_blx (F := fX11) tb_X11 (nn_ _) bk_X11_layBetween_0 bs_X11_layBetween_0 hz (fun K hK => ?_)
  refine hK 2 [some (vR 111 0), some (vI c), some (vI cl), some (vI 0)] [] T ?_
  refine c_2 _ 0 T (Nat.le_refl _) ?_ ?_ ?_
  · exact fr_0 _ _
  · omega
  · intro j a b; omega
abbrev cX11_laySlack : ByteArray := prog_13_method_101_code
def yX11_laySlack : MethodName := ⟨RX11, "laySlack", "(I)I"⟩
def zX11_laySlack : Zm := (RX11, cX11_laySlack, 7, (some .int), { frames := 0, cells := 0, slots := 0, locals := 0 })
theorem bk_X11_laySlack_76 : ck_ fX11 (some .int) cX11_laySlack 76 [.iload 6, .iconst 12, .if_icmp .ge 123, .iload 5, .iload 3, .iload 6, .ishr, .iconst 1, .iand, .iconst 1, .if_icmp .ne 113, .iconst 2, .aload 0, .tableswitch 0 11 94 #[], .iconst 12, .iload 4, .imul, .iload 6, .iadd, .iaload, .imul, .goto 114] 113 = true := qck_r (nn_ _) (by decide +kernel)
theorem bs_X11_laySlack_76 {P : Zt → Option Zv → Prop} (K : Int → Zl → List Zv → Zt → Prop) : sx_ K P [.iload 6, .iconst 12, .if_icmp .ge 123, .iload 5, .iload 3, .iload 6, .ishr, .iconst 1, .iand, .iconst 1, .if_icmp .ne 113, .iconst 2, .aload 0, .tableswitch 0 11 94 #[], .iconst 12, .iload 4, .imul, .iload 6, .iadd, .iaload, .imul, .goto 114] 113 = x_iload 6 (x_iconst 12 (x_if_icmp .ge 123 K (x_iload 5 (x_iload 3 (x_iload 6 (x_ishr (x_iconst 1 (x_iand (x_iconst 1 (x_if_icmp .ne 113 K (x_iconst 2 (x_aload 0 (x_g1 111 294 (x_iconst 12 (x_iload 4 (x_imul (x_iload 6 (x_iadd (x_iaload (x_imul (x_goto 114 K))))))))))))))))))))) := ((xe_iload 6).trans (congrArg (x_iload 6) ((xe_iconst 12).trans (congrArg (x_iconst 12) ((xe_if_icmp .ge 123).trans (congrArg (x_if_icmp .ge 123 K) ((xe_iload 5).trans (congrArg (x_iload 5) ((xe_iload 3).trans (congrArg (x_iload 3) ((xe_iload 6).trans (congrArg (x_iload 6) ((xe_ishr).trans (congrArg (x_ishr) ((xe_iconst 1).trans (congrArg (x_iconst 1) ((xe_iand).trans (congrArg (x_iand) ((xe_iconst 1).trans (congrArg (x_iconst 1) ((xe_if_icmp .ne 113).trans (congrArg (x_if_icmp .ne 113 K) ((xe_iconst 2).trans (congrArg (x_iconst 2) ((xe_aload 0).trans (congrArg (x_aload 0) ((xe_g1 (kk := 111) rfl tl_11_94).trans (congrArg (x_g1 111 294) ((xe_iconst 12).trans (congrArg (x_iconst 12) ((xe_iload 4).trans (congrArg (x_iload 4) ((xe_imul).trans (congrArg (x_imul) ((xe_iload 6).trans (congrArg (x_iload 6) ((xe_iadd).trans (congrArg (x_iadd) ((xe_iaload).trans (congrArg (x_iaload) ((xe_imul).trans (congrArg (x_imul) (xe_goto 114)))))))))))))))))))))))))))))))))))))))))))
theorem bk_X11_laySlack_123 : ck_ fX11 (some .int) cX11_laySlack 123 [.aload 0, .tableswitch 0 11 96 #[], .iload 3, .iload 5, .iastore, .iload 2, .ifCond .ne 144, .iload 5, .ifCond .ge 144, .iload 3, .goto 145] 144 = true := qck_r (nn_ _) (by decide +kernel)
theorem bs_X11_laySlack_123 {P : Zt → Option Zv → Prop} (K : Int → Zl → List Zv → Zt → Prop) : sx_ K P [.aload 0, .tableswitch 0 11 96 #[], .iload 3, .iload 5, .iastore, .iload 2, .ifCond .ne 144, .iload 5, .ifCond .ge 144, .iload 3, .goto 145] 144 = x_aload 0 (x_g1 111 296 (x_iload 3 (x_iload 5 (x_iastore (x_iload 2 (x_ifCond .ne 144 K (x_iload 5 (x_ifCond .ge 144 K (x_iload 3 (x_goto 145 K)))))))))) := ((xe_aload 0).trans (congrArg (x_aload 0) ((xe_g1 (kk := 111) rfl tl_11_96).trans (congrArg (x_g1 111 296) ((xe_iload 3).trans (congrArg (x_iload 3) ((xe_iload 5).trans (congrArg (x_iload 5) ((xe_iastore).trans (congrArg (x_iastore) ((xe_iload 2).trans (congrArg (x_iload 2) ((xe_ifCond .ne 144).trans (congrArg (x_ifCond .ne 144 K) ((xe_iload 5).trans (congrArg (x_iload 5) ((xe_ifCond .ge 144).trans (congrArg (x_ifCond .ge 144 K) ((xe_iload 3).trans (congrArg (x_iload 3) (xe_goto 145)))))))))))))))))))))
theorem bk_X11_laySlack_144 : ck_ fX11 (some .int) cX11_laySlack 144 [.iload 2, .istore 2, .iinc 3 1, .goto 11] 152 = true := qck_r (nn_ _) (by decide +kernel)
theorem bs_X11_laySlack_144 {P : Zt → Option Zv → Prop} (K : Int → Zl → List Zv → Zt → Prop) : sx_ K P [.iload 2, .istore 2, .iinc 3 1, .goto 11] 152 = x_iload 2 (x_istore 2 (x_iinc 3 1 (x_goto 11 K))) := ((xe_iload 2).trans (congrArg (x_iload 2) ((xe_istore 2).trans (congrArg (x_istore 2) ((xe_iinc 3 1).trans (congrArg (x_iinc 3 1) (xe_goto 11)))))))
theorem bk_X11_laySlack_145 : ck_ fX11 (some .int) cX11_laySlack 145 [.istore 2, .iinc 3 1, .goto 11] 152 = true := qck_r (nn_ _) (by decide +kernel)
theorem bs_X11_laySlack_145 {P : Zt → Option Zv → Prop} (K : Int → Zl → List Zv → Zt → Prop) : sx_ K P [.istore 2, .iinc 3 1, .goto 11] 152 = x_istore 2 (x_iinc 3 1 (x_goto 11 K)) := ((xe_istore 2).trans (congrArg (x_istore 2) ((xe_iinc 3 1).trans (congrArg (x_iinc 3 1) (xe_goto 11)))))
theorem bk_X11_laySlack_113 : ck_ fX11 (some .int) cX11_laySlack 113 [.iconst 0, .isub, .istore 5, .iinc 6 1, .goto 76] 123 = true := qck_r (nn_ _) (by decide +kernel)
theorem bs_X11_laySlack_113 {P : Zt → Option Zv → Prop} (K : Int → Zl → List Zv → Zt → Prop) : sx_ K P [.iconst 0, .isub, .istore 5, .iinc 6 1, .goto 76] 123 = x_iconst 0 (x_isub (x_istore 5 (x_iinc 6 1 (x_goto 76 K)))) := ((xe_iconst 0).trans (congrArg (x_iconst 0) ((xe_isub).trans (congrArg (x_isub) ((xe_istore 5).trans (congrArg (x_istore 5) ((xe_iinc 6 1).trans (congrArg (x_iinc 6 1) (xe_goto 76)))))))))
theorem bk_X11_laySlack_114 : ck_ fX11 (some .int) cX11_laySlack 114 [.isub, .istore 5, .iinc 6 1, .goto 76] 123 = true := qck_r (nn_ _) (by decide +kernel)
theorem bs_X11_laySlack_114 {P : Zt → Option Zv → Prop} (K : Int → Zl → List Zv → Zt → Prop) : sx_ K P [.isub, .istore 5, .iinc 6 1, .goto 76] 123 = x_isub (x_istore 5 (x_iinc 6 1 (x_goto 76 K))) := ((xe_isub).trans (congrArg (x_isub) ((xe_istore 5).trans (congrArg (x_istore 5) ((xe_iinc 6 1).trans (congrArg (x_iinc 6 1) (xe_goto 76)))))))
theorem bk_X11_laySlack_35 : ck_ fX11 (some .int) cX11_laySlack 35 [.iload 3, .iload 4, .ishr, .iconst 1, .iand, .ifCond .ne 50, .iinc 4 1, .goto 35] 50 = true := qck_r (nn_ _) (by decide +kernel)
theorem bs_X11_laySlack_35 {P : Zt → Option Zv → Prop} (K : Int → Zl → List Zv → Zt → Prop) : sx_ K P [.iload 3, .iload 4, .ishr, .iconst 1, .iand, .ifCond .ne 50, .iinc 4 1, .goto 35] 50 = x_iload 3 (x_iload 4 (x_ishr (x_iconst 1 (x_iand (x_ifCond .ne 50 K (x_iinc 4 1 (x_goto 35 K))))))) := ((xe_iload 3).trans (congrArg (x_iload 3) ((xe_iload 4).trans (congrArg (x_iload 4) ((xe_ishr).trans (congrArg (x_ishr) ((xe_iconst 1).trans (congrArg (x_iconst 1) ((xe_iand).trans (congrArg (x_iand) ((xe_ifCond .ne 50).trans (congrArg (x_ifCond .ne 50 K) ((xe_iinc 4 1).trans (congrArg (x_iinc 4 1) (xe_goto 35)))))))))))))))
theorem bk_X11_laySlack_50 : ck_ fX11 (some .int) cX11_laySlack 50 [.aload 0, .tableswitch 0 11 96 #[], .iload 3, .iload 3, .iconst 1, .isub, .iand, .iaload, .aload 0, .tableswitch 0 11 93 #[], .iload 4, .iaload, .iadd, .istore 5, .iload 4, .iconst 1, .iadd, .istore 6] 76 = true := qck_r (nn_ _) (by decide +kernel)
theorem bs_X11_laySlack_50 {P : Zt → Option Zv → Prop} (K : Int → Zl → List Zv → Zt → Prop) : sx_ K P [.aload 0, .tableswitch 0 11 96 #[], .iload 3, .iload 3, .iconst 1, .isub, .iand, .iaload, .aload 0, .tableswitch 0 11 93 #[], .iload 4, .iaload, .iadd, .istore 5, .iload 4, .iconst 1, .iadd, .istore 6] 76 = x_aload 0 (x_g1 111 296 (x_iload 3 (x_iload 3 (x_iconst 1 (x_isub (x_iand (x_iaload (x_aload 0 (x_g1 111 293 (x_iload 4 (x_iaload (x_iadd (x_istore 5 (x_iload 4 (x_iconst 1 (x_iadd (x_istore 6 (K 76)))))))))))))))))) := ((xe_aload 0).trans (congrArg (x_aload 0) ((xe_g1 (kk := 111) rfl tl_11_96).trans (congrArg (x_g1 111 296) ((xe_iload 3).trans (congrArg (x_iload 3) ((xe_iload 3).trans (congrArg (x_iload 3) ((xe_iconst 1).trans (congrArg (x_iconst 1) ((xe_isub).trans (congrArg (x_isub) ((xe_iand).trans (congrArg (x_iand) ((xe_iaload).trans (congrArg (x_iaload) ((xe_aload 0).trans (congrArg (x_aload 0) ((xe_g1 (kk := 111) rfl tl_11_93).trans (congrArg (x_g1 111 293) ((xe_iload 4).trans (congrArg (x_iload 4) ((xe_iaload).trans (congrArg (x_iaload) ((xe_iadd).trans (congrArg (x_iadd) ((xe_istore 5).trans (congrArg (x_istore 5) ((xe_iload 4).trans (congrArg (x_iload 4) ((xe_iconst 1).trans (congrArg (x_iconst 1) ((xe_iadd).trans (congrArg (x_iadd) ((xe_istore 6).trans (congrArg (x_istore 6) xe_nil))))))))))))))))))))))))))))))))))))
theorem bk_X11_laySlack_11 : ck_ fX11 (some .int) cX11_laySlack 11 [.iload 3, .iconst 4096, .if_icmp .ge 152, .aload 0, .tableswitch 0 11 96 #[], .iload 3, .iconst 0, .iastore, .iload 3, .iload 1, .iand, .iload 3, .if_icmp .ne 146, .iconst 0, .istore 4] 35 = true := qck_r (nn_ _) (by decide +kernel)
theorem bs_X11_laySlack_11 {P : Zt → Option Zv → Prop} (K : Int → Zl → List Zv → Zt → Prop) : sx_ K P [.iload 3, .iconst 4096, .if_icmp .ge 152, .aload 0, .tableswitch 0 11 96 #[], .iload 3, .iconst 0, .iastore, .iload 3, .iload 1, .iand, .iload 3, .if_icmp .ne 146, .iconst 0, .istore 4] 35 = x_iload 3 (x_iconst 4096 (x_if_icmp .ge 152 K (x_aload 0 (x_g1 111 296 (x_iload 3 (x_iconst 0 (x_iastore (x_iload 3 (x_iload 1 (x_iand (x_iload 3 (x_if_icmp .ne 146 K (x_iconst 0 (x_istore 4 (K 35))))))))))))))) := ((xe_iload 3).trans (congrArg (x_iload 3) ((xe_iconst 4096).trans (congrArg (x_iconst 4096) ((xe_if_icmp .ge 152).trans (congrArg (x_if_icmp .ge 152 K) ((xe_aload 0).trans (congrArg (x_aload 0) ((xe_g1 (kk := 111) rfl tl_11_96).trans (congrArg (x_g1 111 296) ((xe_iload 3).trans (congrArg (x_iload 3) ((xe_iconst 0).trans (congrArg (x_iconst 0) ((xe_iastore).trans (congrArg (x_iastore) ((xe_iload 3).trans (congrArg (x_iload 3) ((xe_iload 1).trans (congrArg (x_iload 1) ((xe_iand).trans (congrArg (x_iand) ((xe_iload 3).trans (congrArg (x_iload 3) ((xe_if_icmp .ne 146).trans (congrArg (x_if_icmp .ne 146 K) ((xe_iconst 0).trans (congrArg (x_iconst 0) ((xe_istore 4).trans (congrArg (x_istore 4) xe_nil))))))))))))))))))))))))))))))
theorem bk_X11_laySlack_152 : ck_ fX11 (some .int) cX11_laySlack 152 [.iload 2, .ireturn] 154 = true := qck_r (nn_ _) (by decide +kernel)
theorem bs_X11_laySlack_152 {P : Zt → Option Zv → Prop} (K : Int → Zl → List Zv → Zt → Prop) : sx_ K P [.iload 2, .ireturn] 154 = x_iload 2 (x_ireturn P) := ((xe_iload 2).trans (congrArg (x_iload 2) (xe_ireturn)))
theorem bk_X11_laySlack_146 : ck_ fX11 (some .int) cX11_laySlack 146 [.iinc 3 1, .goto 11] 152 = true := qck_r (nn_ _) (by decide +kernel)
theorem bs_X11_laySlack_146 {P : Zt → Option Zv → Prop} (K : Int → Zl → List Zv → Zt → Prop) : sx_ K P [.iinc 3 1, .goto 11] 152 = x_iinc 3 1 (x_goto 11 K) := ((xe_iinc 3 1).trans (congrArg (x_iinc 3 1) (xe_goto 11)))
theorem bk_X11_laySlack_0 : ck_ fX11 (some .int) cX11_laySlack 0 [.aload 0, .tableswitch 0 11 96 #[], .iconst 0, .iconst 0, .iastore, .iconst 0, .istore 2, .iconst 1, .istore 3] 11 = true := qck_r (nn_ _) (by decide +kernel)
theorem bs_X11_laySlack_0 {P : Zt → Option Zv → Prop} (K : Int → Zl → List Zv → Zt → Prop) : sx_ K P [.aload 0, .tableswitch 0 11 96 #[], .iconst 0, .iconst 0, .iastore, .iconst 0, .istore 2, .iconst 1, .istore 3] 11 = x_aload 0 (x_g1 111 296 (x_iconst 0 (x_iconst 0 (x_iastore (x_iconst 0 (x_istore 2 (x_iconst 1 (x_istore 3 (K 11))))))))) := ((xe_aload 0).trans (congrArg (x_aload 0) ((xe_g1 (kk := 111) rfl tl_11_96).trans (congrArg (x_g1 111 296) ((xe_iconst 0).trans (congrArg (x_iconst 0) ((xe_iconst 0).trans (congrArg (x_iconst 0) ((xe_iastore).trans (congrArg (x_iastore) ((xe_iconst 0).trans (congrArg (x_iconst 0) ((xe_istore 2).trans (congrArg (x_istore 2) ((xe_iconst 1).trans (congrArg (x_iconst 1) ((xe_istore 3).trans (congrArg (x_istore 3) xe_nil))))))))))))))))))
abbrev po_X11_laySlack (T : Zt) (l : List (Nat × Nat)) (o : Int) : Zt → Option Zv → Prop := fun T' r => ∃ x : Int, r = some (vI x) ∧ fr_ [(296, [])] T T' ∧ ((0 ≤ x ∧ x ≤ 4095) ∧ (x = 0 → SVE_ T' o l))
set_option maxHeartbeats 4000000 in
theorem ct_X11_laySlack {T : Zt} {l : List (Nat × Nat)} {o : Int} (hO : 0 ≤ o ∧ o ≤ 4095) (hl : ∀ p ∈ l, p.1 ≠ p.2 ∧ p.1 < 12 ∧ p.2 < 12) (hln : (l.length : Int) ≤ 400) (hbw : BW_ T l) (hsp : ∀ k : Int, 0 ≤ k → k < 12 → -20000000 ≤ T 293 0 k ∧ T 293 0 k ≤ 20000000) : Ct_ yX11_laySlack zX11_laySlack T [vR 111 0, vI o] (po_X11_laySlack T l o) := by
  refine ct_of pn_11 rfl rfl (Nat.le_of_ble_eq_true rfl) (fun hT hav => ?_)
  have hr_o : -2147483648 ≤ o ∧ o ≤ 2147483647 := hav (vI o) (List.mem_cons_of_mem _ List.mem_cons_self)
  have hz : zX11_laySlack.2.2.2.1 = some .boolean → ∀ (T' : Zt) (x : Int), po_X11_laySlack T l o T' (some (vI x)) → 0 ≤ x ∧ x ≤ 1 := fun h => by cases h
  show J_ zX11_laySlack T (po_X11_laySlack T l o) 0 0 0 [some (vR 111 0), some (vI o), none, none, none, none, none] [] T
  have c_11 : ∀ (nn : Nat) (cu : Int) (s : Int) (T1 : Zt), ((4096 - s).toNat) ≤ nn → (fr_ [(296, [])] T T1) → (1 ≤ s ∧ s ≤ 4096 ∧ 0 ≤ cu ∧ cu ≤ 4095) → (SV_ T1 o s l (fun k : Nat => T 293 0 (k : Int))) → (cu = 0 → ∀ t, 0 ≤ t → t < s → an_ t o = t → 0 ≤ T1 296 0 t) → J_ zX11_laySlack T (po_X11_laySlack T l o) 0 0 11 [some (vR 111 0), some (vI o), some (vI cu), some (vI s), none, none, none] [] T1 := by
    intro nn
    induction nn using Nat.strongRecOn with
    | _ nn ih_11 =>
      intro cu s T1 hm_11 hf_11 i1 sv1 nn1
      replace hm_11 := fun (_ : Unit) => hm_11
      have c_35 : ∀ (nn : Nat) (lo : Int) (T2 : Zt), ((12 - lo).toNat) ≤ nn → (fr_ [(296, [])] T1 T2) → (0 ≤ lo ∧ s < 4096) → (an_ s o = s) → (∀ j, j ≠ s → T2 296 0 j = T1 296 0 j) → (∀ j, 0 ≤ j → j < lo → an_ (sr_ s j) 1 = 0) → J_ zX11_laySlack T (po_X11_laySlack T l o) 0 0 35 [some (vR 111 0), some (vI o), some (vI cu), some (vI s), some (vI lo), none, none] [] T2 := by
        intro nn
        induction nn using Nat.strongRecOn with
        | _ nn ih_35 =>
          intro lo T2 hm_35 hf_35 j1 hsub e2 lo1
          replace hm_35 := fun (_ : Unit) => hm_35
          have hl12 := lo_lt (by omega) (by omega) lo1
          have c_76 : ∀ (nn : Nat) (u : Int) (k : Int), ((12 - k).toNat) ≤ nn → (lo + 1 ≤ k ∧ k ≤ 12) → (an_ (sr_ s lo) 1 ≠ 0) → (u = vs_ (fun k : Nat => T 293 0 (k : Int)) l (s.toNat &&& (s.toNat - 1)) + T 293 0 lo - 2 * su_ (fun k => cb_ lo.toNat k l) s.toNat (lo.toNat + 1) k.toNat) → J_ zX11_laySlack T (po_X11_laySlack T l o) 0 0 76 [some (vR 111 0), some (vI o), some (vI cu), some (vI s), some (vI lo), some (vI u), some (vI k)] [] T2 := by
            intro nn
            induction nn using Nat.strongRecOn with
            | _ nn ih_76 =>
              intro u k hm_76 k1 nz sm
              replace hm_76 := fun (_ : Unit) => hm_76
              have ha1 := an_1 (s := s) (by omega)
              have hb1 := bt_n (x := s) (k := lo) (by omega) (by omega)
              have hb2 := bt_01 s.toNat lo.toNat
              have hlow := vs_low (f := (fun k : Nat => T 293 0 (k : Int))) (l := l) (s := s.toNat) (lo := lo.toNat) (by omega) (fun j hj => by have := lo1 (j : Int) (by omega) (by omega); rw [bt_n (by omega) (by omega), Int.toNat_natCast] at this; exact this) (by omega) hl
              have hvb := vs_b (f := (fun k : Nat => T 293 0 (k : Int))) (l := l) (F := 20000000) (by decide) (fun k hk => hsp (k : Int) (by omega) (by omega)) (s.toNat &&& (s.toNat - 1))
              have hva := (e2 (an_ s (s - 1)) (by omega)).trans (sv1 (an_ s (s - 1)) (by omega) (by omega) (an_2 hO (by omega) hsub))
              rw [show (an_ s (s - 1)).toNat = s.toNat &&& (s.toNat - 1) by omega] at hva
              rw [show ((lo.toNat : Nat) : Int) = lo by omega] at hlow
              have hs9 := hsp lo (by omega) (by omega)
              refine j_blx (F := fX11) tb_X11 (nn_ _) bk_X11_laySlack_76 bs_X11_laySlack_76 hz (fun K hK => ?_)
              refine And.intro (fun c1 => ?_) (fun c1 => ?_)
              · have hsum : u = vs_ (fun k : Nat => T 293 0 (k : Int)) l (s.toNat &&& (s.toNat - 1)) + T 293 0 lo - 2 * su_ (fun k => cb_ lo.toNat k l) s.toNat (lo.toNat + 1) 12 := by rw [sm, show k = 12 by omega]; rfl
                have hvb2 := vs_b (f := (fun k : Nat => T 293 0 (k : Int))) (l := l) (F := 20000000) (by decide) (fun k hk => hsp (k : Int) (by omega) (by omega)) s.toNat
                refine hK 123 _ [] T2 ?_
                refine j_blx (F := fX11) tb_X11 (nn_ _) bk_X11_laySlack_123 bs_X11_laySlack_123 hz (fun K hK => ?_)
                refine iy_i (by omega) (by omega) ?_
                refine x_nm (fun U2 hU2 => ?_)
                have e3 := up_f hU2
                refine And.intro (fun c4 => ?_) (fun c4 => ?_)
                · refine hK 144 _ [] U2 ?_
                  refine j_blx (F := fX11) tb_X11 (nn_ _) bk_X11_laySlack_144 bs_X11_laySlack_144 hz (fun K hK => ?_)
                  refine rg_i (by omega) ?_
                  refine hK 11 [some (vR 111 0), some (vI o), some (vI cu), some (vI (s + 1)), some (vI lo), some (vI u), some (vI k)] [] U2 ?_
                  refine j_drq [some (vR 111 0), some (vI o), some (vI cu), some (vI (s + 1)), none, none, none] (drq_s (drq_s (drq_s (drq_s (drq_n (drq_n (drq_n drq_0))))))) ?_
                  refine ih_11 _ ?_ cu (s + 1) U2 (Nat.le_refl _) ?_ ?_ ?_ ?_
                  · have hm_11 := hm_11 (); omega
                  · exact fr_u (fr_t (fr_t (fr_0 _ _) (fr_s hf_11 rfl)) (fr_s hf_35 rfl)) hU2 rfl
                  · omega
                  · intro t a b d
                    by_cases z : t = s
                    · rw [z, up_f hU2, hsum]
                      exact hlow.symm
                    · exact (up_g hU2 (fun q => z q.2.2)).trans ((e2 t z).trans (sv1 t a (by omega) d))
                  · intro h9 t a b d
                    by_cases z : t = s
                    · rw [z, up_f hU2]; omega
                    · rw [up_g hU2 (fun q => z q.2.2), e2 t z]; exact nn1 (by omega) t a (by omega) d
                · refine And.intro (fun c5 => ?_) (fun c5 => ?_)
                  · refine hK 144 [some (vR 111 0), some (vI o), some (vI cu), some (vI s), some (vI lo), some (vI u), some (vI k)] [] U2 ?_
                    refine j_blx (F := fX11) tb_X11 (nn_ _) bk_X11_laySlack_144 bs_X11_laySlack_144 hz (fun K hK => ?_)
                    refine rg_i (by omega) ?_
                    refine hK 11 [some (vR 111 0), some (vI o), some (vI cu), some (vI (s + 1)), some (vI lo), some (vI u), some (vI k)] [] U2 ?_
                    refine j_drq [some (vR 111 0), some (vI o), some (vI cu), some (vI (s + 1)), none, none, none] (drq_s (drq_s (drq_s (drq_s (drq_n (drq_n (drq_n drq_0))))))) ?_
                    refine ih_11 _ ?_ cu (s + 1) U2 (Nat.le_refl _) ?_ ?_ ?_ ?_
                    · have hm_11 := hm_11 (); omega
                    · exact fr_u (fr_t (fr_t (fr_0 _ _) (fr_s hf_11 rfl)) (fr_s hf_35 rfl)) hU2 rfl
                    · omega
                    · intro t a b d
                      by_cases z : t = s
                      · rw [z, up_f hU2, hsum]
                        exact hlow.symm
                      · exact (up_g hU2 (fun q => z q.2.2)).trans ((e2 t z).trans (sv1 t a (by omega) d))
                    · intro h9 t a b d
                      by_cases z : t = s
                      · rw [z, up_f hU2]; omega
                      · rw [up_g hU2 (fun q => z q.2.2), e2 t z]; exact nn1 (by omega) t a (by omega) d
                  · refine hK 145 [some (vR 111 0), some (vI o), some (vI cu), some (vI s), some (vI lo), some (vI u), some (vI k)] [vI s] U2 ?_
                    refine j_blx (F := fX11) tb_X11 (nn_ _) bk_X11_laySlack_145 bs_X11_laySlack_145 hz (fun K hK => ?_)
                    refine rg_i (by omega) ?_
                    refine hK 11 [some (vR 111 0), some (vI o), some (vI s), some (vI (s + 1)), some (vI lo), some (vI u), some (vI k)] [] U2 ?_
                    refine j_drq [some (vR 111 0), some (vI o), some (vI s), some (vI (s + 1)), none, none, none] (drq_s (drq_s (drq_s (drq_s (drq_n (drq_n (drq_n drq_0))))))) ?_
                    refine ih_11 _ ?_ s (s + 1) U2 (Nat.le_refl _) ?_ ?_ ?_ ?_
                    · have hm_11 := hm_11 (); omega
                    · exact fr_u (fr_t (fr_t (fr_0 _ _) (fr_s hf_11 rfl)) (fr_s hf_35 rfl)) hU2 rfl
                    · omega
                    · intro t a b d
                      by_cases z : t = s
                      · rw [z, up_f hU2, hsum]
                        exact hlow.symm
                      · exact (up_g hU2 (fun q => z q.2.2)).trans ((e2 t z).trans (sv1 t a (by omega) d))
                    · intro h9 t a b d
                      by_cases z : t = s
                      · rw [z, up_f hU2]; omega
                      · rw [up_g hU2 (fun q => z q.2.2), e2 t z]; exact nn1 (by omega) t a (by omega) d
              · have hbk := bt_n (x := s) (k := k) (by omega) (by omega)
                have hb3 := bt_01 s.toNat k.toNat
                rw [← hbk] at hb3
                have hwb := hbw lo k (by omega) (by omega) (by omega) (by omega) (by omega)
                have hcb := cb_b lo.toNat k.toNat l
                have hsu := su_b (g := fun k => cb_ lo.toNat k l) (s := s.toNat) (lo := lo.toNat + 1) (B := 400) (by decide) (fun k => by have := cb_b lo.toNat k l; omega) k.toNat
                have hkt : ((k.toNat : Nat) : Int) * 400 ≤ 4800 := by omega
                intro w6 w6b
                intro w7 w7b
                refine And.intro (fun c8 => ?_) (fun c8 => ?_)
                · refine hK 113 _ [vI u] T2 ?_
                  refine j_blx (F := fX11) tb_X11 (nn_ _) bk_X11_laySlack_113 bs_X11_laySlack_113 hz (fun K hK => ?_)
                  refine rg_i (by omega) ?_
                  refine rg_i (by omega) ?_
                  refine hK 76 [some (vR 111 0), some (vI o), some (vI cu), some (vI s), some (vI lo), some (vI (u - 0)), some (vI (k + 1))] [] T2 ?_
                  refine ih_76 _ ?_ (u - 0) (k + 1) (Nat.le_refl _) ?_ ?_ ?_
                  · have hm_76 := hm_76 (); omega
                  · omega
                  · first
                    | exact nz
                    | omega
                  · rw [show (k + 1).toNat = k.toNat + 1 by omega]
                    show _ = _ - 2 * (su_ _ _ _ _ + _)
                    rw [if_pos (by omega), ← hbk]
                    dsimp only
                    first
                    | (rw [hcm, hwb]; omega)
                    | (rw [show an_ (sr_ s k) 1 = 0 by omega]; omega)
                · have hcm : an_ (sr_ s k) 1 = 1 := by omega
                  refine rg_i (by omega) ?_
                  refine rg_i (by omega) ?_
                  refine ix_i (by omega) ?_
                  intro b9 b9b
                  have e10 : T2 294 0 ((12 * lo) + k) = T 294 0 ((12 * lo) + k) := (hf_35 294 0 ((12 * lo) + k) rfl).trans (hf_11 294 0 ((12 * lo) + k) rfl)
                  rw [e10] at b9 b9b ⊢
                  refine rg_i (by omega) ?_
                  refine hK 114 [some (vR 111 0), some (vI o), some (vI cu), some (vI s), some (vI lo), some (vI u), some (vI k)] [vI (2 * (T 294 0 ((12 * lo) + k))), vI u] T2 ?_
                  refine j_blx (F := fX11) tb_X11 (nn_ _) bk_X11_laySlack_114 bs_X11_laySlack_114 hz (fun K hK => ?_)
                  refine rg_i (by omega) ?_
                  refine rg_i (by omega) ?_
                  refine hK 76 [some (vR 111 0), some (vI o), some (vI cu), some (vI s), some (vI lo), some (vI (u - (2 * (T 294 0 ((12 * lo) + k))))), some (vI (k + 1))] [] T2 ?_
                  refine ih_76 _ ?_ (u - (2 * (T 294 0 ((12 * lo) + k)))) (k + 1) (Nat.le_refl _) ?_ ?_ ?_
                  · have hm_76 := hm_76 (); omega
                  · omega
                  · first
                    | exact nz
                    | omega
                  · rw [show (k + 1).toNat = k.toNat + 1 by omega]
                    show _ = _ - 2 * (su_ _ _ _ _ + _)
                    rw [if_pos (by omega), ← hbk]
                    dsimp only
                    first
                    | (rw [hcm, hwb]; omega)
                    | (rw [show an_ (sr_ s k) 1 = 0 by omega]; omega)
          refine j_blx (F := fX11) tb_X11 (nn_ _) bk_X11_laySlack_35 bs_X11_laySlack_35 hz (fun K hK => ?_)
          intro w11 w11b
          intro w12 w12b
          refine And.intro (fun c13 => ?_) (fun c13 => ?_)
          · refine hK 50 _ [] T2 ?_
            have ha1 := an_1 (s := s) (by omega)
            have hb1 := bt_n (x := s) (k := lo) (by omega) (by omega)
            have hb2 := bt_01 s.toNat lo.toNat
            have hlow := vs_low (f := (fun k : Nat => T 293 0 (k : Int))) (l := l) (s := s.toNat) (lo := lo.toNat) (by omega) (fun j hj => by have := lo1 (j : Int) (by omega) (by omega); rw [bt_n (by omega) (by omega), Int.toNat_natCast] at this; exact this) (by omega) hl
            have hvb := vs_b (f := (fun k : Nat => T 293 0 (k : Int))) (l := l) (F := 20000000) (by decide) (fun k hk => hsp (k : Int) (by omega) (by omega)) (s.toNat &&& (s.toNat - 1))
            have hva := (e2 (an_ s (s - 1)) (by omega)).trans (sv1 (an_ s (s - 1)) (by omega) (by omega) (an_2 hO (by omega) hsub))
            rw [show (an_ s (s - 1)).toNat = s.toNat &&& (s.toNat - 1) by omega] at hva
            rw [show ((lo.toNat : Nat) : Int) = lo by omega] at hlow
            have hs9 := hsp lo (by omega) (by omega)
            refine j_blx (F := fX11) tb_X11 (nn_ _) bk_X11_laySlack_50 bs_X11_laySlack_50 hz (fun K hK => ?_)
            refine rg_i (by omega) ?_
            intro w14 w14b
            refine ix_i (by omega) ?_
            intro b15 b15b
            refine ix_i (by omega) ?_
            intro b16 b16b
            have e17 : T2 293 0 lo = T 293 0 lo := (hf_35 293 0 lo rfl).trans (hf_11 293 0 lo rfl)
            rw [e17] at b16 b16b ⊢
            refine rg_i (by omega) ?_
            refine rg_i (by omega) ?_
            refine hK 76 [some (vR 111 0), some (vI o), some (vI cu), some (vI s), some (vI lo), some (vI ((T2 296 0 (an_ s (s - 1))) + (T 293 0 lo))), some (vI (lo + 1))] [] T2 ?_
            refine c_76 _ ((T2 296 0 (an_ s (s - 1))) + (T 293 0 lo)) (lo + 1) (Nat.le_refl _) ?_ ?_ ?_
            · omega
            · first
              | exact nz
              | omega
            · rw [su_n _ (by omega), hva]; omega
          · refine rg_i (by omega) ?_
            refine hK 35 [some (vR 111 0), some (vI o), some (vI cu), some (vI s), some (vI (lo + 1)), none, none] [] T2 ?_
            refine ih_35 _ ?_ (lo + 1) T2 (Nat.le_refl _) ?_ ?_ ?_ ?_ ?_
            · have hm_35 := hm_35 (); omega
            · exact fr_t (fr_0 _ _) (fr_s hf_35 rfl)
            · omega
            · first
              | exact hsub
              | omega
            · exact e2
            · intro j a b
              by_cases z : j = lo
              · rw [z]; omega
              · exact lo1 j a (by omega)
      refine j_blx (F := fX11) tb_X11 (nn_ _) bk_X11_laySlack_11 bs_X11_laySlack_11 hz (fun K hK => ?_)
      refine And.intro (fun c18 => ?_) (fun c18 => ?_)
      · refine hK 152 _ [] T1 ?_
        refine j_blx (F := fX11) tb_X11 (nn_ _) bk_X11_laySlack_152 bs_X11_laySlack_152 hz (fun K hK => ?_)
        refine (show po_X11_laySlack T l o T1 (some (vI cu)) from ?_)
        refine ⟨_, rfl, fr_t (fr_0 _ _) (fr_s hf_11 rfl), by omega, fun z => ⟨(fun k : Nat => T 293 0 (k : Int)), fun t a b d => ⟨sv1 t a (by omega) d, nn1 z t a (by omega) d, ?_⟩⟩⟩
        rw [sv1 t a (by omega) d]
        have hvb := vs_b (f := (fun k : Nat => T 293 0 (k : Int))) (l := l) (F := 20000000) (by decide) (fun k hk => hsp (k : Int) (by omega) (by omega)) t.toNat
        omega
      · refine iy_i (by omega) (by omega) ?_
        refine x_nm (fun U19 hU19 => ?_)
        have e20 := up_f hU19
        intro w21 w21b
        refine And.intro (fun c22 => ?_) (fun c22 => ?_)
        · refine hK 146 _ [] U19 ?_
          refine j_blx (F := fX11) tb_X11 (nn_ _) bk_X11_laySlack_146 bs_X11_laySlack_146 hz (fun K hK => ?_)
          refine rg_i (by omega) ?_
          refine hK 11 [some (vR 111 0), some (vI o), some (vI cu), some (vI (s + 1)), none, none, none] [] U19 ?_
          refine ih_11 _ ?_ cu (s + 1) U19 (Nat.le_refl _) ?_ ?_ ?_ ?_
          · have hm_11 := hm_11 (); omega
          · exact fr_u (fr_t (fr_0 _ _) (fr_s hf_11 rfl)) hU19 rfl
          · omega
          · intro t a b d
            by_cases z : t = s
            · exact absurd (z ▸ d) (by omega)
            · exact (up_g hU19 (fun q => z q.2.2)).trans (sv1 t a (by omega) d)
          · intro h9 t a b d
            by_cases z : t = s
            · exact absurd (z ▸ d) (by omega)
            · rw [up_g hU19 (fun q => z q.2.2)]; exact nn1 h9 t a (by omega) d
        · refine hK 35 [some (vR 111 0), some (vI o), some (vI cu), some (vI s), some (vI 0), none, none] [] U19 ?_
          refine c_35 _ 0 U19 (Nat.le_refl _) ?_ ?_ ?_ ?_ ?_
          · exact fr_u (fr_0 _ _) hU19 rfl
          · omega
          · first
            | exact hsub
            | omega
          · exact fun j hj => up_g hU19 (fun q => hj q.2.2)
          · intro j a b; omega
  refine j_blx (F := fX11) tb_X11 (nn_ _) bk_X11_laySlack_0 bs_X11_laySlack_0 hz (fun K hK => ?_)
  refine iy_i (by omega) (by omega) ?_
  refine x_nm (fun U23 hU23 => ?_)
  have e24 := up_f hU23
  refine hK 11 [some (vR 111 0), some (vI o), some (vI 0), some (vI 1), none, none, none] [] U23 ?_
  refine c_11 _ 0 1 U23 (Nat.le_refl _) ?_ ?_ ?_ ?_
  · exact fr_u (fr_0 _ _) hU23 rfl
  · omega
  · intro t a b _
    rw [show t = 0 by omega]
    exact (up_f hU23).trans (vs_0 _ _).symm
  · intro _ t a b _
    rw [show t = 0 by omega, up_f hU23]; decide
abbrev cX11_changeOf : ByteArray := prog_13_method_102_code
def yX11_changeOf : MethodName := ⟨RX11, "changeOf", "(IIII)I"⟩
def zX11_changeOf : Zm := (RX11, cX11_changeOf, 6, (some .int), { frames := 0, cells := 0, slots := 0, locals := 0 })
theorem bk_X11_changeOf_0 : ck_ fX11 (some .int) cX11_changeOf 0 [.iload 0, .iload 1, .ishr, .iconst 1, .iand, .istore 4, .iload 0, .iload 2, .ishr, .iconst 1, .iand, .istore 5, .iconst 2, .iload 4, .imul, .iload 5, .imul, .iconst 2, .iload 3, .isub, .iload 4, .imul, .isub, .iload 3, .iload 5, .imul, .isub, .ireturn] 34 = true := qck_r (nn_ _) (by decide +kernel)
theorem bs_X11_changeOf_0 {P : Zt → Option Zv → Prop} (K : Int → Zl → List Zv → Zt → Prop) : sx_ K P [.iload 0, .iload 1, .ishr, .iconst 1, .iand, .istore 4, .iload 0, .iload 2, .ishr, .iconst 1, .iand, .istore 5, .iconst 2, .iload 4, .imul, .iload 5, .imul, .iconst 2, .iload 3, .isub, .iload 4, .imul, .isub, .iload 3, .iload 5, .imul, .isub, .ireturn] 34 = x_iload 0 (x_iload 1 (x_ishr (x_iconst 1 (x_iand (x_istore 4 (x_iload 0 (x_iload 2 (x_ishr (x_iconst 1 (x_iand (x_istore 5 (x_iconst 2 (x_iload 4 (x_imul (x_iload 5 (x_imul (x_iconst 2 (x_iload 3 (x_isub (x_iload 4 (x_imul (x_isub (x_iload 3 (x_iload 5 (x_imul (x_isub (x_ireturn P))))))))))))))))))))))))))) := ((xe_iload 0).trans (congrArg (x_iload 0) ((xe_iload 1).trans (congrArg (x_iload 1) ((xe_ishr).trans (congrArg (x_ishr) ((xe_iconst 1).trans (congrArg (x_iconst 1) ((xe_iand).trans (congrArg (x_iand) ((xe_istore 4).trans (congrArg (x_istore 4) ((xe_iload 0).trans (congrArg (x_iload 0) ((xe_iload 2).trans (congrArg (x_iload 2) ((xe_ishr).trans (congrArg (x_ishr) ((xe_iconst 1).trans (congrArg (x_iconst 1) ((xe_iand).trans (congrArg (x_iand) ((xe_istore 5).trans (congrArg (x_istore 5) ((xe_iconst 2).trans (congrArg (x_iconst 2) ((xe_iload 4).trans (congrArg (x_iload 4) ((xe_imul).trans (congrArg (x_imul) ((xe_iload 5).trans (congrArg (x_iload 5) ((xe_imul).trans (congrArg (x_imul) ((xe_iconst 2).trans (congrArg (x_iconst 2) ((xe_iload 3).trans (congrArg (x_iload 3) ((xe_isub).trans (congrArg (x_isub) ((xe_iload 4).trans (congrArg (x_iload 4) ((xe_imul).trans (congrArg (x_imul) ((xe_isub).trans (congrArg (x_isub) ((xe_iload 3).trans (congrArg (x_iload 3) ((xe_iload 5).trans (congrArg (x_iload 5) ((xe_imul).trans (congrArg (x_imul) ((xe_isub).trans (congrArg (x_isub) (xe_ireturn)))))))))))))))))))))))))))))))))))))))))))))))))))))))
abbrev po_X11_changeOf (T : Zt) (s a b w : Int) : Zt → Option Zv → Prop := fun T' r => T = T' ∧ r = some (vI (ch_ s.toNat a.toNat b.toNat w))
set_option maxHeartbeats 4000000 in
theorem ct_X11_changeOf {T : Zt} {s a b w : Int} (h1 : 0 ≤ s ∧ s < 4096) (h2 : 0 ≤ a ∧ a < 12) (h3 : 0 ≤ b ∧ b < 12) (h4 : 0 ≤ w ∧ w ≤ 2) : Ct_ yX11_changeOf zX11_changeOf T [vI s, vI a, vI b, vI w] (po_X11_changeOf T s a b w) := by
  refine ct_of pn_11 rfl rfl (Nat.le_of_ble_eq_true rfl) (fun hT hav => ?_)
  have hr_s : -2147483648 ≤ s ∧ s ≤ 2147483647 := hav (vI s) List.mem_cons_self
  have hr_a : -2147483648 ≤ a ∧ a ≤ 2147483647 := hav (vI a) (List.mem_cons_of_mem _ List.mem_cons_self)
  have hr_b : -2147483648 ≤ b ∧ b ≤ 2147483647 := hav (vI b) (List.mem_cons_of_mem _ (List.mem_cons_of_mem _ List.mem_cons_self))
  have hr_w : -2147483648 ≤ w ∧ w ≤ 2147483647 := hav (vI w) (List.mem_cons_of_mem _ (List.mem_cons_of_mem _ (List.mem_cons_of_mem _ List.mem_cons_self)))
  have hz : zX11_changeOf.2.2.2.1 = some .boolean → ∀ (T' : Zt) (x : Int), po_X11_changeOf T s a b w T' (some (vI x)) → 0 ≤ x ∧ x ≤ 1 := fun h => by cases h
  show J_ zX11_changeOf T (po_X11_changeOf T s a b w) 0 0 0 [some (vI s), some (vI a), some (vI b), some (vI w), none, none] [] T
  refine j_blx (F := fX11) tb_X11 (nn_ _) bk_X11_changeOf_0 bs_X11_changeOf_0 hz (fun K hK => ?_)
  intro w1 w1b
  intro w2 w2b
  intro w3 w3b
  intro w4 w4b
  have hA := bt_01 s.toNat a.toNat
  have hB := bt_01 s.toNat b.toNat
  rw [← bt_n (by omega) (by omega)] at hA hB
  refine rg_i (by omega) ?_
  refine rg_i (by rcases hA with z | z <;> rcases hB with y | y <;> rw [z, y] <;> omega) ?_
  refine rg_i (by omega) ?_
  refine rg_i (by rcases hA with z | z <;> rw [z] <;> omega) ?_
  refine rg_i (by rcases hA with z | z <;> rcases hB with y | y <;> rw [z, y] <;> omega) ?_
  refine rg_i (by rcases hB with z | z <;> rw [z] <;> omega) ?_
  refine rg_i (by rcases hA with z | z <;> rcases hB with y | y <;> rw [z, y] <;> omega) ?_
  refine (show po_X11_changeOf T s a b w T (some (vI ((((2 * (an_ (sr_ s a) 1)) * (an_ (sr_ s b) 1)) - ((2 - w) * (an_ (sr_ s a) 1))) - (w * (an_ (sr_ s b) 1))))) from ?_)
  exact ⟨rfl, by unfold ch_; rw [bt_n (by omega) (by omega), bt_n (by omega) (by omega)]⟩
def OKW_ (T : Zt) (o a b w n : Int) : Prop := ∀ t, 1 ≤ t → t < n → an_ t o = t → 0 ≤ T 296 0 t + ch_ t.toNat a.toNat b.toNat (w)
def PW_ (T : Zt) (o a b ev g w : Int) : Prop := (g = 0 ∧ (ev = 0 ∨ w = -1) ∧ -1 ≤ w ∧ ∀ u, 0 ≤ u → u ≤ w → NW_ T o a b u) ∨ (g = 1 ∧ 0 ≤ w ∧ w ≤ 2 ∧ (ev = 0 → OKW_ T o a b w 4096))
theorem pw_2 {T : Zt} {o a b ev w : Int} {l : List (Nat × Nat)} (h : PW_ T o a b ev 0 w) (hs : ev = 0 → SW_ T o a b l) (ho : 0 ≤ o ∧ o ≤ 4095) : -1 ≤ w ∧ w ≤ 1 ∧ ∀ u, 0 ≤ u → u ≤ w → NW_ T o a b u := by
  rcases h with ⟨_, h1, h2, h3⟩ | ⟨h, _⟩
  · refine ⟨h2, ?_, h3⟩
    apply Int.not_lt.mp
    intro hw
    have he : ev = 0 := by omega
    exact sw_n (hs he) ho (h3 0 (by omega) (by omega)) (h3 1 (by omega) (by omega)) (h3 2 (by omega) (by omega))
  · cases h
theorem pw_1 {T : Zt} {o a b ev w g : Int} (h : PW_ T o a b ev g w) (hg : g ≠ 0) : 0 ≤ w ∧ w ≤ 2 ∧ (ev = 0 → OKW_ T o a b w 4096) := by
  rcases h with ⟨h, _⟩ | ⟨_, h⟩
  · exact absurd h hg
  · exact h
abbrev cX11_settle : ByteArray := prog_13_method_103_code
def yX11_settle : MethodName := ⟨RX11, "settle", "(IIIZ)I"⟩
def zX11_settle : Zm := (RX11, cX11_settle, 8, (some .int), { frames := 1, cells := 0, slots := 0, locals := 25 })
theorem bk_X11_settle_20 : ck_ fX11 (some .int) cX11_settle 20 [.iload 7, .iconst 4096, .if_icmp .ge 80, .iload 6, .ifCond .eq 80, .iload 4, .ifCond .ne 80, .iload 7, .iload 1, .iand, .iload 7, .if_icmp .ne 67, .aload 0, .tableswitch 0 11 96 #[], .iload 7, .iaload, .iload 7, .iload 2, .iload 3, .iload 5] 60 = true := qck_r (nn_ _) (by decide +kernel)
theorem bs_X11_settle_20 {P : Zt → Option Zv → Prop} (K : Int → Zl → List Zv → Zt → Prop) : sx_ K P [.iload 7, .iconst 4096, .if_icmp .ge 80, .iload 6, .ifCond .eq 80, .iload 4, .ifCond .ne 80, .iload 7, .iload 1, .iand, .iload 7, .if_icmp .ne 67, .aload 0, .tableswitch 0 11 96 #[], .iload 7, .iaload, .iload 7, .iload 2, .iload 3, .iload 5] 60 = x_iload 7 (x_iconst 4096 (x_if_icmp .ge 80 K (x_iload 6 (x_ifCond .eq 80 K (x_iload 4 (x_ifCond .ne 80 K (x_iload 7 (x_iload 1 (x_iand (x_iload 7 (x_if_icmp .ne 67 K (x_aload 0 (x_g1 111 296 (x_iload 7 (x_iaload (x_iload 7 (x_iload 2 (x_iload 3 (x_iload 5 (K 60)))))))))))))))))))) := ((xe_iload 7).trans (congrArg (x_iload 7) ((xe_iconst 4096).trans (congrArg (x_iconst 4096) ((xe_if_icmp .ge 80).trans (congrArg (x_if_icmp .ge 80 K) ((xe_iload 6).trans (congrArg (x_iload 6) ((xe_ifCond .eq 80).trans (congrArg (x_ifCond .eq 80 K) ((xe_iload 4).trans (congrArg (x_iload 4) ((xe_ifCond .ne 80).trans (congrArg (x_ifCond .ne 80 K) ((xe_iload 7).trans (congrArg (x_iload 7) ((xe_iload 1).trans (congrArg (x_iload 1) ((xe_iand).trans (congrArg (x_iand) ((xe_iload 7).trans (congrArg (x_iload 7) ((xe_if_icmp .ne 67).trans (congrArg (x_if_icmp .ne 67 K) ((xe_aload 0).trans (congrArg (x_aload 0) ((xe_g1 (kk := 111) rfl tl_11_96).trans (congrArg (x_g1 111 296) ((xe_iload 7).trans (congrArg (x_iload 7) ((xe_iaload).trans (congrArg (x_iaload) ((xe_iload 7).trans (congrArg (x_iload 7) ((xe_iload 2).trans (congrArg (x_iload 2) ((xe_iload 3).trans (congrArg (x_iload 3) ((xe_iload 5).trans (congrArg (x_iload 5) xe_nil))))))))))))))))))))))))))))))))))))))))
theorem bk_X11_settle_80 : ck_ fX11 (some .int) cX11_settle 80 [.goto 6] 83 = true := qck_r (nn_ _) (by decide +kernel)
theorem bs_X11_settle_80 {P : Zt → Option Zv → Prop} (K : Int → Zl → List Zv → Zt → Prop) : sx_ K P [.goto 6] 83 = x_goto 6 K := (xe_goto 6)
theorem bk_X11_settle_67 : ck_ fX11 (some .int) cX11_settle 67 [.iconst 1, .goto 72] 71 = true := qck_r (nn_ _) (by decide +kernel)
theorem bs_X11_settle_67 {P : Zt → Option Zv → Prop} (K : Int → Zl → List Zv → Zt → Prop) : sx_ K P [.iconst 1, .goto 72] 71 = x_iconst 1 (x_goto 72 K) := ((xe_iconst 1).trans (congrArg (x_iconst 1) (xe_goto 72)))
theorem bk_X11_settle_72 : ck_ fX11 (some .int) cX11_settle 72 [.istore 6, .iinc 7 1, .goto 20] 80 = true := qck_r (nn_ _) (by decide +kernel)
theorem bs_X11_settle_72 {P : Zt → Option Zv → Prop} (K : Int → Zl → List Zv → Zt → Prop) : sx_ K P [.istore 6, .iinc 7 1, .goto 20] 80 = x_istore 6 (x_iinc 7 1 (x_goto 20 K)) := ((xe_istore 6).trans (congrArg (x_istore 6) ((xe_iinc 7 1).trans (congrArg (x_iinc 7 1) (xe_goto 20)))))
set_option maxRecDepth 100000 in
theorem cl_X11_541 : cs_ RX11 541 yX11_changeOf zX11_changeOf 4 := ⟨gi_S (lwq_10 (dqa_m (dqa_m (List.mem_of_getElem? (i := 0) rfl))) rfl : Cond.methodLink RX11 541 yX11_changeOf ∈ lw_g) (lwq_10 (dqa_m (dqa_m (List.mem_of_getElem? (i := 1) rfl))) rfl : Cond.static yX11_changeOf ∈ lw_g) (lwq_1 (dqa_m (List.mem_of_getElem? (i := 2) rfl)) rfl : Cond.initialized yX11_changeOf.cls ∈ lw_g) (lwq_10 (dqa_m (dqa_m (List.mem_of_getElem? (i := 2) rfl))) rfl : Cond.code yX11_changeOf cX11_changeOf 6 (some .int) ∈ lw_g), ⟨by decide, by decide, by decide +kernel⟩⟩
theorem bk_X11_settle_63 : ck_ fX11 (some .int) cX11_settle 63 [.iadd, .ifCond .lt 71, .iconst 1, .goto 72] 71 = true := qck_r (nn_ _) (by decide +kernel)
theorem bs_X11_settle_63 {P : Zt → Option Zv → Prop} (K : Int → Zl → List Zv → Zt → Prop) : sx_ K P [.iadd, .ifCond .lt 71, .iconst 1, .goto 72] 71 = x_iadd (x_ifCond .lt 71 K (x_iconst 1 (x_goto 72 K))) := ((xe_iadd).trans (congrArg (x_iadd) ((xe_ifCond .lt 71).trans (congrArg (x_ifCond .lt 71 K) ((xe_iconst 1).trans (congrArg (x_iconst 1) (xe_goto 72)))))))
theorem bk_X11_settle_71 : ck_ fX11 (some .int) cX11_settle 71 [.iconst 0, .istore 6, .iinc 7 1, .goto 20] 80 = true := qck_r (nn_ _) (by decide +kernel)
theorem bs_X11_settle_71 {P : Zt → Option Zv → Prop} (K : Int → Zl → List Zv → Zt → Prop) : sx_ K P [.iconst 0, .istore 6, .iinc 7 1, .goto 20] 80 = x_iconst 0 (x_istore 6 (x_iinc 7 1 (x_goto 20 K))) := ((xe_iconst 0).trans (congrArg (x_iconst 0) ((xe_istore 6).trans (congrArg (x_istore 6) ((xe_iinc 7 1).trans (congrArg (x_iinc 7 1) (xe_goto 20)))))))
theorem bk_X11_settle_86 : ck_ fX11 (some .int) cX11_settle 86 [.iload 7, .iconst 4096, .if_icmp .ge 137, .iload 4, .ifCond .ne 137, .aload 0, .tableswitch 0 11 96 #[], .iload 7, .dup2, .iaload, .iload 7, .iload 1, .iand, .iload 7, .if_icmp .ne 128, .iload 7, .iload 2, .iload 3, .iload 5] 122 = true := qck_r (nn_ _) (by decide +kernel)
theorem bs_X11_settle_86 {P : Zt → Option Zv → Prop} (K : Int → Zl → List Zv → Zt → Prop) : sx_ K P [.iload 7, .iconst 4096, .if_icmp .ge 137, .iload 4, .ifCond .ne 137, .aload 0, .tableswitch 0 11 96 #[], .iload 7, .dup2, .iaload, .iload 7, .iload 1, .iand, .iload 7, .if_icmp .ne 128, .iload 7, .iload 2, .iload 3, .iload 5] 122 = x_iload 7 (x_iconst 4096 (x_if_icmp .ge 137 K (x_iload 4 (x_ifCond .ne 137 K (x_aload 0 (x_g1 111 296 (x_iload 7 (x_dup2 (x_iaload (x_iload 7 (x_iload 1 (x_iand (x_iload 7 (x_if_icmp .ne 128 K (x_iload 7 (x_iload 2 (x_iload 3 (x_iload 5 (K 122))))))))))))))))))) := ((xe_iload 7).trans (congrArg (x_iload 7) ((xe_iconst 4096).trans (congrArg (x_iconst 4096) ((xe_if_icmp .ge 137).trans (congrArg (x_if_icmp .ge 137 K) ((xe_iload 4).trans (congrArg (x_iload 4) ((xe_ifCond .ne 137).trans (congrArg (x_ifCond .ne 137 K) ((xe_aload 0).trans (congrArg (x_aload 0) ((xe_g1 (kk := 111) rfl tl_11_96).trans (congrArg (x_g1 111 296) ((xe_iload 7).trans (congrArg (x_iload 7) ((xe_dup2).trans (congrArg (x_dup2) ((xe_iaload).trans (congrArg (x_iaload) ((xe_iload 7).trans (congrArg (x_iload 7) ((xe_iload 1).trans (congrArg (x_iload 1) ((xe_iand).trans (congrArg (x_iand) ((xe_iload 7).trans (congrArg (x_iload 7) ((xe_if_icmp .ne 128).trans (congrArg (x_if_icmp .ne 128 K) ((xe_iload 7).trans (congrArg (x_iload 7) ((xe_iload 2).trans (congrArg (x_iload 2) ((xe_iload 3).trans (congrArg (x_iload 3) ((xe_iload 5).trans (congrArg (x_iload 5) xe_nil))))))))))))))))))))))))))))))))))))))
theorem bk_X11_settle_137 : ck_ fX11 (some .int) cX11_settle 137 [.iload 5, .ireturn] 140 = true := qck_r (nn_ _) (by decide +kernel)
theorem bs_X11_settle_137 {P : Zt → Option Zv → Prop} (K : Int → Zl → List Zv → Zt → Prop) : sx_ K P [.iload 5, .ireturn] 140 = x_iload 5 (x_ireturn P) := ((xe_iload 5).trans (congrArg (x_iload 5) (xe_ireturn)))
theorem bk_X11_settle_128 : ck_ fX11 (some .int) cX11_settle 128 [.iconst 0, .iadd, .iastore, .iinc 7 1, .goto 86] 137 = true := qck_r (nn_ _) (by decide +kernel)
theorem bs_X11_settle_128 {P : Zt → Option Zv → Prop} (K : Int → Zl → List Zv → Zt → Prop) : sx_ K P [.iconst 0, .iadd, .iastore, .iinc 7 1, .goto 86] 137 = x_iconst 0 (x_iadd (x_iastore (x_iinc 7 1 (x_goto 86 K)))) := ((xe_iconst 0).trans (congrArg (x_iconst 0) ((xe_iadd).trans (congrArg (x_iadd) ((xe_iastore).trans (congrArg (x_iastore) ((xe_iinc 7 1).trans (congrArg (x_iinc 7 1) (xe_goto 86)))))))))
theorem bk_X11_settle_125 : ck_ fX11 (some .int) cX11_settle 125 [.goto 129] 128 = true := qck_r (nn_ _) (by decide +kernel)
theorem bs_X11_settle_125 {P : Zt → Option Zv → Prop} (K : Int → Zl → List Zv → Zt → Prop) : sx_ K P [.goto 129] 128 = x_goto 129 K := (xe_goto 129)
theorem bk_X11_settle_129 : ck_ fX11 (some .int) cX11_settle 129 [.iadd, .iastore, .iinc 7 1, .goto 86] 137 = true := qck_r (nn_ _) (by decide +kernel)
theorem bs_X11_settle_129 {P : Zt → Option Zv → Prop} (K : Int → Zl → List Zv → Zt → Prop) : sx_ K P [.iadd, .iastore, .iinc 7 1, .goto 86] 137 = x_iadd (x_iastore (x_iinc 7 1 (x_goto 86 K))) := ((xe_iadd).trans (congrArg (x_iadd) ((xe_iastore).trans (congrArg (x_iastore) ((xe_iinc 7 1).trans (congrArg (x_iinc 7 1) (xe_goto 86)))))))
theorem bk_X11_settle_6 : ck_ fX11 (some .int) cX11_settle 6 [.iload 6, .ifCond .ne 83, .iinc 5 1, .iconst 1, .istore 6, .iconst 1, .istore 7] 20 = true := qck_r (nn_ _) (by decide +kernel)
theorem bs_X11_settle_6 {P : Zt → Option Zv → Prop} (K : Int → Zl → List Zv → Zt → Prop) : sx_ K P [.iload 6, .ifCond .ne 83, .iinc 5 1, .iconst 1, .istore 6, .iconst 1, .istore 7] 20 = x_iload 6 (x_ifCond .ne 83 K (x_iinc 5 1 (x_iconst 1 (x_istore 6 (x_iconst 1 (x_istore 7 (K 20))))))) := ((xe_iload 6).trans (congrArg (x_iload 6) ((xe_ifCond .ne 83).trans (congrArg (x_ifCond .ne 83 K) ((xe_iinc 5 1).trans (congrArg (x_iinc 5 1) ((xe_iconst 1).trans (congrArg (x_iconst 1) ((xe_istore 6).trans (congrArg (x_istore 6) ((xe_iconst 1).trans (congrArg (x_iconst 1) ((xe_istore 7).trans (congrArg (x_istore 7) xe_nil))))))))))))))
theorem bk_X11_settle_83 : ck_ fX11 (some .int) cX11_settle 83 [.iconst 1, .istore 7] 86 = true := qck_r (nn_ _) (by decide +kernel)
theorem bs_X11_settle_83 {P : Zt → Option Zv → Prop} (K : Int → Zl → List Zv → Zt → Prop) : sx_ K P [.iconst 1, .istore 7] 86 = x_iconst 1 (x_istore 7 (K 86)) := ((xe_iconst 1).trans (congrArg (x_iconst 1) ((xe_istore 7).trans (congrArg (x_istore 7) xe_nil))))
theorem bk_X11_settle_0 : ck_ fX11 (some .int) cX11_settle 0 [.iconst (-1), .istore 5, .iconst 0, .istore 6] 6 = true := qck_r (nn_ _) (by decide +kernel)
theorem bs_X11_settle_0 {P : Zt → Option Zv → Prop} (K : Int → Zl → List Zv → Zt → Prop) : sx_ K P [.iconst (-1), .istore 5, .iconst 0, .istore 6] 6 = x_iconst (-1) (x_istore 5 (x_iconst 0 (x_istore 6 (K 6)))) := ((xe_iconst (-1)).trans (congrArg (x_iconst (-1)) ((xe_istore 5).trans (congrArg (x_istore 5) ((xe_iconst 0).trans (congrArg (x_iconst 0) ((xe_istore 6).trans (congrArg (x_istore 6) xe_nil))))))))
abbrev po_X11_settle (T : Zt) (l : List (Nat × Nat)) (o a b ev : Int) : Zt → Option Zv → Prop := fun T' r => ∃ x : Int, r = some (vI x) ∧ fr_ [(296, [])] T T' ∧ ((0 ≤ x ∧ x ≤ 2) ∧ (ev = 0 → SVE_ T' o l))
set_option maxHeartbeats 4000000 in
theorem ct_X11_settle {T : Zt} {l : List (Nat × Nat)} {o a b ev : Int} (hO : 0 ≤ o ∧ o ≤ 4095) (ha : 0 ≤ a ∧ a < 12) (hb : 0 ≤ b ∧ b < 12) (hev : 0 ≤ ev ∧ ev ≤ 1) (hs : ev = 0 → SW_ T o a b l) : Ct_ yX11_settle zX11_settle T [vR 111 0, vI o, vI a, vI b, vI ev] (po_X11_settle T l o a b ev) := by
  refine ct_of pn_11 rfl rfl (Nat.le_of_ble_eq_true rfl) (fun hT hav => ?_)
  have hr_o : -2147483648 ≤ o ∧ o ≤ 2147483647 := hav (vI o) (List.mem_cons_of_mem _ List.mem_cons_self)
  have hr_a : -2147483648 ≤ a ∧ a ≤ 2147483647 := hav (vI a) (List.mem_cons_of_mem _ (List.mem_cons_of_mem _ List.mem_cons_self))
  have hr_b : -2147483648 ≤ b ∧ b ≤ 2147483647 := hav (vI b) (List.mem_cons_of_mem _ (List.mem_cons_of_mem _ (List.mem_cons_of_mem _ List.mem_cons_self)))
  have hr_ev : -2147483648 ≤ ev ∧ ev ≤ 2147483647 := hav (vI ev) (List.mem_cons_of_mem _ (List.mem_cons_of_mem _ (List.mem_cons_of_mem _ (List.mem_cons_of_mem _ List.mem_cons_self))))
  have hz : zX11_settle.2.2.2.1 = some .boolean → ∀ (T' : Zt) (x : Int), po_X11_settle T l o a b ev T' (some (vI x)) → 0 ≤ x ∧ x ≤ 1 := fun h => by cases h
  show J_ zX11_settle T (po_X11_settle T l o a b ev) 0 0 0 [some (vR 111 0), some (vI o), some (vI a), some (vI b), some (vI ev), none, none, none] [] T
  have c_6 : ∀ (nn : Nat) (w : Int) (g : Int), ((3 - w).toNat) ≤ nn → (PW_ T o a b ev g w) → J_ zX11_settle T (po_X11_settle T l o a b ev) 0 0 6 [some (vR 111 0), some (vI o), some (vI a), some (vI b), some (vI ev), some (vI w), some (vI g), none] [] T := by
    intro nn
    induction nn using Nat.strongRecOn with
    | _ nn ih_6 =>
      intro w g hm_6 hw
      replace hm_6 := fun (_ : Unit) => hm_6
      have c_20 : ∀ (nn : Nat) (g2 : Int) (s : Int), ((4096 - s).toNat) ≤ nn → (1 ≤ s ∧ s ≤ 4096 ∧ g = 0) → ((g2 = 1 ∧ OKW_ T o a b (w + 1) s) ∨ (g2 = 0 ∧ ev = 0 ∧ NW_ T o a b (w + 1))) → J_ zX11_settle T (po_X11_settle T l o a b ev) 0 0 20 [some (vR 111 0), some (vI o), some (vI a), some (vI b), some (vI ev), some (vI (w + 1)), some (vI g2), some (vI s)] [] T := by
        intro nn
        induction nn using Nat.strongRecOn with
        | _ nn ih_20 =>
          intro g2 s hm_20 j1 h20
          replace hm_20 := fun (_ : Unit) => hm_20
          have hw6 := pw_2 (by rw [j1.2.2] at hw; exact hw) hs hO
          refine j_blx (F := fX11) tb_X11 (nn_ _) bk_X11_settle_20 bs_X11_settle_20 hz (fun K hK => ?_)
          refine And.intro (fun c1 => ?_) (fun c1 => ?_)
          · refine hK 80 _ [] T ?_
            refine j_blx (F := fX11) tb_X11 (nn_ _) bk_X11_settle_80 bs_X11_settle_80 hz (fun K hK => ?_)
            refine hK 6 _ [] T ?_
            refine j_drq [some (vR 111 0), some (vI o), some (vI a), some (vI b), some (vI ev), some (vI (w + 1)), some (vI g2), none] (drq_s (drq_s (drq_s (drq_s (drq_s (drq_s (drq_s (drq_n drq_0)))))))) ?_
            refine ih_6 _ ?_ (w + 1) g2 (Nat.le_refl _) ?_
            · have hm_6 := hm_6 (); omega
            · first
              | (rcases h20 with z | z
                 · exact Or.inr ⟨z.1, by omega, by omega, fun e9 => by rw [show (4096 : Int) = s by omega]; exact z.2⟩
                 · exact Or.inl ⟨z.1, Or.inl z.2.1, by omega, fun u p q => by
                     by_cases y : u = w + 1
                     · rw [y]; exact z.2.2
                     · exact hw6.2.2 u p (by omega)⟩)
              | (rcases h20 with z | z
                 · exact Or.inr ⟨z.1, by omega, by omega, fun e9 => by omega⟩
                 · exact absurd z.2.1 (by omega))
          · refine And.intro (fun c2 => ?_) (fun c2 => ?_)
            · refine hK 80 [some (vR 111 0), some (vI o), some (vI a), some (vI b), some (vI ev), some (vI (w + 1)), some (vI g2), some (vI s)] [] T ?_
              refine j_blx (F := fX11) tb_X11 (nn_ _) bk_X11_settle_80 bs_X11_settle_80 hz (fun K hK => ?_)
              refine hK 6 _ [] T ?_
              refine j_drq [some (vR 111 0), some (vI o), some (vI a), some (vI b), some (vI ev), some (vI (w + 1)), some (vI g2), none] (drq_s (drq_s (drq_s (drq_s (drq_s (drq_s (drq_s (drq_n drq_0)))))))) ?_
              refine ih_6 _ ?_ (w + 1) g2 (Nat.le_refl _) ?_
              · have hm_6 := hm_6 (); omega
              · first
                | (rcases h20 with z | z
                   · exact Or.inr ⟨z.1, by omega, by omega, fun e9 => by rw [show (4096 : Int) = s by omega]; exact z.2⟩
                   · exact Or.inl ⟨z.1, Or.inl z.2.1, by omega, fun u p q => by
                       by_cases y : u = w + 1
                       · rw [y]; exact z.2.2
                       · exact hw6.2.2 u p (by omega)⟩)
                | (rcases h20 with z | z
                   · exact Or.inr ⟨z.1, by omega, by omega, fun e9 => by omega⟩
                   · exact absurd z.2.1 (by omega))
            · refine And.intro (fun c3 => ?_) (fun c3 => ?_)
              · refine hK 80 [some (vR 111 0), some (vI o), some (vI a), some (vI b), some (vI ev), some (vI (w + 1)), some (vI g2), some (vI s)] [] T ?_
                refine j_blx (F := fX11) tb_X11 (nn_ _) bk_X11_settle_80 bs_X11_settle_80 hz (fun K hK => ?_)
                refine hK 6 _ [] T ?_
                refine j_drq [some (vR 111 0), some (vI o), some (vI a), some (vI b), some (vI ev), some (vI (w + 1)), some (vI g2), none] (drq_s (drq_s (drq_s (drq_s (drq_s (drq_s (drq_s (drq_n drq_0)))))))) ?_
                refine ih_6 _ ?_ (w + 1) g2 (Nat.le_refl _) ?_
                · have hm_6 := hm_6 (); omega
                · first
                  | (rcases h20 with z | z
                     · exact Or.inr ⟨z.1, by omega, by omega, fun e9 => by rw [show (4096 : Int) = s by omega]; exact z.2⟩
                     · exact Or.inl ⟨z.1, Or.inl z.2.1, by omega, fun u p q => by
                         by_cases y : u = w + 1
                         · rw [y]; exact z.2.2
                         · exact hw6.2.2 u p (by omega)⟩)
                  | (rcases h20 with z | z
                     · exact Or.inr ⟨z.1, by omega, by omega, fun e9 => by omega⟩
                     · exact absurd z.2.1 (by omega))
              · intro w4 w4b
                refine And.intro (fun c5 => ?_) (fun c5 => ?_)
                · refine hK 67 [some (vR 111 0), some (vI o), some (vI a), some (vI b), some (vI ev), some (vI (w + 1)), some (vI g2), some (vI s)] [] T ?_
                  refine j_blx (F := fX11) tb_X11 (nn_ _) bk_X11_settle_67 bs_X11_settle_67 hz (fun K hK => ?_)
                  refine hK 72 _ [vI 1] T ?_
                  refine j_blx (F := fX11) tb_X11 (nn_ _) bk_X11_settle_72 bs_X11_settle_72 hz (fun K hK => ?_)
                  refine rg_i (by omega) ?_
                  refine hK 20 [some (vR 111 0), some (vI o), some (vI a), some (vI b), some (vI ev), some (vI (w + 1)), some (vI 1), some (vI (s + 1))] [] T ?_
                  refine ih_20 _ ?_ 1 (s + 1) (Nat.le_refl _) ?_ ?_
                  · have hm_20 := hm_20 (); omega
                  · omega
                  · refine Or.inl ⟨rfl, fun t p q r => ?_⟩
                    by_cases z : t = s
                    · first
                      | (rw [z]; omega)
                      | exact absurd (z ▸ r) (by omega)
                    · rcases h20 with y | y
                      · exact y.2 t p (by omega) r
                      · omega
                · refine ix_i (by omega) ?_
                  intro b6 b6b
                  refine hK 60 [some (vR 111 0), some (vI o), some (vI a), some (vI b), some (vI ev), some (vI (w + 1)), some (vI g2), some (vI s)] [vI (w + 1), vI b, vI a, vI s, vI (T 296 0 s)] T ?_
                  have hb6 := sw_b (s := s) (hs (by omega)) (by omega) (by omega) (by omega)
                  have hc6 := ch_b s.toNat a.toNat b.toNat (w := w + 1) (by omega)
                  refine j_callS (y := yX11_changeOf) (Yc := zX11_changeOf) (rest := [vI (T 296 0 s)]) [vI s, vI a, vI b, vI (w + 1)] (ct_X11_changeOf (T := T) (by omega) (by omega) (by omega) (by omega)) cl_X11_541 (qd_c (by decide +kernel)) (nn_ _) rfl (rf_of rfl) (Nat.le_of_ble_eq_true rfl) (Nat.le_of_ble_eq_true rfl) (Nat.le_of_ble_eq_true rfl) rfl ?_
                  rintro _ _ ⟨rfl, rfl⟩
                  show J_ zX11_settle T (po_X11_settle T l o a b ev) 0 0 63 _ [vI (ch_ s.toNat a.toNat b.toNat (w + 1)), vI (T 296 0 s)] T
                  refine j_blx (F := fX11) tb_X11 (nn_ _) bk_X11_settle_63 bs_X11_settle_63 hz (fun K hK => ?_)
                  refine rg_i (by omega) ?_
                  refine And.intro (fun c7 => ?_) (fun c7 => ?_)
                  · refine hK 71 _ [] T ?_
                    refine j_blx (F := fX11) tb_X11 (nn_ _) bk_X11_settle_71 bs_X11_settle_71 hz (fun K hK => ?_)
                    refine rg_i (by omega) ?_
                    refine hK 20 [some (vR 111 0), some (vI o), some (vI a), some (vI b), some (vI ev), some (vI (w + 1)), some (vI 0), some (vI (s + 1))] [] T ?_
                    refine ih_20 _ ?_ 0 (s + 1) (Nat.le_refl _) ?_ ?_
                    · have hm_20 := hm_20 (); omega
                    · omega
                    · exact Or.inr ⟨rfl, by omega, s, by omega, by omega, by omega, by omega⟩
                  · refine hK 72 [some (vR 111 0), some (vI o), some (vI a), some (vI b), some (vI ev), some (vI (w + 1)), some (vI g2), some (vI s)] [vI 1] T ?_
                    refine j_blx (F := fX11) tb_X11 (nn_ _) bk_X11_settle_72 bs_X11_settle_72 hz (fun K hK => ?_)
                    refine rg_i (by omega) ?_
                    refine hK 20 [some (vR 111 0), some (vI o), some (vI a), some (vI b), some (vI ev), some (vI (w + 1)), some (vI 1), some (vI (s + 1))] [] T ?_
                    refine ih_20 _ ?_ 1 (s + 1) (Nat.le_refl _) ?_ ?_
                    · have hm_20 := hm_20 (); omega
                    · omega
                    · refine Or.inl ⟨rfl, fun t p q r => ?_⟩
                      by_cases z : t = s
                      · first
                        | (rw [z]; omega)
                        | exact absurd (z ▸ r) (by omega)
                      · rcases h20 with y | y
                        · exact y.2 t p (by omega) r
                        · omega
      have c_86 : ∀ (nn : Nat) (s : Int) (T1 : Zt), ((4096 - s).toNat) ≤ nn → (fr_ [(296, [])] T T1) → (1 ≤ s ∧ s ≤ 4096 ∧ g ≠ 0) → (∀ t, 1 ≤ t → t < s → an_ t o = t → T1 296 0 t = T 296 0 t + ch_ t.toNat a.toNat b.toNat w) → (∀ t, t < 1 ∨ s ≤ t → T1 296 0 t = T 296 0 t) → J_ zX11_settle T (po_X11_settle T l o a b ev) 0 0 86 [some (vR 111 0), some (vI o), some (vI a), some (vI b), some (vI ev), some (vI w), some (vI g), some (vI s)] [] T1 := by
        intro nn
        induction nn using Nat.strongRecOn with
        | _ nn ih_86 =>
          intro s T1 hm_86 hf_86 j1 u1 k1
          replace hm_86 := fun (_ : Unit) => hm_86
          have hw7 := pw_1 hw j1.2.2
          refine j_blx (F := fX11) tb_X11 (nn_ _) bk_X11_settle_86 bs_X11_settle_86 hz (fun K hK => ?_)
          refine And.intro (fun c8 => ?_) (fun c8 => ?_)
          · refine hK 137 _ [] T1 ?_
            refine j_blx (F := fX11) tb_X11 (nn_ _) bk_X11_settle_137 bs_X11_settle_137 hz (fun K hK => ?_)
            refine (show po_X11_settle T l o a b ev T1 (some (vI w)) from ?_)
            exact ⟨_, rfl, fr_t (fr_0 _ _) (fr_s hf_86 rfl), by omega, fun z => sw_p (hs z) ha hb (by omega) (hw7.2.2 z) (fun t p q r => u1 t p (by omega) r) (k1 0 (Or.inl (by decide)))⟩
          · refine And.intro (fun c9 => ?_) (fun c9 => ?_)
            · refine hK 137 _ [] T1 ?_
              refine j_blx (F := fX11) tb_X11 (nn_ _) bk_X11_settle_137 bs_X11_settle_137 hz (fun K hK => ?_)
              refine (show po_X11_settle T l o a b ev T1 (some (vI w)) from ?_)
              exact ⟨_, rfl, fr_t (fr_0 _ _) (fr_s hf_86 rfl), by omega, fun z => sw_p (hs z) ha hb (by omega) (hw7.2.2 z) (fun t p q r => u1 t p (by omega) r) (k1 0 (Or.inl (by decide)))⟩
            · refine ix_i (by omega) ?_
              intro b10 b10b
              have hk7 := k1 s (Or.inr (by omega))
              intro w11 w11b
              refine And.intro (fun c12 => ?_) (fun c12 => ?_)
              · refine hK 128 _ [vI (T1 296 0 s), vI s, vR 296 0] T1 ?_
                refine j_blx (F := fX11) tb_X11 (nn_ _) bk_X11_settle_128 bs_X11_settle_128 hz (fun K hK => ?_)
                refine rg_i (by omega) ?_
                refine iy_i (by omega) (by omega) ?_
                refine x_nm (fun U13 hU13 => ?_)
                have e14 := up_f hU13
                refine rg_i (by omega) ?_
                refine hK 86 [some (vR 111 0), some (vI o), some (vI a), some (vI b), some (vI ev), some (vI w), some (vI g), some (vI (s + 1))] [] U13 ?_
                refine ih_86 _ ?_ (s + 1) U13 (Nat.le_refl _) ?_ ?_ ?_ ?_
                · have hm_86 := hm_86 (); omega
                · exact fr_u (fr_t (fr_0 _ _) (fr_s hf_86 rfl)) hU13 rfl
                · omega
                · intro t p q r
                  by_cases z : t = s
                  · first
                    | (rw [z, up_f hU13]; omega)
                    | exact absurd (z ▸ r) (by omega)
                  · rw [up_g hU13 (fun q => z q.2.2)]; exact u1 t p (by omega) r
                · exact fun t p => (up_g hU13 (by omega)).trans (k1 t (by omega))
              · refine hK 122 [some (vR 111 0), some (vI o), some (vI a), some (vI b), some (vI ev), some (vI w), some (vI g), some (vI s)] [vI w, vI b, vI a, vI s, vI (T1 296 0 s), vI s, vR 296 0] T1 ?_
                have hb7 := sw_b (s := s) (hs (by omega)) (by omega) (by omega) (by omega)
                have hc7 := ch_b s.toNat a.toNat b.toNat (w := w) (by omega)
                refine j_callS (y := yX11_changeOf) (Yc := zX11_changeOf) (rest := [vI (T1 296 0 s), vI s, vR 296 0]) [vI s, vI a, vI b, vI w] (ct_X11_changeOf (T := T1) (by omega) (by omega) (by omega) (by omega)) cl_X11_541 (qd_c (by decide +kernel)) (nn_ _) rfl (rf_of rfl) (Nat.le_of_ble_eq_true rfl) (Nat.le_of_ble_eq_true rfl) (Nat.le_of_ble_eq_true rfl) rfl ?_
                rintro _ _ ⟨rfl, rfl⟩
                show J_ zX11_settle T (po_X11_settle T l o a b ev) 0 0 125 _ [vI (ch_ s.toNat a.toNat b.toNat w), vI (T1 296 0 s), vI s, vR 296 0] T1
                refine j_blx (F := fX11) tb_X11 (nn_ _) bk_X11_settle_125 bs_X11_settle_125 hz (fun K hK => ?_)
                refine hK 129 _ [vI (ch_ s.toNat a.toNat b.toNat w), vI (T1 296 0 s), vI s, vR 296 0] T1 ?_
                refine j_blx (F := fX11) tb_X11 (nn_ _) bk_X11_settle_129 bs_X11_settle_129 hz (fun K hK => ?_)
                refine rg_i (by omega) ?_
                refine iy_i (by omega) (by omega) ?_
                refine x_nm (fun U15 hU15 => ?_)
                have e16 := up_f hU15
                refine rg_i (by omega) ?_
                refine hK 86 [some (vR 111 0), some (vI o), some (vI a), some (vI b), some (vI ev), some (vI w), some (vI g), some (vI (s + 1))] [] U15 ?_
                refine ih_86 _ ?_ (s + 1) U15 (Nat.le_refl _) ?_ ?_ ?_ ?_
                · have hm_86 := hm_86 (); omega
                · exact fr_u (fr_t (fr_0 _ _) (fr_s hf_86 rfl)) hU15 rfl
                · omega
                · intro t p q r
                  by_cases z : t = s
                  · first
                    | (rw [z, up_f hU15]; omega)
                    | exact absurd (z ▸ r) (by omega)
                  · rw [up_g hU15 (fun q => z q.2.2)]; exact u1 t p (by omega) r
                · exact fun t p => (up_g hU15 (by omega)).trans (k1 t (by omega))
      refine j_blx (F := fX11) tb_X11 (nn_ _) bk_X11_settle_6 bs_X11_settle_6 hz (fun K hK => ?_)
      refine And.intro (fun c17 => ?_) (fun c17 => ?_)
      · have hw7 := pw_1 hw (by omega)
        refine hK 83 _ [] T ?_
        refine j_blx (F := fX11) tb_X11 (nn_ _) bk_X11_settle_83 bs_X11_settle_83 hz (fun K hK => ?_)
        refine hK 86 [some (vR 111 0), some (vI o), some (vI a), some (vI b), some (vI ev), some (vI w), some (vI g), some (vI 1)] [] T ?_
        refine c_86 _ 1 T (Nat.le_refl _) ?_ ?_ ?_ ?_
        · exact fr_0 _ _
        · omega
        · intro t p q; omega
        · exact fun _ _ => rfl
      · have hw6 := pw_2 (by rw [show g = 0 by omega] at hw; exact hw) hs hO
        refine rg_i (by omega) ?_
        refine hK 20 [some (vR 111 0), some (vI o), some (vI a), some (vI b), some (vI ev), some (vI (w + 1)), some (vI 1), some (vI 1)] [] T ?_
        refine c_20 _ 1 1 (Nat.le_refl _) ?_ ?_
        · omega
        · exact Or.inl ⟨rfl, fun t p q => by omega⟩
  refine j_blx (F := fX11) tb_X11 (nn_ _) bk_X11_settle_0 bs_X11_settle_0 hz (fun K hK => ?_)
  refine hK 6 [some (vR 111 0), some (vI o), some (vI a), some (vI b), some (vI ev), some (vI (-1)), some (vI 0), none] [] T ?_
  refine c_6 _ (-1) 0 (Nat.le_refl _) ?_
  · exact Or.inl ⟨rfl, Or.inr rfl, by decide, fun u a b => by omega⟩
