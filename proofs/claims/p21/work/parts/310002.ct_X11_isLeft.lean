theorem vs_low {f : Nat → Int} {l : List (Nat × Nat)} {s lo : Nat} (h1 : bt_ s lo = 1) (h0 : ∀ j, j < lo → bt_ s j = 0) (hl : lo < 12) (h : ∀ p ∈ l, p.1 ≠ p.2 ∧ p.1 < 12 ∧ p.2 < 12) : vs_ f l s = vs_ f l (s &&& (s - 1)) + f lo - 2 * su_ (fun k => cb_ lo k l) s (lo + 1) 12 := by
  have e := bt_low h1 h0
  unfold vs_
  rw [sp_low (f := f) e h1 12, ed_low e h1 h0 hl l h, if_pos hl]
  omega
theorem sp_b {f : Nat → Int} {s : Nat} {F : Int} (hF : 0 ≤ F) (h : ∀ k, k < 12 → -F ≤ f k ∧ f k ≤ F) : ∀ n, n ≤ 12 → -(n * F) ≤ sp_ f s n ∧ sp_ f s n ≤ n * F
  | 0, _ => by simp [sp_]
  | n + 1, hn => by
      have i := sp_b (s := s) hF h n (by omega)
      have k := h n (by omega)
      unfold sp_
      rw [show ((n + 1 : Nat) : Int) * F = n * F + F by rw [Int.natCast_add, Int.add_mul]; simp]
      rcases bt_01 s n with x | x <;> rw [x] <;> omega
theorem ed_b (s : Nat) : ∀ l : List (Nat × Nat), 0 ≤ ed_ s l ∧ ed_ s l ≤ l.length
  | [] => by simp [ed_]
  | p :: l => by
      have i := ed_b s l
      unfold ed_
      rw [List.length_cons]
      rcases bt_01 s p.1 with x | x <;> rcases bt_01 s p.2 with y | y <;> rw [x, y] <;> omega
theorem vs_b {f : Nat → Int} {l : List (Nat × Nat)} {F : Int} (hF : 0 ≤ F) (h : ∀ k, k < 12 → -F ≤ f k ∧ f k ≤ F) (s : Nat) : -(12 * F) - 2 * l.length ≤ vs_ f l s ∧ vs_ f l s ≤ 12 * F := by
  have a := sp_b (s := s) hF h 12 (Nat.le_refl _)
  have b := ed_b s l
  unfold vs_
  omega
theorem cb_b (a b : Nat) : ∀ l : List (Nat × Nat), 0 ≤ cb_ a b l ∧ cb_ a b l ≤ l.length
  | [] => by simp [cb_]
  | p :: l => by
      have i := cb_b a b l
      unfold cb_
      rw [List.length_cons]
      split <;> omega
theorem cb_s (a b : Nat) (p : Nat × Nat) : ∀ l : List (Nat × Nat), cb_ a b (l ++ [p]) = cb_ a b l + (if (p.1 = a ∧ p.2 = b) ∨ (p.1 = b ∧ p.2 = a) then 1 else 0)
  | [] => by simp [cb_]
  | q :: l => by
      show _ + cb_ a b (l ++ [p]) = _ + cb_ a b l + _
      rw [cb_s a b p l]; omega
/-- the pairs of the matches still left, from m on, that another club than cl plays -/
def plf_ (T : Zt) (cl : Int) : Nat → Int → List (Nat × Nat)
  | 0, _ => []
  | n + 1, m => (if (T 235 0 m = 0 ∨ T 235 0 m = 1) ∧ T 232 0 m ≠ cl ∧ T 233 0 m ≠ cl ∧ T 232 0 m ≠ T 233 0 m then [((T 232 0 m).toNat, (T 233 0 m).toNat)] else []) ++ plf_ T cl n (m + 1)
theorem plf_s (T : Zt) (cl : Int) : ∀ (n : Nat) (m : Int), plf_ T cl (n + 1) m = plf_ T cl n m ++ (if (T 235 0 (m + n) = 0 ∨ T 235 0 (m + n) = 1) ∧ T 232 0 (m + n) ≠ cl ∧ T 233 0 (m + n) ≠ cl ∧ T 232 0 (m + n) ≠ T 233 0 (m + n) then [((T 232 0 (m + n)).toNat, (T 233 0 (m + n)).toNat)] else [])
  | 0, m => by simp [plf_]
  | n + 1, m => by
      have i := plf_s T cl n (m + 1)
      rw [show m + 1 + (n : Int) = m + ((n + 1 : Nat) : Int) by omega] at i
      show _ ++ plf_ T cl (n + 1) (m + 1) = (_ ++ plf_ T cl n (m + 1)) ++ _
      rw [i, List.append_assoc]
theorem plf_b {T : Zt} {cl : Int} : ∀ (n : Nat) (m : Int), (∀ j, m ≤ j → j < m + n → (0 ≤ T 232 0 j ∧ T 232 0 j ≤ 11) ∧ (0 ≤ T 233 0 j ∧ T 233 0 j ≤ 11)) → ∀ p ∈ plf_ T cl n m, p.1 ≠ p.2 ∧ p.1 < 12 ∧ p.2 < 12
  | 0, _, _, p, hp => by cases hp
  | n + 1, m, h, p, hp => by
      unfold plf_ at hp
      rcases List.mem_append.mp hp with z | z
      · have g := h m (by omega) (by omega)
        split at z
        · rename_i c
          rw [List.mem_singleton] at z
          subst z
          refine ⟨?_, ?_, ?_⟩ <;> simp only <;> omega
        · cases z
      · exact plf_b n (m + 1) (fun j a b => h j (by omega) (by omega)) p z
theorem plf_n (T : Zt) (cl : Int) : ∀ (n : Nat) (m : Int), (plf_ T cl n m).length ≤ n
  | 0, _ => by simp [plf_]
  | n + 1, m => by
      have i := plf_n T cl n (m + 1)
      unfold plf_
      rw [List.length_append]
      split <;> simp <;> omega
/-- the slack of every set of others: a sum less its pairs twice, nowhere below 0 -/
def SVE_ (T : Zt) (o : Int) (l : List (Nat × Nat)) : Prop := ∃ f : Nat → Int, ∀ s : Int, 0 ≤ s → s < 4096 → an_ s o = s → T 296 0 s = vs_ f l s.toNat ∧ 0 ≤ T 296 0 s ∧ T 296 0 s ≤ 1000000000
def SW_ (T : Zt) (o a b : Int) (l : List (Nat × Nat)) : Prop := (a ≠ b → SVE_ T o ((a.toNat, b.toNat) :: l)) ∧ (a = b → SVE_ T o l)
def NW_ (T : Zt) (o a b w : Int) : Prop := ∃ s : Int, 1 ≤ s ∧ s < 4096 ∧ an_ s o = s ∧ T 296 0 s + ch_ s.toNat a.toNat b.toNat w < 0
theorem an_z {s o : Int} (ho : 0 ≤ o ∧ o ≤ 4095) (hs : 0 ≤ s ∧ s < 4096) : an_ s o = s ↔ s.toNat &&& o.toNat = s.toNat := by
  rw [an_n (by omega) (by omega)]; omega
theorem sw_n {T : Zt} {o a b : Int} {l : List (Nat × Nat)} (h : SW_ T o a b l) (ho : 0 ≤ o ∧ o ≤ 4095) (h0 : NW_ T o a b 0) (h1 : NW_ T o a b 1) (h2 : NW_ T o a b 2) : False := by
  by_cases z : a = b
  · obtain ⟨f, g⟩ := h.2 z
    obtain ⟨s, p1, p2, p3, p4⟩ := h0
    have q := g s (by omega) p2 p3
    have c := ch_c s.toNat a.toNat b.toNat 0
    rw [z] at c p4
    omega
  · obtain ⟨f, g⟩ := h.1 z
    obtain ⟨s0, p1, p2, p3, p4⟩ := h0
    obtain ⟨s1, q1, q2, q3, q4⟩ := h1
    obtain ⟨s2, r1, r2, r3, r4⟩ := h2
    rw [(g s0 (by omega) p2 p3).1] at p4
    rw [(g s1 (by omega) q2 q3).1] at q4
    rw [(g s2 (by omega) r2 r3).1] at r4
    refine vs_w (P := fun s => s < 4096 ∧ s &&& o.toNat = s) (fun s t hs ht => ⟨⟨Nat.or_lt_two_pow (n := 12) hs.1 ht.1, ?_⟩, ⟨Nat.lt_of_le_of_lt Nat.and_le_left hs.1, ?_⟩⟩) (fun s hs => ?_) ⟨by omega, (an_z ho (by omega)).mp p3⟩ ⟨by omega, (an_z ho (by omega)).mp q3⟩ ⟨by omega, (an_z ho (by omega)).mp r3⟩ p4 q4 r4
    · rw [Nat.and_or_distrib_right, hs.2, ht.2]
    · rw [Nat.and_assoc, ht.2]
    · have k := g (s : Int) (by omega) (by omega) ((an_z ho (by omega)).mpr (by rw [Int.toNat_natCast]; exact hs.2))
      rw [Int.toNat_natCast] at k
      omega
theorem ch_b (s a b : Nat) {w : Int} (hw : 0 ≤ w ∧ w ≤ 2) : -2 ≤ ch_ s a b w ∧ ch_ s a b w ≤ 0 := by
  have := ch_c s a b w
  omega
theorem ch_0 (a b : Nat) (w : Int) : ch_ 0 a b w = 0 := by
  have e : ∀ k, bt_ 0 k = 0 := fun k => by unfold bt_; rw [Nat.zero_testBit]; rfl
  unfold ch_; rw [e, e]; simp
theorem sw_p {T T1 : Zt} {o a b w : Int} {l : List (Nat × Nat)} (h : SW_ T o a b l) (ha : 0 ≤ a ∧ a < 12) (hb : 0 ≤ b ∧ b < 12) (hw : 0 ≤ w ∧ w ≤ 2)
    (ok : ∀ s, 1 ≤ s → s < 4096 → an_ s o = s → 0 ≤ T 296 0 s + ch_ s.toNat a.toNat b.toNat w)
    (up : ∀ s, 1 ≤ s → s < 4096 → an_ s o = s → T1 296 0 s = T 296 0 s + ch_ s.toNat a.toNat b.toNat w) (u0 : T1 296 0 0 = T 296 0 0) : SVE_ T1 o l := by
  have u : ∀ s, 0 ≤ s → s < 4096 → an_ s o = s → T1 296 0 s = T 296 0 s + ch_ s.toNat a.toNat b.toNat w := fun s h1 h2 h3 => by
    by_cases z : s = 0
    · subst z
      rw [u0, show Int.toNat 0 = 0 by rfl, ch_0]; omega
    · exact up s (by omega) h2 h3
  by_cases z : a = b
  · obtain ⟨f, g⟩ := h.2 z
    refine ⟨f, fun s h1 h2 h3 => ?_⟩
    have k := g s h1 h2 h3
    have c := ch_c s.toNat a.toNat b.toNat w
    have v := u s h1 h2 h3
    rw [z] at c v
    have : ch_ s.toNat b.toNat b.toNat w = 0 := by omega
    rw [this] at v
    rw [v, Int.add_zero]
    exact k
  · obtain ⟨f, g⟩ := h.1 z
    refine ⟨fw2_ f a.toNat b.toNat w, fun s h1 h2 h3 => ?_⟩
    have k := g s h1 h2 h3
    have v := u s h1 h2 h3
    have c := ch_b s.toNat a.toNat b.toNat hw
    rw [vs_s (by omega) (by omega)]
    by_cases y : s = 0
    · subst y
      rw [show Int.toNat 0 = 0 by rfl, ch_0] at v ⊢
      rw [show Int.toNat 0 = 0 by rfl] at k
      omega
    · have := ok s (by omega) h2 h3
      omega
theorem sve_e {T T1 : Zt} {o : Int} {l : List (Nat × Nat)} (h : SVE_ T o l) (e : ∀ j, T1 296 0 j = T 296 0 j) : SVE_ T1 o l := by
  obtain ⟨f, g⟩ := h
  exact ⟨f, fun s a b c => by rw [e]; exact g s a b c⟩
theorem plf_e {T T1 : Zt} {cl : Int} (a : ∀ j, T1 235 0 j = T 235 0 j) (b : ∀ j, T1 232 0 j = T 232 0 j) (c : ∀ j, T1 233 0 j = T 233 0 j) : ∀ (n : Nat) (m : Int), plf_ T1 cl n m = plf_ T cl n m
  | 0, _ => rfl
  | n + 1, m => by
      unfold plf_
      rw [a, b, c, plf_e a b c n (m + 1)]
/-- between two clubs stand as many as the pairs say -/
def BW_ (T : Zt) (l : List (Nat × Nat)) : Prop := ∀ x y : Int, 0 ≤ x → x < 12 → 0 ≤ y → y < 12 → x ≠ y → T 294 0 (12 * x + y) = cb_ x.toNat y.toNat l
theorem bw_s {T T1 T2 : Zt} {l : List (Nat × Nat)} {h a : Int} (w : BW_ T l) (hh : 0 ≤ h ∧ h ≤ 11) (ha : 0 ≤ a ∧ a ≤ 11) (e1 : T1 = up_ T 294 0 (12 * h + a) (T 294 0 (12 * h + a) + 1)) (e2 : T2 = up_ T1 294 0 (12 * a + h) (T1 294 0 (12 * a + h) + 1)) (ne : h ≠ a) : BW_ T2 (l ++ [(h.toNat, a.toNat)]) := fun x y x0 x1 y0 y1 xy => by
  rw [cb_s]
  have k := w x y x0 x1 y0 y1 xy
  by_cases z : x = h ∧ y = a
  · obtain ⟨rfl, rfl⟩ := z
    rw [up_g e2 (fun q => by omega), up_f e1, k, if_pos (Or.inl ⟨rfl, rfl⟩)]
  · by_cases z2 : x = a ∧ y = h
    · obtain ⟨rfl, rfl⟩ := z2
      rw [up_f e2, up_g e1 (fun q => by omega), k, if_pos (Or.inr ⟨rfl, rfl⟩)]
    · rw [up_g e2 (fun q => by omega), up_g e1 (fun q => by omega), k, if_neg (fun q => by simp only at q; omega)]; omega
theorem bw_d {T T1 T2 : Zt} {l : List (Nat × Nat)} {h a : Int} (w : BW_ T l) (hh : 0 ≤ h ∧ h ≤ 11) (e1 : T1 = up_ T 294 0 (12 * h + a) (T 294 0 (12 * h + a) + 1)) (e2 : T2 = up_ T1 294 0 (12 * a + h) (T1 294 0 (12 * a + h) + 1)) (ne : h = a) : BW_ T2 l := fun x y x0 x1 y0 y1 xy => by
  rw [up_g e2 (fun q => by omega), up_g e1 (fun q => by omega)]
  exact w x y x0 x1 y0 y1 xy
/-- what the slack is, below the set s -/
def SV_ (T : Zt) (o s : Int) (l : List (Nat × Nat)) (f : Nat → Int) : Prop := ∀ t : Int, 0 ≤ t → t < s → an_ t o = t → T 296 0 t = vs_ f l t.toNat
theorem su_b {g : Nat → Int} {s lo : Nat} {B : Int} (hB : 0 ≤ B) (h : ∀ k, 0 ≤ g k ∧ g k ≤ B) : ∀ n : Nat, 0 ≤ su_ g s lo n ∧ su_ g s lo n ≤ n * B
  | 0 => by simp [su_]
  | n + 1 => by
      have i := su_b (s := s) (lo := lo) hB h n
      have k := h n
      unfold su_
      rw [show ((n + 1 : Nat) : Int) * B = n * B + B by rw [Int.natCast_add, Int.add_mul]; simp]
      split
      · rcases bt_01 s n with x | x <;> rw [x] <;> omega
      · omega
theorem su_n {g : Nat → Int} {s lo : Nat} : ∀ n : Nat, n ≤ lo → su_ g s lo n = 0
  | 0, _ => rfl
  | n + 1, h => by unfold su_; rw [su_n n (by omega), if_neg (by omega)]; rfl
theorem vs_0 (f : Nat → Int) (l : List (Nat × Nat)) : vs_ f l 0 = 0 := by
  have e : ∀ k, bt_ 0 k = 0 := fun k => by unfold bt_; rw [Nat.zero_testBit]; rfl
  have a : ∀ n, sp_ f 0 n = 0 := fun n => by
    induction n with
    | zero => rfl
    | succ n i => unfold sp_; rw [i, e]; simp
  have b : ∀ l : List (Nat × Nat), ed_ 0 l = 0 := fun l => by
    induction l with
    | nil => rfl
    | cons p l i => unfold ed_; rw [i, e]; simp
  unfold vs_; rw [a, b]; rfl
theorem lo_lt {s lo : Int} (hs : 1 ≤ s ∧ s < 4096) (h0 : 0 ≤ lo) (h : ∀ j, 0 ≤ j → j < lo → an_ (sr_ s j) 1 = 0) : lo < 12 := by
  apply Int.not_le.mp
  intro hl
  have z : s.toNat = 0 := by
    apply Nat.eq_of_testBit_eq
    intro j
    rw [Nat.zero_testBit]
    by_cases y : j < 12
    · have k := h (j : Int) (by omega) (by omega)
      rw [bt_n (by omega) (by omega), Int.toNat_natCast] at k
      unfold bt_ at k
      split at k
      · omega
      · simp_all
    · exact Nat.testBit_lt_two_pow (Nat.lt_of_lt_of_le (by omega : s.toNat < 2 ^ 12) (Nat.pow_le_pow_right (by decide) (by omega)))
  omega
theorem an_1 {s : Int} (hs : 1 ≤ s ∧ s < 4096) : an_ s (s - 1) = ((s.toNat &&& (s.toNat - 1) : Nat) : Int) ∧ 0 ≤ an_ s (s - 1) ∧ an_ s (s - 1) ≤ s - 1 := by
  have e := an_n (x := s) (y := s - 1) (by omega) (by omega)
  rw [show (s - 1).toNat = s.toNat - 1 by omega] at e
  have l : s.toNat &&& (s.toNat - 1) ≤ s.toNat - 1 := Nat.and_le_right
  exact ⟨e, by omega, by omega⟩
theorem an_2 {s o : Int} (ho : 0 ≤ o ∧ o ≤ 4095) (hs : 1 ≤ s ∧ s < 4096) (h : an_ s o = s) : an_ (an_ s (s - 1)) o = an_ s (s - 1) := by
  have a := an_1 hs
  rw [an_z ho (by omega)] at h
  rw [an_z ho (by omega), a.1, Int.toNat_natCast, Nat.and_assoc, Nat.and_comm (s.toNat - 1), ← Nat.and_assoc, h]
theorem sw_b {T : Zt} {o a b s : Int} {l : List (Nat × Nat)} (h : SW_ T o a b l) (h1 : 0 ≤ s) (h2 : s < 4096) (h3 : an_ s o = s) : 0 ≤ T 296 0 s ∧ T 296 0 s ≤ 1000000000 := by
  by_cases z : a = b
  · obtain ⟨f, g⟩ := h.2 z
    exact (g s h1 h2 h3).2
  · obtain ⟨f, g⟩ := h.1 z
    exact (g s h1 h2 h3).2
theorem mul_b {x y : Int} (hx : 0 ≤ x ∧ x ≤ 9) (hy : 0 ≤ y ∧ y ≤ 1000) : 0 ≤ x * y ∧ x * y ≤ 9000 := by
  refine ⟨Int.mul_nonneg hx.1 hy.1, ?_⟩
  have := Int.mul_le_mul hx.2 hy.2 hy.1 (by decide : (0 : Int) ≤ 9)
  omega
abbrev cX11_isLeft : ByteArray := prog_13_method_97_code
def yX11_isLeft : MethodName := ⟨RX11, "isLeft", "(I)Z"⟩
def zX11_isLeft : Zm := (RX11, cX11_isLeft, 2, (some .boolean), { frames := 0, cells := 0, slots := 0, locals := 0 })
theorem bk_X11_isLeft_0 : ck_ fX11 (some .boolean) cX11_isLeft 0 [.aload 0, .tableswitch 0 11 35 #[], .iload 1, .iaload, .ifCond .eq 19, .aload 0, .tableswitch 0 11 35 #[], .iload 1, .iaload, .iconst 1, .if_icmp .ne 23, .iconst 1, .goto 24] 23 = true := qck_r (nn_ _) (by decide +kernel)
theorem bs_X11_isLeft_0 {P : Zt → Option Zv → Prop} (K : Int → Zl → List Zv → Zt → Prop) : sx_ K P [.aload 0, .tableswitch 0 11 35 #[], .iload 1, .iaload, .ifCond .eq 19, .aload 0, .tableswitch 0 11 35 #[], .iload 1, .iaload, .iconst 1, .if_icmp .ne 23, .iconst 1, .goto 24] 23 = x_aload 0 (x_g1 111 235 (x_iload 1 (x_iaload (x_ifCond .eq 19 K (x_aload 0 (x_g1 111 235 (x_iload 1 (x_iaload (x_iconst 1 (x_if_icmp .ne 23 K (x_iconst 1 (x_goto 24 K)))))))))))) := ((xe_aload 0).trans (congrArg (x_aload 0) ((xe_g1 (kk := 111) rfl tl_11_35).trans (congrArg (x_g1 111 235) ((xe_iload 1).trans (congrArg (x_iload 1) ((xe_iaload).trans (congrArg (x_iaload) ((xe_ifCond .eq 19).trans (congrArg (x_ifCond .eq 19 K) ((xe_aload 0).trans (congrArg (x_aload 0) ((xe_g1 (kk := 111) rfl tl_11_35).trans (congrArg (x_g1 111 235) ((xe_iload 1).trans (congrArg (x_iload 1) ((xe_iaload).trans (congrArg (x_iaload) ((xe_iconst 1).trans (congrArg (x_iconst 1) ((xe_if_icmp .ne 23).trans (congrArg (x_if_icmp .ne 23 K) ((xe_iconst 1).trans (congrArg (x_iconst 1) (xe_goto 24)))))))))))))))))))))))))
theorem bk_X11_isLeft_19 : ck_ fX11 (some .boolean) cX11_isLeft 19 [.iconst 1, .goto 24] 23 = true := qck_r (nn_ _) (by decide +kernel)
theorem bs_X11_isLeft_19 {P : Zt → Option Zv → Prop} (K : Int → Zl → List Zv → Zt → Prop) : sx_ K P [.iconst 1, .goto 24] 23 = x_iconst 1 (x_goto 24 K) := ((xe_iconst 1).trans (congrArg (x_iconst 1) (xe_goto 24)))
theorem bk_X11_isLeft_24 : ck_ fX11 (some .boolean) cX11_isLeft 24 [.ireturn] 25 = true := qck_r (nn_ _) (by decide +kernel)
theorem bs_X11_isLeft_24 {P : Zt → Option Zv → Prop} (K : Int → Zl → List Zv → Zt → Prop) : sx_ K P [.ireturn] 25 = x_ireturn P := (xe_ireturn)
theorem bk_X11_isLeft_23 : ck_ fX11 (some .boolean) cX11_isLeft 23 [.iconst 0, .ireturn] 25 = true := qck_r (nn_ _) (by decide +kernel)
theorem bs_X11_isLeft_23 {P : Zt → Option Zv → Prop} (K : Int → Zl → List Zv → Zt → Prop) : sx_ K P [.iconst 0, .ireturn] 25 = x_iconst 0 (x_ireturn P) := ((xe_iconst 0).trans (congrArg (x_iconst 0) (xe_ireturn)))
abbrev po_X11_isLeft (T : Zt) (m : Int) : Zt → Option Zv → Prop := fun T' r => T = T' ∧ ∃ x : Int, r = some (vI x) ∧ ((x = 1 ∧ (T 235 0 m = 0 ∨ T 235 0 m = 1)) ∨ (x = 0 ∧ ¬ (T 235 0 m = 0 ∨ T 235 0 m = 1)))
set_option maxHeartbeats 4000000 in
theorem ct_X11_isLeft {T : Zt} {m : Int} (h1 : 0 ≤ m ∧ m < 400) : Ct_ yX11_isLeft zX11_isLeft T [vR 111 0, vI m] (po_X11_isLeft T m) := by
  refine ct_of pn_11 rfl rfl (Nat.le_of_ble_eq_true rfl) (fun hT hav => ?_)
  have hr_m : -2147483648 ≤ m ∧ m ≤ 2147483647 := hav (vI m) (List.mem_cons_of_mem _ List.mem_cons_self)
  have hz : zX11_isLeft.2.2.2.1 = some .boolean → ∀ (T' : Zt) (x : Int), po_X11_isLeft T m T' (some (vI x)) → 0 ≤ x ∧ x ≤ 1 := fun _ T' x h => by obtain ⟨-, y, e, hy⟩ := h; cases e; omega
  show J_ zX11_isLeft T (po_X11_isLeft T m) 0 0 0 [some (vR 111 0), some (vI m)] [] T
  refine j_blx (F := fX11) tb_X11 (nn_ _) bk_X11_isLeft_0 bs_X11_isLeft_0 hz (fun K hK => ?_)
  refine ix_i (by omega) ?_
  intro b1 b1b
  refine And.intro (fun c2 => ?_) (fun c2 => ?_)
  · refine hK 19 _ [] T ?_
    refine j_blx (F := fX11) tb_X11 (nn_ _) bk_X11_isLeft_19 bs_X11_isLeft_19 hz (fun K hK => ?_)
    refine hK 24 _ [vI 1] T ?_
    refine j_blx (F := fX11) tb_X11 (nn_ _) bk_X11_isLeft_24 bs_X11_isLeft_24 hz (fun K hK => ?_)
    refine (show po_X11_isLeft T m T (some (vI 1)) from ?_)
    exact ⟨rfl, _, rfl, Or.inl ⟨rfl, by omega⟩⟩
  · refine ix_i (by omega) ?_
    intro b3 b3b
    refine And.intro (fun c4 => ?_) (fun c4 => ?_)
    · refine hK 23 _ [] T ?_
      refine j_blx (F := fX11) tb_X11 (nn_ _) bk_X11_isLeft_23 bs_X11_isLeft_23 hz (fun K hK => ?_)
      refine (show po_X11_isLeft T m T (some (vI 0)) from ?_)
      exact ⟨rfl, _, rfl, Or.inr ⟨rfl, by omega⟩⟩
    · refine hK 24 _ [vI 1] T ?_
      refine j_blx (F := fX11) tb_X11 (nn_ _) bk_X11_isLeft_24 bs_X11_isLeft_24 hz (fun K hK => ?_)
      refine (show po_X11_isLeft T m T (some (vI 1)) from ?_)
      exact ⟨rfl, _, rfl, Or.inl ⟨rfl, by omega⟩⟩
