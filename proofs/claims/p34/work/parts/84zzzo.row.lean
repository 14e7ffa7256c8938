-- who can be first: rows of results by their number, words for the reference
/-- what a row gives v from match k on -/
def gs7_ (ru hs aw : Int → Int) : List Int → Int → Int → Int
  | [], _, _ => 0
  | r :: l, k, v => (if v = hs k then ru (1 + r) else 0) + (if v = aw k then ru (3 - r) else 0) + gs7_ ru hs aw l (k + 1) v
theorem ok7_g {ru hs aw : Int → Int} {V : Int → Prop} {be : Int} : ∀ (l : List Int) (k : Int) (p : Int → Int), ok7_ ru hs aw V be l k p ↔ ∀ v, V v → p v + gs7_ ru hs aw l k v ≤ be
  | [], k, p => by
    show (∀ v, V v → p v ≤ be) ↔ ∀ v, V v → p v + 0 ≤ be
    simp only [Int.add_zero]
  | r :: l, k, p => by
    show ok7_ ru hs aw V be l (k + 1) (gp7_ ru (hs k) (aw k) r p) ↔ _
    rw [ok7_g l (k + 1) (gp7_ ru (hs k) (aw k) r p)]
    refine ⟨fun h v hv => ?_, fun h v hv => ?_⟩
    · have g := h v hv
      show p v + ((if v = hs k then ru (1 + r) else 0) + (if v = aw k then ru (3 - r) else 0) + gs7_ ru hs aw l (k + 1) v) ≤ be
      have e : gp7_ ru (hs k) (aw k) r p v = p v + (if v = hs k then ru (1 + r) else 0) + (if v = aw k then ru (3 - r) else 0) := rfl
      omega
    · have g : p v + ((if v = hs k then ru (1 + r) else 0) + (if v = aw k then ru (3 - r) else 0) + gs7_ ru hs aw l (k + 1) v) ≤ be := h v hv
      have e : gp7_ ru (hs k) (aw k) r p v = p v + (if v = hs k then ru (1 + r) else 0) + (if v = aw k then ru (3 - r) else 0) := rfl
      omega
theorem gs7_b {ru hs aw : Int → Int} (h : ∀ w, 1 ≤ w ∧ w ≤ 3 → 0 ≤ ru w ∧ ru w ≤ 1000) : ∀ (l : List Int) (k v : Int), VD7_ l → 0 ≤ gs7_ ru hs aw l k v ∧ gs7_ ru hs aw l k v ≤ 2000 * (l.length : Int)
  | [], k, v, _ => by
    show (0 : Int) ≤ 0 ∧ (0 : Int) ≤ 2000 * ((0 : Nat) : Int)
    omega
  | r :: l, k, v, d => by
    have g := vd7_c.mp d
    have ih := gs7_b (hs := hs) (aw := aw) h l (k + 1) v g.2
    have h1 := h (1 + r) (by omega)
    have h2 := h (3 - r) (by omega)
    have c1 : 0 ≤ (if v = hs k then ru (1 + r) else 0) ∧ (if v = hs k then ru (1 + r) else 0) ≤ 1000 := by
      by_cases z : v = hs k
      · rw [if_pos z]; exact h1
      · rw [if_neg z]; decide
    have c2 : 0 ≤ (if v = aw k then ru (3 - r) else 0) ∧ (if v = aw k then ru (3 - r) else 0) ≤ 1000 := by
      by_cases z : v = aw k
      · rw [if_pos z]; exact h2
      · rw [if_neg z]; decide
    show 0 ≤ (if v = hs k then ru (1 + r) else 0) + (if v = aw k then ru (3 - r) else 0) + gs7_ ru hs aw l (k + 1) v ∧ (if v = hs k then ru (1 + r) else 0) + (if v = aw k then ru (3 - r) else 0) + gs7_ ru hs aw l (k + 1) v ≤ 2000 * ((l.length + 1 : Nat) : Int)
    omega
/-- what stands in a row of places -/
def la7_ (f : Int → Int) : Nat → Int → List Int
  | 0, _ => []
  | i + 1, k => f k :: la7_ f i (k + 1)
theorem la7_e {f g : Int → Int} : ∀ (i : Nat) (k : Int), (∀ j, k ≤ j → j < k + (i : Int) → f j = g j) → la7_ f i k = la7_ g i k
  | 0, _, _ => rfl
  | i + 1, k, h => by
    show f k :: la7_ f i (k + 1) = g k :: la7_ g i (k + 1)
    rw [h k (by omega) (by omega), la7_e i (k + 1) (fun j a b => h j (by omega) (by omega))]
/-- one digit more in front -/
theorem dw7_s {i : Nat} {r : Int} : dw7_ (i + 1) (r % 3 ^ (i + 1)) = (r / 3 ^ i % 3) :: dw7_ i (r % 3 ^ i) := by
  have p := p37_ i
  have m1 := Int.emod_nonneg r (show (3 : Int) ^ i ≠ 0 by omega)
  have m2 := Int.emod_lt_of_pos r p
  have d := Int.mul_ediv_add_emod r (3 ^ i)
  have t1 := Int.emod_nonneg (r / 3 ^ i) (show (3 : Int) ≠ 0 by decide)
  have t2 := Int.emod_lt_of_pos (r / 3 ^ i) (show (0 : Int) < 3 by decide)
  have e := Int.mul_ediv_add_emod (r / 3 ^ i) 3
  have w : r % 3 ^ (i + 1) = r % 3 ^ i + (r / 3 ^ i % 3) * 3 ^ i := by
    rw [Int.pow_succ]
    have c : r = (r % 3 ^ i + (r / 3 ^ i % 3) * 3 ^ i) + (r / 3 ^ i / 3) * (3 ^ i * 3) := by
      have c1 : 3 ^ i * (3 * (r / 3 ^ i / 3) + r / 3 ^ i % 3) = (r / 3 ^ i / 3) * (3 ^ i * 3) + (r / 3 ^ i % 3) * 3 ^ i := by
        rw [Int.mul_add, Int.mul_comm 3 (r / 3 ^ i / 3), ← Int.mul_assoc, Int.mul_comm (3 ^ i) (r / 3 ^ i / 3), Int.mul_assoc, Int.mul_comm (3 ^ i) (r / 3 ^ i % 3)]
      rw [e] at c1
      omega
    have b : 0 ≤ r % 3 ^ i + (r / 3 ^ i % 3) * 3 ^ i ∧ r % 3 ^ i + (r / 3 ^ i % 3) * 3 ^ i < 3 ^ i * 3 := by
      generalize (3 : Int) ^ i = P at *
      rcases (by omega : r / P % 3 = 0 ∨ r / P % 3 = 1 ∨ r / P % 3 = 2) with z | z | z <;> rw [z] <;> omega
    have g : (r % 3 ^ i + (r / 3 ^ i % 3) * 3 ^ i + (r / 3 ^ i / 3) * (3 ^ i * 3)) % (3 ^ i * 3) = r % 3 ^ i + (r / 3 ^ i % 3) * 3 ^ i := by
      rw [Int.add_mul_emod_self_right, Int.emod_eq_of_lt b.1 b.2]
    rw [← c] at g
    exact g
  show (r % 3 ^ (i + 1)) / 3 ^ i :: dw7_ i (r % 3 ^ (i + 1) % 3 ^ i) = _
  rw [w, Int.add_mul_ediv_right _ _ (show (3 : Int) ^ i ≠ 0 by omega), Int.ediv_eq_zero_of_lt m1 m2, Int.zero_add, Int.add_mul_emod_self_right, Int.emod_eq_of_lt m1 m2]
/-- two places made less -/
theorem ga7_u {K : Nat} {U U2 U3 : Zt} {a b f g v1 v2 : Int} (e1 : U2 = up_ U K 0 a v1) (e2 : U3 = up_ U2 K 0 b v2) (h1 : v1 = wr_ (U K 0 a - f)) (h2 : v2 = wr_ (U2 K 0 b - g)) (ba : -1000000000 ≤ U K 0 a ∧ U K 0 a ≤ 1000000000) (bb : -1000000000 ≤ U K 0 b ∧ U K 0 b ≤ 1000000000) (bf : -1000000 ≤ f ∧ f ≤ 1000000) (bg : -1000000 ≤ g ∧ g ≤ 1000000) : ∀ v, U3 K 0 v = U K 0 v - (if v = a then f else 0) - (if v = b then g else 0) := fun v => by
  rw [wr_9 (by omega)] at h1
  have s1 : ∀ x, U2 K 0 x = U K 0 x - (if x = a then f else 0) := fun x => by
    by_cases z : x = a
    · rw [if_pos z, z, up_f e1, h1]
    · rw [if_neg z, up_g e1 (fun q => z q.2.2), Int.sub_zero]
  have c1 := s1 b
  have c2 : -1000000 ≤ (if b = a then f else 0) ∧ (if b = a then f else 0) ≤ 1000000 := by
    by_cases z : b = a
    · rw [if_pos z]; exact bf
    · rw [if_neg z]; decide
  rw [wr_9 (by omega)] at h2
  by_cases z : v = b
  · rw [if_pos z, z, up_f e2, h2, s1]
  · rw [if_neg z, up_g e2 (fun q => z q.2.2), s1, Int.sub_zero]
theorem bk_X11_isRowWell_e_176 : ck_ fX11 (some .boolean) cX11_isRowWell 176 [.iload 6, .aload 0, .tableswitch 0 11 8 #[], .iload 1, .iaload, .if_icmp .ge 225, .iload 5, .ifCond .eq 216, .aload 0, .tableswitch 0 11 93 #[], .aload 0, .tableswitch 0 11 7 #[], .iconst 12, .iload 1, .imul, .iload 6, .iadd, .iaload, .iaload, .ifCond .lt 216, .iconst 1, .goto 217] 216 = true := qck_r (nn_ _) (by decide +kernel)
theorem bs_X11_isRowWell_e_176 {P : Zt → Option Zv → Prop} (K : Int → Zl → List Zv → Zt → Prop) : sx_ K P [.iload 6, .aload 0, .tableswitch 0 11 8 #[], .iload 1, .iaload, .if_icmp .ge 225, .iload 5, .ifCond .eq 216, .aload 0, .tableswitch 0 11 93 #[], .aload 0, .tableswitch 0 11 7 #[], .iconst 12, .iload 1, .imul, .iload 6, .iadd, .iaload, .iaload, .ifCond .lt 216, .iconst 1, .goto 217] 216 = x_iload 6 (x_aload 0 (x_g1 111 208 (x_iload 1 (x_iaload (x_if_icmp .ge 225 K (x_iload 5 (x_ifCond .eq 216 K (x_aload 0 (x_g1 111 293 (x_aload 0 (x_g1 111 207 (x_iconst 12 (x_iload 1 (x_imul (x_iload 6 (x_iadd (x_iaload (x_iaload (x_ifCond .lt 216 K (x_iconst 1 (x_goto 217 K))))))))))))))))))))) := ((xe_iload 6).trans (congrArg (x_iload 6) ((xe_aload 0).trans (congrArg (x_aload 0) ((xe_g1 (kk := 111) rfl tl_11_8).trans (congrArg (x_g1 111 208) ((xe_iload 1).trans (congrArg (x_iload 1) ((xe_iaload).trans (congrArg (x_iaload) ((xe_if_icmp .ge 225).trans (congrArg (x_if_icmp .ge 225 K) ((xe_iload 5).trans (congrArg (x_iload 5) ((xe_ifCond .eq 216).trans (congrArg (x_ifCond .eq 216 K) ((xe_aload 0).trans (congrArg (x_aload 0) ((xe_g1 (kk := 111) rfl tl_11_93).trans (congrArg (x_g1 111 293) ((xe_aload 0).trans (congrArg (x_aload 0) ((xe_g1 (kk := 111) rfl tl_11_7).trans (congrArg (x_g1 111 207) ((xe_iconst 12).trans (congrArg (x_iconst 12) ((xe_iload 1).trans (congrArg (x_iload 1) ((xe_imul).trans (congrArg (x_imul) ((xe_iload 6).trans (congrArg (x_iload 6) ((xe_iadd).trans (congrArg (x_iadd) ((xe_iaload).trans (congrArg (x_iaload) ((xe_iaload).trans (congrArg (x_iaload) ((xe_ifCond .lt 216).trans (congrArg (x_ifCond .lt 216 K) ((xe_iconst 1).trans (congrArg (x_iconst 1) (xe_goto 217)))))))))))))))))))))))))))))))))))))))))))
theorem bk_X11_isRowWell_e_225 : ck_ fX11 (some .boolean) cX11_isRowWell 225 [.iload 5, .ireturn] 228 = true := qck_r (nn_ _) (by decide +kernel)
theorem bs_X11_isRowWell_e_225 {P : Zt → Option Zv → Prop} (K : Int → Zl → List Zv → Zt → Prop) : sx_ K P [.iload 5, .ireturn] 228 = x_iload 5 (x_ireturn P) := ((xe_iload 5).trans (congrArg (x_iload 5) (xe_ireturn)))
theorem bk_X11_isRowWell_e_216 : ck_ fX11 (some .boolean) cX11_isRowWell 216 [.iconst 0, .istore 5, .iinc 6 1, .goto 176] 225 = true := qck_r (nn_ _) (by decide +kernel)
theorem bs_X11_isRowWell_e_216 {P : Zt → Option Zv → Prop} (K : Int → Zl → List Zv → Zt → Prop) : sx_ K P [.iconst 0, .istore 5, .iinc 6 1, .goto 176] 225 = x_iconst 0 (x_istore 5 (x_iinc 6 1 (x_goto 176 K))) := ((xe_iconst 0).trans (congrArg (x_iconst 0) ((xe_istore 5).trans (congrArg (x_istore 5) ((xe_iinc 6 1).trans (congrArg (x_iinc 6 1) (xe_goto 176)))))))
theorem bk_X11_isRowWell_e_217 : ck_ fX11 (some .boolean) cX11_isRowWell 217 [.istore 5, .iinc 6 1, .goto 176] 225 = true := qck_r (nn_ _) (by decide +kernel)
theorem bs_X11_isRowWell_e_217 {P : Zt → Option Zv → Prop} (K : Int → Zl → List Zv → Zt → Prop) : sx_ K P [.istore 5, .iinc 6 1, .goto 176] 225 = x_istore 5 (x_iinc 6 1 (x_goto 176 K)) := ((xe_istore 5).trans (congrArg (x_istore 5) ((xe_iinc 6 1).trans (congrArg (x_iinc 6 1) (xe_goto 176)))))
theorem bk_X11_isRowWell_e_43 : ck_ fX11 (some .boolean) cX11_isRowWell 43 [.iload 5, .ifCond .lt 170, .iload 4, .iconst 3, .irem, .istore 6, .iload 4, .iconst 3, .idiv, .istore 4, .aload 0, .tableswitch 0 11 89 #[], .aload 0, .tableswitch 0 11 97 #[], .iload 5, .iaload, .iload 6, .iastore, .aload 0, .tableswitch 0 11 93 #[], .aload 0, .tableswitch 0 11 32 #[], .aload 0, .tableswitch 0 11 97 #[], .iload 5, .iaload, .iaload, .dup2, .iaload, .aload 0, .iload 1, .iload 6, .ifCond .ne 103, .iconst 1, .goto 114] 103 = true := qck_r (nn_ _) (by decide +kernel)
theorem bs_X11_isRowWell_e_43 {P : Zt → Option Zv → Prop} (K : Int → Zl → List Zv → Zt → Prop) : sx_ K P [.iload 5, .ifCond .lt 170, .iload 4, .iconst 3, .irem, .istore 6, .iload 4, .iconst 3, .idiv, .istore 4, .aload 0, .tableswitch 0 11 89 #[], .aload 0, .tableswitch 0 11 97 #[], .iload 5, .iaload, .iload 6, .iastore, .aload 0, .tableswitch 0 11 93 #[], .aload 0, .tableswitch 0 11 32 #[], .aload 0, .tableswitch 0 11 97 #[], .iload 5, .iaload, .iaload, .dup2, .iaload, .aload 0, .iload 1, .iload 6, .ifCond .ne 103, .iconst 1, .goto 114] 103 = x_iload 5 (x_ifCond .lt 170 K (x_iload 4 (x_iconst 3 (x_irem (x_istore 6 (x_iload 4 (x_iconst 3 (x_idiv (x_istore 4 (x_aload 0 (x_g1 111 289 (x_aload 0 (x_g1 111 297 (x_iload 5 (x_iaload (x_iload 6 (x_iastore (x_aload 0 (x_g1 111 293 (x_aload 0 (x_g1 111 232 (x_aload 0 (x_g1 111 297 (x_iload 5 (x_iaload (x_iaload (x_dup2 (x_iaload (x_aload 0 (x_iload 1 (x_iload 6 (x_ifCond .ne 103 K (x_iconst 1 (x_goto 114 K)))))))))))))))))))))))))))))))))) := ((xe_iload 5).trans (congrArg (x_iload 5) ((xe_ifCond .lt 170).trans (congrArg (x_ifCond .lt 170 K) ((xe_iload 4).trans (congrArg (x_iload 4) ((xe_iconst 3).trans (congrArg (x_iconst 3) ((xe_irem).trans (congrArg (x_irem) ((xe_istore 6).trans (congrArg (x_istore 6) ((xe_iload 4).trans (congrArg (x_iload 4) ((xe_iconst 3).trans (congrArg (x_iconst 3) ((xe_idiv).trans (congrArg (x_idiv) ((xe_istore 4).trans (congrArg (x_istore 4) ((xe_aload 0).trans (congrArg (x_aload 0) ((xe_g1 (kk := 111) rfl tl_11_89).trans (congrArg (x_g1 111 289) ((xe_aload 0).trans (congrArg (x_aload 0) ((xe_g1 (kk := 111) rfl tl_11_97).trans (congrArg (x_g1 111 297) ((xe_iload 5).trans (congrArg (x_iload 5) ((xe_iaload).trans (congrArg (x_iaload) ((xe_iload 6).trans (congrArg (x_iload 6) ((xe_iastore).trans (congrArg (x_iastore) ((xe_aload 0).trans (congrArg (x_aload 0) ((xe_g1 (kk := 111) rfl tl_11_93).trans (congrArg (x_g1 111 293) ((xe_aload 0).trans (congrArg (x_aload 0) ((xe_g1 (kk := 111) rfl tl_11_32).trans (congrArg (x_g1 111 232) ((xe_aload 0).trans (congrArg (x_aload 0) ((xe_g1 (kk := 111) rfl tl_11_97).trans (congrArg (x_g1 111 297) ((xe_iload 5).trans (congrArg (x_iload 5) ((xe_iaload).trans (congrArg (x_iaload) ((xe_iaload).trans (congrArg (x_iaload) ((xe_dup2).trans (congrArg (x_dup2) ((xe_iaload).trans (congrArg (x_iaload) ((xe_aload 0).trans (congrArg (x_aload 0) ((xe_iload 1).trans (congrArg (x_iload 1) ((xe_iload 6).trans (congrArg (x_iload 6) ((xe_ifCond .ne 103).trans (congrArg (x_ifCond .ne 103 K) ((xe_iconst 1).trans (congrArg (x_iconst 1) (xe_goto 114)))))))))))))))))))))))))))))))))))))))))))))))))))))))))))))))))))))
theorem bk_X11_isRowWell_e_170 : ck_ fX11 (some .boolean) cX11_isRowWell 170 [.iconst 1, .istore 5, .iconst 0, .istore 6] 176 = true := qck_r (nn_ _) (by decide +kernel)
theorem bs_X11_isRowWell_e_170 {P : Zt → Option Zv → Prop} (K : Int → Zl → List Zv → Zt → Prop) : sx_ K P [.iconst 1, .istore 5, .iconst 0, .istore 6] 176 = x_iconst 1 (x_istore 5 (x_iconst 0 (x_istore 6 (K 176)))) := ((xe_iconst 1).trans (congrArg (x_iconst 1) ((xe_istore 5).trans (congrArg (x_istore 5) ((xe_iconst 0).trans (congrArg (x_iconst 0) ((xe_istore 6).trans (congrArg (x_istore 6) xe_nil))))))))
theorem bk_X11_isRowWell_e_103 : ck_ fX11 (some .boolean) cX11_isRowWell 103 [.iload 6, .iconst 1, .if_icmp .ne 113, .iconst 2, .goto 114] 113 = true := qck_r (nn_ _) (by decide +kernel)
theorem bs_X11_isRowWell_e_103 {P : Zt → Option Zv → Prop} (K : Int → Zl → List Zv → Zt → Prop) : sx_ K P [.iload 6, .iconst 1, .if_icmp .ne 113, .iconst 2, .goto 114] 113 = x_iload 6 (x_iconst 1 (x_if_icmp .ne 113 K (x_iconst 2 (x_goto 114 K)))) := ((xe_iload 6).trans (congrArg (x_iload 6) ((xe_iconst 1).trans (congrArg (x_iconst 1) ((xe_if_icmp .ne 113).trans (congrArg (x_if_icmp .ne 113 K) ((xe_iconst 2).trans (congrArg (x_iconst 2) (xe_goto 114)))))))))
theorem bk_X11_isRowWell_e_113 : ck_ fX11 (some .boolean) cX11_isRowWell 113 [.iconst 3] 114 = true := qck_r (nn_ _) (by decide +kernel)
theorem bs_X11_isRowWell_e_113 {P : Zt → Option Zv → Prop} (K : Int → Zl → List Zv → Zt → Prop) : sx_ K P [.iconst 3] 114 = x_iconst 3 (K 114) := ((xe_iconst 3).trans (congrArg (x_iconst 3) xe_nil))
theorem bk_X11_isRowWell_e_117 : ck_ fX11 (some .boolean) cX11_isRowWell 117 [.fsub, .iastore, .aload 0, .tableswitch 0 11 93 #[], .aload 0, .tableswitch 0 11 33 #[], .aload 0, .tableswitch 0 11 97 #[], .iload 5, .iaload, .iaload, .dup2, .iaload, .aload 0, .iload 1, .iload 6, .ifCond .ne 148, .iconst 3, .goto 159] 148 = true := qck_r (nn_ _) (by decide +kernel)
theorem bs_X11_isRowWell_e_117 {P : Zt → Option Zv → Prop} (K : Int → Zl → List Zv → Zt → Prop) : sx_ K P [.fsub, .iastore, .aload 0, .tableswitch 0 11 93 #[], .aload 0, .tableswitch 0 11 33 #[], .aload 0, .tableswitch 0 11 97 #[], .iload 5, .iaload, .iaload, .dup2, .iaload, .aload 0, .iload 1, .iload 6, .ifCond .ne 148, .iconst 3, .goto 159] 148 = x_fsub (x_iastore (x_aload 0 (x_g1 111 293 (x_aload 0 (x_g1 111 233 (x_aload 0 (x_g1 111 297 (x_iload 5 (x_iaload (x_iaload (x_dup2 (x_iaload (x_aload 0 (x_iload 1 (x_iload 6 (x_ifCond .ne 148 K (x_iconst 3 (x_goto 159 K)))))))))))))))))) := ((xe_fsub).trans (congrArg (x_fsub) ((xe_iastore).trans (congrArg (x_iastore) ((xe_aload 0).trans (congrArg (x_aload 0) ((xe_g1 (kk := 111) rfl tl_11_93).trans (congrArg (x_g1 111 293) ((xe_aload 0).trans (congrArg (x_aload 0) ((xe_g1 (kk := 111) rfl tl_11_33).trans (congrArg (x_g1 111 233) ((xe_aload 0).trans (congrArg (x_aload 0) ((xe_g1 (kk := 111) rfl tl_11_97).trans (congrArg (x_g1 111 297) ((xe_iload 5).trans (congrArg (x_iload 5) ((xe_iaload).trans (congrArg (x_iaload) ((xe_iaload).trans (congrArg (x_iaload) ((xe_dup2).trans (congrArg (x_dup2) ((xe_iaload).trans (congrArg (x_iaload) ((xe_aload 0).trans (congrArg (x_aload 0) ((xe_iload 1).trans (congrArg (x_iload 1) ((xe_iload 6).trans (congrArg (x_iload 6) ((xe_ifCond .ne 148).trans (congrArg (x_ifCond .ne 148 K) ((xe_iconst 3).trans (congrArg (x_iconst 3) (xe_goto 159)))))))))))))))))))))))))))))))))))))
theorem bk_X11_isRowWell_e_148 : ck_ fX11 (some .boolean) cX11_isRowWell 148 [.iload 6, .iconst 1, .if_icmp .ne 158, .iconst 2, .goto 159] 158 = true := qck_r (nn_ _) (by decide +kernel)
theorem bs_X11_isRowWell_e_148 {P : Zt → Option Zv → Prop} (K : Int → Zl → List Zv → Zt → Prop) : sx_ K P [.iload 6, .iconst 1, .if_icmp .ne 158, .iconst 2, .goto 159] 158 = x_iload 6 (x_iconst 1 (x_if_icmp .ne 158 K (x_iconst 2 (x_goto 159 K)))) := ((xe_iload 6).trans (congrArg (x_iload 6) ((xe_iconst 1).trans (congrArg (x_iconst 1) ((xe_if_icmp .ne 158).trans (congrArg (x_if_icmp .ne 158 K) ((xe_iconst 2).trans (congrArg (x_iconst 2) (xe_goto 159)))))))))
theorem bk_X11_isRowWell_e_158 : ck_ fX11 (some .boolean) cX11_isRowWell 158 [.iconst 1] 159 = true := qck_r (nn_ _) (by decide +kernel)
theorem bs_X11_isRowWell_e_158 {P : Zt → Option Zv → Prop} (K : Int → Zl → List Zv → Zt → Prop) : sx_ K P [.iconst 1] 159 = x_iconst 1 (K 159) := ((xe_iconst 1).trans (congrArg (x_iconst 1) xe_nil))
theorem bk_X11_isRowWell_e_162 : ck_ fX11 (some .boolean) cX11_isRowWell 162 [.fsub, .iastore, .iinc 5 (-1), .goto 43] 170 = true := qck_r (nn_ _) (by decide +kernel)
theorem bs_X11_isRowWell_e_162 {P : Zt → Option Zv → Prop} (K : Int → Zl → List Zv → Zt → Prop) : sx_ K P [.fsub, .iastore, .iinc 5 (-1), .goto 43] 170 = x_fsub (x_iastore (x_iinc 5 (-1) (x_goto 43 K))) := ((xe_fsub).trans (congrArg (x_fsub) ((xe_iastore).trans (congrArg (x_iastore) ((xe_iinc 5 (-1)).trans (congrArg (x_iinc 5 (-1)) (xe_goto 43)))))))
theorem bk_X11_isRowWell_e_3 : ck_ fX11 (some .boolean) cX11_isRowWell 3 [.iload 4, .iconst 12, .if_icmp .ge 35, .aload 0, .tableswitch 0 11 93 #[], .iload 4, .aload 0, .tableswitch 0 11 95 #[], .aload 0, .tableswitch 0 11 91 #[], .iload 4, .iaload, .fsub, .iastore, .iinc 4 1, .goto 3] 35 = true := qck_r (nn_ _) (by decide +kernel)
theorem bs_X11_isRowWell_e_3 {P : Zt → Option Zv → Prop} (K : Int → Zl → List Zv → Zt → Prop) : sx_ K P [.iload 4, .iconst 12, .if_icmp .ge 35, .aload 0, .tableswitch 0 11 93 #[], .iload 4, .aload 0, .tableswitch 0 11 95 #[], .aload 0, .tableswitch 0 11 91 #[], .iload 4, .iaload, .fsub, .iastore, .iinc 4 1, .goto 3] 35 = x_iload 4 (x_iconst 12 (x_if_icmp .ge 35 K (x_aload 0 (x_g1 111 293 (x_iload 4 (x_aload 0 (x_g0 111 95 (-2147483648) 2147483647 (x_aload 0 (x_g1 111 291 (x_iload 4 (x_iaload (x_fsub (x_iastore (x_iinc 4 1 (x_goto 3 K))))))))))))))) := ((xe_iload 4).trans (congrArg (x_iload 4) ((xe_iconst 12).trans (congrArg (x_iconst 12) ((xe_if_icmp .ge 35).trans (congrArg (x_if_icmp .ge 35 K) ((xe_aload 0).trans (congrArg (x_aload 0) ((xe_g1 (kk := 111) rfl tl_11_93).trans (congrArg (x_g1 111 293) ((xe_iload 4).trans (congrArg (x_iload 4) ((xe_aload 0).trans (congrArg (x_aload 0) ((xe_g0 (kk := 111) rfl tl_11_95).trans (congrArg (x_g0 111 95 (-2147483648) 2147483647) ((xe_aload 0).trans (congrArg (x_aload 0) ((xe_g1 (kk := 111) rfl tl_11_91).trans (congrArg (x_g1 111 291) ((xe_iload 4).trans (congrArg (x_iload 4) ((xe_iaload).trans (congrArg (x_iaload) ((xe_fsub).trans (congrArg (x_fsub) ((xe_iastore).trans (congrArg (x_iastore) ((xe_iinc 4 1).trans (congrArg (x_iinc 4 1) (xe_goto 3)))))))))))))))))))))))))))))))
theorem bk_X11_isRowWell_e_35 : ck_ fX11 (some .boolean) cX11_isRowWell 35 [.iload 3, .istore 4, .iload 2, .iconst 1, .isub, .istore 5] 43 = true := qck_r (nn_ _) (by decide +kernel)
theorem bs_X11_isRowWell_e_35 {P : Zt → Option Zv → Prop} (K : Int → Zl → List Zv → Zt → Prop) : sx_ K P [.iload 3, .istore 4, .iload 2, .iconst 1, .isub, .istore 5] 43 = x_iload 3 (x_istore 4 (x_iload 2 (x_iconst 1 (x_isub (x_istore 5 (K 43)))))) := ((xe_iload 3).trans (congrArg (x_iload 3) ((xe_istore 4).trans (congrArg (x_istore 4) ((xe_iload 2).trans (congrArg (x_iload 2) ((xe_iconst 1).trans (congrArg (x_iconst 1) ((xe_isub).trans (congrArg (x_isub) ((xe_istore 5).trans (congrArg (x_istore 5) xe_nil))))))))))))
theorem bk_X11_isRowWell_e_0 : ck_ fX11 (some .boolean) cX11_isRowWell 0 [.iconst 0, .istore 4] 3 = true := qck_r (nn_ _) (by decide +kernel)
theorem bs_X11_isRowWell_e_0 {P : Zt → Option Zv → Prop} (K : Int → Zl → List Zv → Zt → Prop) : sx_ K P [.iconst 0, .istore 4] 3 = x_iconst 0 (x_istore 4 (K 3)) := ((xe_iconst 0).trans (congrArg (x_iconst 0) ((xe_istore 4).trans (congrArg (x_istore 4) xe_nil))))
abbrev po_X11_isRowWell_e (T : Zt) (c n q9 : Int) : Zt → Option Zv → Prop := fun T' r => ∃ x : Int, r = some (vI x) ∧ fr_ [(293, []), (289, [])] T T' ∧ (((x = 1 ∧ ok7_ (fun w => T 205 0 (23 * c + w)) (fun j => T 232 0 (T 297 0 j)) (fun j => T 233 0 (T 297 0 j)) (fun v => ∃ i9 : Int, (0 ≤ i9 ∧ i9 < T 208 0 c) ∧ T 207 0 (12 * c + i9) = v) (T 111 0 95) (dw7_ n.toNat (q9 % 3 ^ n.toNat)) 0 (fun v => T 291 0 v)) ∨ (x = 0 ∧ ¬ ok7_ (fun w => T 205 0 (23 * c + w)) (fun j => T 232 0 (T 297 0 j)) (fun j => T 233 0 (T 297 0 j)) (fun v => ∃ i9 : Int, (0 ≤ i9 ∧ i9 < T 208 0 c) ∧ T 207 0 (12 * c + i9) = v) (T 111 0 95) (dw7_ n.toNat (q9 % 3 ^ n.toNat)) 0 (fun v => T 291 0 v))) ∧ la7_ (fun j => T' 289 0 (T 297 0 j)) n.toNat 0 = dw7_ n.toNat (q9 % 3 ^ n.toNat) ∧ ∀ y, (∀ j, 0 ≤ j → j < n → y ≠ T 297 0 j) → T' 289 0 y = T 289 0 y)
set_option maxHeartbeats 4000000 in
theorem ct_X11_isRowWell_e {T : Zt} {c n q9 : Int} (h1 : 0 ≤ c ∧ c < 4) (h2 : 0 ≤ n ∧ n ≤ 8) (h3 : 0 ≤ q9) (hrl : ∀ w, 1 ≤ w ∧ w ≤ 3 → 0 ≤ (fun w => T 205 0 (23 * c + w)) w ∧ (fun w => T 205 0 (23 * c + w)) w ≤ 1000) (hpb : ∀ v, 0 ≤ v → v < 12 → -9000000 ≤ T 291 0 v ∧ T 291 0 v ≤ 9000000) (hbe : -9000000 ≤ T 111 0 95 ∧ T 111 0 95 ≤ 9000000) (hop : ∀ a b, 0 ≤ a → a < b → b < n → T 297 0 a ≠ T 297 0 b) (hen : ∀ i, 0 ≤ i → i < T 208 0 c → 0 ≤ T 207 0 (12 * c + i) ∧ T 207 0 (12 * c + i) < 12) : Ct_ yX11_isRowWell zX11_isRowWell T [vR 111 0, vI c, vI n, vI q9] (po_X11_isRowWell_e T c n q9) := by
  refine ct_of pn_11 rfl rfl (Nat.le_of_ble_eq_true rfl) (fun hT hav => ?_)
  have hr_c : -2147483648 ≤ c ∧ c ≤ 2147483647 := hav (vI c) (List.mem_cons_of_mem _ List.mem_cons_self)
  have hr_n : -2147483648 ≤ n ∧ n ≤ 2147483647 := hav (vI n) (List.mem_cons_of_mem _ (List.mem_cons_of_mem _ List.mem_cons_self))
  have hr_q9 : -2147483648 ≤ q9 ∧ q9 ≤ 2147483647 := hav (vI q9) (List.mem_cons_of_mem _ (List.mem_cons_of_mem _ (List.mem_cons_of_mem _ List.mem_cons_self)))
  have hz : zX11_isRowWell.2.2.2.1 = some .boolean → ∀ (T' : Zt) (x : Int), po_X11_isRowWell_e T c n q9 T' (some (vI x)) → 0 ≤ x ∧ x ≤ 1 := fun _ T' x h => by obtain ⟨y, e, -, hy, -⟩ := h; cases e; rcases hy with ⟨z, -⟩ | ⟨z, -⟩ <;> omega
  have hed : 0 ≤ T 208 0 c ∧ T 208 0 c ≤ 12 := bd_a hT 208 (by decide +kernel : ta_ 208 = some (1, some 4, 0, 12)) 0 (by omega)
  show J_ zX11_isRowWell T (po_X11_isRowWell_e T c n q9) 0 0 0 [some (vR 111 0), some (vI c), some (vI n), some (vI q9), none, none, none] [] T
  have c_176 : ∀ (nn : Nat) (w : Int) (i : Int) (T3 : Zt), ((12 - i).toNat) ≤ nn → (fr_ [(293, []), (289, [])] T T3) → (0 ≤ i ∧ i ≤ T 208 0 c) → ((w = 1 ∧ ∀ j, 0 ≤ j → j < i → 0 ≤ T3 293 0 (T 207 0 (12 * c + j))) ∨ (w = 0 ∧ ∃ j, (0 ≤ j ∧ j < i) ∧ T3 293 0 (T 207 0 (12 * c + j)) < 0)) → (∀ v, 0 ≤ v → v < 12 → T3 293 0 v = T 111 0 95 - T 291 0 v - gs7_ (fun w => T 205 0 (23 * c + w)) (fun j => T 232 0 (T 297 0 j)) (fun j => T 233 0 (T 297 0 j)) (dw7_ n.toNat (q9 % 3 ^ n.toNat)) 0 v) → (la7_ (fun j => T3 289 0 (T 297 0 j)) n.toNat 0 = dw7_ n.toNat (q9 % 3 ^ n.toNat)) → (∀ y, (∀ j, 0 ≤ j → j < n → y ≠ T 297 0 j) → T3 289 0 y = T 289 0 y) → J_ zX11_isRowWell T (po_X11_isRowWell_e T c n q9) 0 0 176 [some (vR 111 0), some (vI c), some (vI n), some (vI q9), none, some (vI w), some (vI i)] [] T3 := by
    intro nn
    induction nn using Nat.strongRecOn with
    | _ nn ih_176 =>
      intro w i T3 hm_176 hf_176 i3 w3 sp3 wi3 wo3
      replace hm_176 := fun (_ : Unit) => hm_176
      refine j_blx (F := fX11) tb_X11 (nn_ _) bk_X11_isRowWell_e_176 bs_X11_isRowWell_e_176 hz (fun K hK => ?_)
      refine ix_i (by omega) ?_
      intro b1 b1b
      have e2 : T3 208 0 c = T 208 0 c := hf_176 208 0 c rfl
      rw [e2] at b1 b1b ⊢
      refine And.intro (fun c3 => ?_) (fun c3 => ?_)
      · refine hK 225 _ [] T3 ?_
        refine j_blx (F := fX11) tb_X11 (nn_ _) bk_X11_isRowWell_e_225 bs_X11_isRowWell_e_225 hz (fun K hK => ?_)
        refine (show po_X11_isRowWell_e T c n q9 T3 (some (vI w)) from ?_)
        have fin : (w = 1 ∧ ok7_ (fun w => T 205 0 (23 * c + w)) (fun j => T 232 0 (T 297 0 j)) (fun j => T 233 0 (T 297 0 j)) (fun v => ∃ i9 : Int, (0 ≤ i9 ∧ i9 < T 208 0 c) ∧ T 207 0 (12 * c + i9) = v) (T 111 0 95) (dw7_ n.toNat (q9 % 3 ^ n.toNat)) 0 (fun v => T 291 0 v)) ∨ (w = 0 ∧ ¬ ok7_ (fun w => T 205 0 (23 * c + w)) (fun j => T 232 0 (T 297 0 j)) (fun j => T 233 0 (T 297 0 j)) (fun v => ∃ i9 : Int, (0 ≤ i9 ∧ i9 < T 208 0 c) ∧ T 207 0 (12 * c + i9) = v) (T 111 0 95) (dw7_ n.toNat (q9 % 3 ^ n.toNat)) 0 (fun v => T 291 0 v)) := by
          rw [ok7_g]
          rcases w3 with ⟨z, g⟩ | ⟨z, j, g1, g2⟩
          · refine Or.inl ⟨z, fun v ⟨i9, a, b⟩ => ?_⟩
            have y := g i9 a.1 (by omega)
            rw [b] at y
            have yb := hen i9 a.1 a.2
            rw [b] at yb
            rw [sp3 v (by omega) (by omega)] at y
            show T 291 0 v + _ ≤ _
            omega
          · refine Or.inr ⟨z, fun q => ?_⟩
            have yb := hen j (by omega) (by omega)
            have y := q (T 207 0 (12 * c + j)) ⟨j, by omega, rfl⟩
            have y2 := sp3 (T 207 0 (12 * c + j)) (by omega) (by omega)
            have y3 : T 291 0 (T 207 0 (12 * c + j)) + _ ≤ _ := y
            omega
        exact ⟨_, rfl, fr_t (fr_0 _ _) (fr_s hf_176 rfl), fin, wi3, wo3⟩
      · refine And.intro (fun c4 => ?_) (fun c4 => ?_)
        · refine hK 216 _ [] T3 ?_
          refine j_blx (F := fX11) tb_X11 (nn_ _) bk_X11_isRowWell_e_216 bs_X11_isRowWell_e_216 hz (fun K hK => ?_)
          refine rg_i (by omega) ?_
          refine hK 176 [some (vR 111 0), some (vI c), some (vI n), some (vI q9), none, some (vI 0), some (vI (i + 1))] [] T3 ?_
          refine ih_176 _ ?_ 0 (i + 1) T3 (Nat.le_refl _) ?_ ?_ ?_ ?_ ?_ ?_
          · have hm_176 := hm_176 (); (clear w3; omega)
          · exact fr_t (fr_0 _ _) (fr_s hf_176 rfl)
          · omega
          · first
            | exact Or.inr ⟨rfl, i, by omega, by omega⟩
            | (obtain ⟨y1, j, y2, y3⟩ := w3.resolve_left (fun y => by have y1 := y.1; omega); exact Or.inr ⟨rfl, j, by omega, y3⟩)
          · exact sp3
          · exact wi3
          · exact wo3
        · refine rg_i (by omega) ?_
          refine rg_i (by omega) ?_
          refine ix_i (by omega) ?_
          intro b5 b5b
          have e6 : T3 207 0 ((12 * c) + i) = T 207 0 ((12 * c) + i) := hf_176 207 0 ((12 * c) + i) rfl
          rw [e6] at b5 b5b ⊢
          refine ix_i (by omega) ?_
          intro b7 b7b
          refine And.intro (fun c8 => ?_) (fun c8 => ?_)
          · refine hK 216 [some (vR 111 0), some (vI c), some (vI n), some (vI q9), none, some (vI w), some (vI i)] [] T3 ?_
            refine j_blx (F := fX11) tb_X11 (nn_ _) bk_X11_isRowWell_e_216 bs_X11_isRowWell_e_216 hz (fun K hK => ?_)
            refine rg_i (by omega) ?_
            refine hK 176 [some (vR 111 0), some (vI c), some (vI n), some (vI q9), none, some (vI 0), some (vI (i + 1))] [] T3 ?_
            refine ih_176 _ ?_ 0 (i + 1) T3 (Nat.le_refl _) ?_ ?_ ?_ ?_ ?_ ?_
            · have hm_176 := hm_176 (); (clear w3; omega)
            · exact fr_t (fr_0 _ _) (fr_s hf_176 rfl)
            · omega
            · first
              | exact Or.inr ⟨rfl, i, by omega, by omega⟩
              | (obtain ⟨y1, j, y2, y3⟩ := w3.resolve_left (fun y => by have y1 := y.1; omega); exact Or.inr ⟨rfl, j, by omega, y3⟩)
            · exact sp3
            · exact wi3
            · exact wo3
          · refine hK 217 [some (vR 111 0), some (vI c), some (vI n), some (vI q9), none, some (vI w), some (vI i)] [vI 1] T3 ?_
            refine j_blx (F := fX11) tb_X11 (nn_ _) bk_X11_isRowWell_e_217 bs_X11_isRowWell_e_217 hz (fun K hK => ?_)
            refine rg_i (by omega) ?_
            refine hK 176 [some (vR 111 0), some (vI c), some (vI n), some (vI q9), none, some (vI 1), some (vI (i + 1))] [] T3 ?_
            refine ih_176 _ ?_ 1 (i + 1) T3 (Nat.le_refl _) ?_ ?_ ?_ ?_ ?_ ?_
            · have hm_176 := hm_176 (); (clear w3; omega)
            · exact fr_t (fr_0 _ _) (fr_s hf_176 rfl)
            · omega
            · refine Or.inl ⟨rfl, fun j a b => ?_⟩
              by_cases z : j = i
              · rw [z]; omega
              · exact (w3.resolve_right (fun y => by have y1 := y.1; omega)).2 j a (by omega)
            · exact sp3
            · exact wi3
            · exact wo3
  have c_43 : ∀ (nn : Nat) (re : Int) (k : Int) (T2 : Zt), ((k + 1).toNat) ≤ nn → (fr_ [(293, []), (289, [])] T T2) → (0 ≤ re ∧ -1 ≤ k ∧ k ≤ n - 1) → (re = q9 / 3 ^ (n - 1 - k).toNat) → (∀ v, 0 ≤ v → v < 12 → T2 293 0 v = T 111 0 95 - T 291 0 v - gs7_ (fun w => T 205 0 (23 * c + w)) (fun j => T 232 0 (T 297 0 j)) (fun j => T 233 0 (T 297 0 j)) (dw7_ (n - 1 - k).toNat (q9 % 3 ^ (n - 1 - k).toNat)) (k + 1) v) → (la7_ (fun j => T2 289 0 (T 297 0 j)) (n - 1 - k).toNat (k + 1) = dw7_ (n - 1 - k).toNat (q9 % 3 ^ (n - 1 - k).toNat)) → (∀ y, (∀ j, k < j → j < n → y ≠ T 297 0 j) → T2 289 0 y = T 289 0 y) → J_ zX11_isRowWell T (po_X11_isRowWell_e T c n q9) 0 0 43 [some (vR 111 0), some (vI c), some (vI n), some (vI q9), some (vI re), some (vI k), none] [] T2 := by
    intro nn
    induction nn using Nat.strongRecOn with
    | _ nn ih_43 =>
      intro re k T2 hm_43 hf_43 i2 re2 sp2 wi2 wo2
      replace hm_43 := fun (_ : Unit) => hm_43
      refine j_blx (F := fX11) tb_X11 (nn_ _) bk_X11_isRowWell_e_43 bs_X11_isRowWell_e_43 hz (fun K hK => ?_)
      refine And.intro (fun c9 => ?_) (fun c9 => ?_)
      · refine hK 170 _ [] T2 ?_
        refine j_blx (F := fX11) tb_X11 (nn_ _) bk_X11_isRowWell_e_170 bs_X11_isRowWell_e_170 hz (fun K hK => ?_)
        refine hK 176 [some (vR 111 0), some (vI c), some (vI n), some (vI q9), some (vI re), some (vI 1), some (vI 0)] [] T2 ?_
        refine j_drq [some (vR 111 0), some (vI c), some (vI n), some (vI q9), none, some (vI 1), some (vI 0)] (drq_s (drq_s (drq_s (drq_s (drq_n (drq_s (drq_s drq_0))))))) ?_
        refine c_176 _ 1 0 T2 (Nat.le_refl _) ?_ ?_ ?_ ?_ ?_ ?_
        · exact fr_t (fr_0 _ _) (fr_s hf_43 rfl)
        · omega
        · exact Or.inl ⟨rfl, fun j a b => by omega⟩
        · intro v a b
          rw [sp2 v a b, show k = -1 by omega, show (n - 1 - -1).toNat = n.toNat by omega]
          rfl
        · have y := wi2
          rw [show k = -1 by omega, show (n - 1 - -1).toNat = n.toNat by omega] at y
          exact y
        · exact fun y hy => wo2 y (fun j a b => hy j (by omega) b)
      · have w9 : 0 ≤ re % 3 ∧ re % 3 < 3 := ⟨Int.emod_nonneg _ (by decide), Int.emod_lt_of_pos _ (by decide)⟩
        have sb9 : ∀ v, 0 ≤ v → v < 12 → -20000000 ≤ T2 293 0 v ∧ T2 293 0 v ≤ 20000000 := fun v a b => by
          rw [sp2 v a b]
          have y1 := hpb v a b
          have y2 := gs7_b (ru := (fun w => T 205 0 (23 * c + w))) (hs := (fun j => T 232 0 (T 297 0 j))) (aw := (fun j => T 233 0 (T 297 0 j))) hrl (dw7_ (n - 1 - k).toNat (q9 % 3 ^ (n - 1 - k).toNat)) (k + 1) v (dw7_v _ _ (Int.emod_nonneg q9 (by have := p37_ (n - 1 - k).toNat; omega)) (Int.emod_lt_of_pos q9 (p37_ _))).1
          rw [dw7_l] at y2
          omega
        refine dv_i (by omega) ?_
        refine dv_i (by omega) ?_
        refine ix_i (by omega) ?_
        intro b10 b10b
        have e11 : T2 297 0 k = T 297 0 k := hf_43 297 0 k rfl
        rw [e11] at b10 b10b ⊢
        refine iy_i (by omega) (by omega) ?_
        refine x_nm (fun U12 hU12 => ?_)
        have e13 := up_f hU12
        refine ix_i (by omega) ?_
        intro b14 b14b
        have e15 : U12 297 0 k = T 297 0 k := (up_k hU12 (by exact Nat.ne_of_beq_eq_false rfl) 0 k).trans (hf_43 297 0 k rfl)
        rw [e15] at b14 b14b ⊢
        refine ix_i (by omega) ?_
        intro b16 b16b
        have e17 : U12 232 0 (T 297 0 k) = T 232 0 (T 297 0 k) := (up_k hU12 (by exact Nat.ne_of_beq_eq_false rfl) 0 (T 297 0 k)).trans (hf_43 232 0 (T 297 0 k) rfl)
        rw [e17] at b16 b16b ⊢
        refine ix_i (by omega) ?_
        intro b18 b18b
        have e19 : U12 293 0 (T 232 0 (T 297 0 k)) = T2 293 0 (T 232 0 (T 297 0 k)) := up_k hU12 (by exact Nat.ne_of_beq_eq_false rfl) 0 (T 232 0 (T 297 0 k))
        rw [e19] at b18 b18b ⊢
        refine And.intro (fun c20 => ?_) (fun c20 => ?_)
        · refine hK 103 [some (vR 111 0), some (vI c), some (vI n), some (vI q9), some (vI (re / 3)), some (vI k), some (vI (re % 3))] [vI c, vR 111 0, vI (T2 293 0 (T 232 0 (T 297 0 k))), vI (T 232 0 (T 297 0 k)), vR 293 0] U12 ?_
          refine j_blx (F := fX11) tb_X11 (nn_ _) bk_X11_isRowWell_e_103 bs_X11_isRowWell_e_103 hz (fun K hK => ?_)
          refine And.intro (fun c21 => ?_) (fun c21 => ?_)
          · refine hK 113 _ [vI c, vR 111 0, vI (T2 293 0 (T 232 0 (T 297 0 k))), vI (T 232 0 (T 297 0 k)), vR 293 0] U12 ?_
            refine j_blx (F := fX11) tb_X11 (nn_ _) bk_X11_isRowWell_e_113 bs_X11_isRowWell_e_113 hz (fun K hK => ?_)
            refine hK 114 _ [vI 3, vI c, vR 111 0, vI (T2 293 0 (T 232 0 (T 297 0 k))), vI (T 232 0 (T 297 0 k)), vR 293 0] U12 ?_
            refine j_callV (y := yX11_rule0) (Yc := zX11_rule0) (rest := [vI (T2 293 0 (T 232 0 (T 297 0 k))), vI (T 232 0 (T 297 0 k)), vR 293 0]) [vI c, vI 3] (ct_X11_rule0 (T := U12) (by omega) (by omega)) cl_X11_321 (qd_c (by decide +kernel)) (nn_ _) rfl (rf_of rfl) (Nat.le_of_ble_eq_true rfl) (Nat.le_of_ble_eq_true rfl) (Nat.le_of_ble_eq_true rfl) rfl ?_
            rintro _ _ ⟨rfl, rfl⟩
            have e22 : U12 205 0 (23 * c + 3) = T 205 0 (23 * c + 3) := (up_k hU12 (by exact Nat.ne_of_beq_eq_false rfl) 0 (23 * c + 3)).trans (hf_43 205 0 (23 * c + 3) rfl)
            show J_ zX11_isRowWell T (po_X11_isRowWell_e T c n q9) 0 0 117 _ [vI (U12 205 0 (23 * c + 3)), vI (T2 293 0 (T 232 0 (T 297 0 k))), vI (T 232 0 (T 297 0 k)), vR 293 0] U12
            refine j_blx (F := fX11) tb_X11 (nn_ _) bk_X11_isRowWell_e_117 bs_X11_isRowWell_e_117 hz (fun K hK => ?_)
            intro w23 w23b
            refine iy_i (by omega) (by omega) ?_
            refine x_nm (fun U24 hU24 => ?_)
            have e25 := up_f hU24
            refine ix_i (by omega) ?_
            intro b26 b26b
            have e27 : U24 297 0 k = T 297 0 k := (up_k hU24 (by exact Nat.ne_of_beq_eq_false rfl) 0 k).trans ((up_k hU12 (by exact Nat.ne_of_beq_eq_false rfl) 0 k).trans (hf_43 297 0 k rfl))
            rw [e27] at b26 b26b ⊢
            refine ix_i (by omega) ?_
            intro b28 b28b
            have e29 : U24 233 0 (T 297 0 k) = T 233 0 (T 297 0 k) := (up_k hU24 (by exact Nat.ne_of_beq_eq_false rfl) 0 (T 297 0 k)).trans ((up_k hU12 (by exact Nat.ne_of_beq_eq_false rfl) 0 (T 297 0 k)).trans (hf_43 233 0 (T 297 0 k) rfl))
            rw [e29] at b28 b28b ⊢
            refine ix_i (by omega) ?_
            intro b30 b30b
            refine And.intro (fun c31 => ?_) (fun c31 => ?_)
            · refine hK 148 _ [vI c, vR 111 0, vI (U24 293 0 (T 233 0 (T 297 0 k))), vI (T 233 0 (T 297 0 k)), vR 293 0] U24 ?_
              refine j_blx (F := fX11) tb_X11 (nn_ _) bk_X11_isRowWell_e_148 bs_X11_isRowWell_e_148 hz (fun K hK => ?_)
              refine And.intro (fun c32 => ?_) (fun c32 => ?_)
              · refine hK 158 _ [vI c, vR 111 0, vI (U24 293 0 (T 233 0 (T 297 0 k))), vI (T 233 0 (T 297 0 k)), vR 293 0] U24 ?_
                refine j_blx (F := fX11) tb_X11 (nn_ _) bk_X11_isRowWell_e_158 bs_X11_isRowWell_e_158 hz (fun K hK => ?_)
                refine hK 159 _ [vI 1, vI c, vR 111 0, vI (U24 293 0 (T 233 0 (T 297 0 k))), vI (T 233 0 (T 297 0 k)), vR 293 0] U24 ?_
                refine j_callV (y := yX11_rule0) (Yc := zX11_rule0) (rest := [vI (U24 293 0 (T 233 0 (T 297 0 k))), vI (T 233 0 (T 297 0 k)), vR 293 0]) [vI c, vI 1] (ct_X11_rule0 (T := U24) (by omega) (by omega)) cl_X11_321 (qd_c (by decide +kernel)) (nn_ _) rfl (rf_of rfl) (Nat.le_of_ble_eq_true rfl) (Nat.le_of_ble_eq_true rfl) (Nat.le_of_ble_eq_true rfl) rfl ?_
                rintro _ _ ⟨rfl, rfl⟩
                have e33 : U24 205 0 (23 * c + 1) = T 205 0 (23 * c + 1) := (up_k hU24 (by exact Nat.ne_of_beq_eq_false rfl) 0 (23 * c + 1)).trans ((up_k hU12 (by exact Nat.ne_of_beq_eq_false rfl) 0 (23 * c + 1)).trans (hf_43 205 0 (23 * c + 1) rfl))
                show J_ zX11_isRowWell T (po_X11_isRowWell_e T c n q9) 0 0 162 _ [vI (U24 205 0 (23 * c + 1)), vI (U24 293 0 (T 233 0 (T 297 0 k))), vI (T 233 0 (T 297 0 k)), vR 293 0] U24
                refine j_blx (F := fX11) tb_X11 (nn_ _) bk_X11_isRowWell_e_162 bs_X11_isRowWell_e_162 hz (fun K hK => ?_)
                intro w34 w34b
                refine iy_i (by omega) (by omega) ?_
                refine x_nm (fun U35 hU35 => ?_)
                have e36 := up_f hU35
                refine rg_i (by omega) ?_
                refine hK 43 [some (vR 111 0), some (vI c), some (vI n), some (vI q9), some (vI (re / 3)), some (vI (k + (-1))), some (vI (re % 3))] [] U35 ?_
                refine j_drq [some (vR 111 0), some (vI c), some (vI n), some (vI q9), some (vI (re / 3)), some (vI (k + (-1))), none] (drq_s (drq_s (drq_s (drq_s (drq_s (drq_s (drq_n drq_0))))))) ?_
                refine ih_43 _ ?_ (re / 3) (k + (-1)) U35 (Nat.le_refl _) ?_ ?_ ?_ ?_ ?_ ?_
                · have hm_43 := hm_43 (); omega
                · exact fr_u (fr_u (fr_u (fr_t (fr_0 _ _) (fr_s hf_43 rfl)) hU12 rfl) hU24 rfl) hU35 rfl
                · omega
                · rw [show (n - 1 - (k + (-1))).toNat = (n - 1 - k).toNat + 1 by omega, Int.pow_succ, ← Int.ediv_ediv_of_nonneg (Int.le_of_lt (p37_ _)), ← re2]
                · intro v a b
                  have k1 : U12 205 0 (23 * c + 3) = T 205 0 (23 * c + 3) := (up_k hU12 (by exact Nat.ne_of_beq_eq_false rfl) 0 (23 * c + 3)).trans (hf_43 205 0 (23 * c + 3) rfl)
                  have k2 : U24 205 0 (23 * c + 1) = T 205 0 (23 * c + 1) := (up_k hU24 (by exact Nat.ne_of_beq_eq_false rfl) 0 (23 * c + 1)).trans ((up_k hU12 (by exact Nat.ne_of_beq_eq_false rfl) 0 (23 * c + 1)).trans (hf_43 205 0 (23 * c + 1) rfl))
                  have r1 : 0 ≤ T 205 0 (23 * c + 3) ∧ T 205 0 (23 * c + 3) ≤ 1000 := hrl 3 (by decide)
                  have r2 : 0 ≤ T 205 0 (23 * c + 1) ∧ T 205 0 (23 * c + 1) ≤ 1000 := hrl 1 (by decide)
                  have ks : ∀ y, U12 293 0 y = T2 293 0 y := fun y => up_k hU12 (by exact Nat.ne_of_beq_eq_false rfl) 0 y
                  have ga := ga7_u (f := U12 205 0 (23 * c + 3)) (g := U24 205 0 (23 * c + 1)) hU24 hU35 (by rw [ks]) rfl (by rw [ks]; have y := sb9 (T 232 0 (T 297 0 k)) (by omega) (by omega); omega) (by rw [ks]; have y := sb9 (T 233 0 (T 297 0 k)) (by omega) (by omega); omega) (by omega) (by omega) v
                  have hf1 : T 205 0 (23 * c + (1 + re % 3)) = U12 205 0 (23 * c + 3) := by rw [k1, show 23 * c + (1 + re % 3) = 23 * c + 3 by omega]
                  have hf2 : T 205 0 (23 * c + (3 - re % 3)) = U24 205 0 (23 * c + 1) := by rw [k2, show 23 * c + (3 - re % 3) = 23 * c + 1 by omega]
                  rw [ga, ks, sp2 v a b, show (n - 1 - (k + (-1))).toNat = (n - 1 - k).toNat + 1 by omega, dw7_s]
                  show _ = T 111 0 95 - T 291 0 v - ((if v = T 232 0 (T 297 0 (k + (-1) + 1)) then T 205 0 (23 * c + (1 + q9 / 3 ^ (n - 1 - k).toNat % 3)) else 0) + (if v = T 233 0 (T 297 0 (k + (-1) + 1)) then T 205 0 (23 * c + (3 - q9 / 3 ^ (n - 1 - k).toNat % 3)) else 0) + gs7_ (fun w => T 205 0 (23 * c + w)) (fun j => T 232 0 (T 297 0 j)) (fun j => T 233 0 (T 297 0 j)) (dw7_ (n - 1 - k).toNat (q9 % 3 ^ (n - 1 - k).toNat)) (k + (-1) + 1 + 1) v)
                  rw [show k + (-1) + 1 = k by omega, ← re2, hf1, hf2]
                  omega
                · rw [show (n - 1 - (k + (-1))).toNat = (n - 1 - k).toNat + 1 by omega, dw7_s]
                  show U35 289 0 (T 297 0 (k + (-1) + 1)) :: la7_ (fun j => U35 289 0 (T 297 0 j)) (n - 1 - k).toNat (k + (-1) + 1 + 1) = _
                  rw [show k + (-1) + 1 = k by omega, ← re2, ← wi2]
                  have ek : ∀ y, U35 289 0 y = U12 289 0 y := fun y => (up_k hU35 (by exact Nat.ne_of_beq_eq_false rfl) 0 y).trans (up_k hU24 (by exact Nat.ne_of_beq_eq_false rfl) 0 y)
                  rw [ek, up_f hU12]
                  rw [la7_e (f := fun j => U35 289 0 (T 297 0 j)) (g := fun j => T2 289 0 (T 297 0 j)) (n - 1 - k).toNat (k + 1) (fun j a b => by
                    show U35 289 0 (T 297 0 j) = T2 289 0 (T 297 0 j)
                    rw [ek]
                    exact up_g hU12 (fun q => hop k j (by omega) (by omega) (by omega) q.2.2.symm))]
                · exact fun y hy => ((up_k hU35 (by exact Nat.ne_of_beq_eq_false rfl) 0 y).trans (up_k hU24 (by exact Nat.ne_of_beq_eq_false rfl) 0 y)).trans ((up_g hU12 (fun q => hy k (by omega) (by omega) q.2.2)).trans (wo2 y (fun j a b => hy j (by omega) b)))
              · refine hK 159 [some (vR 111 0), some (vI c), some (vI n), some (vI q9), some (vI (re / 3)), some (vI k), some (vI (re % 3))] [vI 2, vI c, vR 111 0, vI (U24 293 0 (T 233 0 (T 297 0 k))), vI (T 233 0 (T 297 0 k)), vR 293 0] U24 ?_
                refine j_callV (y := yX11_rule0) (Yc := zX11_rule0) (rest := [vI (U24 293 0 (T 233 0 (T 297 0 k))), vI (T 233 0 (T 297 0 k)), vR 293 0]) [vI c, vI 2] (ct_X11_rule0 (T := U24) (by omega) (by omega)) cl_X11_321 (qd_c (by decide +kernel)) (nn_ _) rfl (rf_of rfl) (Nat.le_of_ble_eq_true rfl) (Nat.le_of_ble_eq_true rfl) (Nat.le_of_ble_eq_true rfl) rfl ?_
                rintro _ _ ⟨rfl, rfl⟩
                have e37 : U24 205 0 (23 * c + 2) = T 205 0 (23 * c + 2) := (up_k hU24 (by exact Nat.ne_of_beq_eq_false rfl) 0 (23 * c + 2)).trans ((up_k hU12 (by exact Nat.ne_of_beq_eq_false rfl) 0 (23 * c + 2)).trans (hf_43 205 0 (23 * c + 2) rfl))
                show J_ zX11_isRowWell T (po_X11_isRowWell_e T c n q9) 0 0 162 _ [vI (U24 205 0 (23 * c + 2)), vI (U24 293 0 (T 233 0 (T 297 0 k))), vI (T 233 0 (T 297 0 k)), vR 293 0] U24
                refine j_blx (F := fX11) tb_X11 (nn_ _) bk_X11_isRowWell_e_162 bs_X11_isRowWell_e_162 hz (fun K hK => ?_)
                intro w38 w38b
                refine iy_i (by omega) (by omega) ?_
                refine x_nm (fun U39 hU39 => ?_)
                have e40 := up_f hU39
                refine rg_i (by omega) ?_
                refine hK 43 [some (vR 111 0), some (vI c), some (vI n), some (vI q9), some (vI (re / 3)), some (vI (k + (-1))), some (vI (re % 3))] [] U39 ?_
                refine j_drq [some (vR 111 0), some (vI c), some (vI n), some (vI q9), some (vI (re / 3)), some (vI (k + (-1))), none] (drq_s (drq_s (drq_s (drq_s (drq_s (drq_s (drq_n drq_0))))))) ?_
                refine ih_43 _ ?_ (re / 3) (k + (-1)) U39 (Nat.le_refl _) ?_ ?_ ?_ ?_ ?_ ?_
                · have hm_43 := hm_43 (); omega
                · exact fr_u (fr_u (fr_u (fr_t (fr_0 _ _) (fr_s hf_43 rfl)) hU12 rfl) hU24 rfl) hU39 rfl
                · omega
                · rw [show (n - 1 - (k + (-1))).toNat = (n - 1 - k).toNat + 1 by omega, Int.pow_succ, ← Int.ediv_ediv_of_nonneg (Int.le_of_lt (p37_ _)), ← re2]
                · intro v a b
                  have k1 : U12 205 0 (23 * c + 3) = T 205 0 (23 * c + 3) := (up_k hU12 (by exact Nat.ne_of_beq_eq_false rfl) 0 (23 * c + 3)).trans (hf_43 205 0 (23 * c + 3) rfl)
                  have k2 : U24 205 0 (23 * c + 2) = T 205 0 (23 * c + 2) := (up_k hU24 (by exact Nat.ne_of_beq_eq_false rfl) 0 (23 * c + 2)).trans ((up_k hU12 (by exact Nat.ne_of_beq_eq_false rfl) 0 (23 * c + 2)).trans (hf_43 205 0 (23 * c + 2) rfl))
                  have r1 : 0 ≤ T 205 0 (23 * c + 3) ∧ T 205 0 (23 * c + 3) ≤ 1000 := hrl 3 (by decide)
                  have r2 : 0 ≤ T 205 0 (23 * c + 2) ∧ T 205 0 (23 * c + 2) ≤ 1000 := hrl 2 (by decide)
                  have ks : ∀ y, U12 293 0 y = T2 293 0 y := fun y => up_k hU12 (by exact Nat.ne_of_beq_eq_false rfl) 0 y
                  have ga := ga7_u (f := U12 205 0 (23 * c + 3)) (g := U24 205 0 (23 * c + 2)) hU24 hU39 (by rw [ks]) rfl (by rw [ks]; have y := sb9 (T 232 0 (T 297 0 k)) (by omega) (by omega); omega) (by rw [ks]; have y := sb9 (T 233 0 (T 297 0 k)) (by omega) (by omega); omega) (by omega) (by omega) v
                  have hf1 : T 205 0 (23 * c + (1 + re % 3)) = U12 205 0 (23 * c + 3) := by rw [k1, show 23 * c + (1 + re % 3) = 23 * c + 3 by omega]
                  have hf2 : T 205 0 (23 * c + (3 - re % 3)) = U24 205 0 (23 * c + 2) := by rw [k2, show 23 * c + (3 - re % 3) = 23 * c + 2 by omega]
                  rw [ga, ks, sp2 v a b, show (n - 1 - (k + (-1))).toNat = (n - 1 - k).toNat + 1 by omega, dw7_s]
                  show _ = T 111 0 95 - T 291 0 v - ((if v = T 232 0 (T 297 0 (k + (-1) + 1)) then T 205 0 (23 * c + (1 + q9 / 3 ^ (n - 1 - k).toNat % 3)) else 0) + (if v = T 233 0 (T 297 0 (k + (-1) + 1)) then T 205 0 (23 * c + (3 - q9 / 3 ^ (n - 1 - k).toNat % 3)) else 0) + gs7_ (fun w => T 205 0 (23 * c + w)) (fun j => T 232 0 (T 297 0 j)) (fun j => T 233 0 (T 297 0 j)) (dw7_ (n - 1 - k).toNat (q9 % 3 ^ (n - 1 - k).toNat)) (k + (-1) + 1 + 1) v)
                  rw [show k + (-1) + 1 = k by omega, ← re2, hf1, hf2]
                  omega
                · rw [show (n - 1 - (k + (-1))).toNat = (n - 1 - k).toNat + 1 by omega, dw7_s]
                  show U39 289 0 (T 297 0 (k + (-1) + 1)) :: la7_ (fun j => U39 289 0 (T 297 0 j)) (n - 1 - k).toNat (k + (-1) + 1 + 1) = _
                  rw [show k + (-1) + 1 = k by omega, ← re2, ← wi2]
                  have ek : ∀ y, U39 289 0 y = U12 289 0 y := fun y => (up_k hU39 (by exact Nat.ne_of_beq_eq_false rfl) 0 y).trans (up_k hU24 (by exact Nat.ne_of_beq_eq_false rfl) 0 y)
                  rw [ek, up_f hU12]
                  rw [la7_e (f := fun j => U39 289 0 (T 297 0 j)) (g := fun j => T2 289 0 (T 297 0 j)) (n - 1 - k).toNat (k + 1) (fun j a b => by
                    show U39 289 0 (T 297 0 j) = T2 289 0 (T 297 0 j)
                    rw [ek]
                    exact up_g hU12 (fun q => hop k j (by omega) (by omega) (by omega) q.2.2.symm))]
                · exact fun y hy => ((up_k hU39 (by exact Nat.ne_of_beq_eq_false rfl) 0 y).trans (up_k hU24 (by exact Nat.ne_of_beq_eq_false rfl) 0 y)).trans ((up_g hU12 (fun q => hy k (by omega) (by omega) q.2.2)).trans (wo2 y (fun j a b => hy j (by omega) b)))
            · refine hK 159 _ [vI 3, vI c, vR 111 0, vI (U24 293 0 (T 233 0 (T 297 0 k))), vI (T 233 0 (T 297 0 k)), vR 293 0] U24 ?_
              refine j_callV (y := yX11_rule0) (Yc := zX11_rule0) (rest := [vI (U24 293 0 (T 233 0 (T 297 0 k))), vI (T 233 0 (T 297 0 k)), vR 293 0]) [vI c, vI 3] (ct_X11_rule0 (T := U24) (by omega) (by omega)) cl_X11_321 (qd_c (by decide +kernel)) (nn_ _) rfl (rf_of rfl) (Nat.le_of_ble_eq_true rfl) (Nat.le_of_ble_eq_true rfl) (Nat.le_of_ble_eq_true rfl) rfl ?_
              rintro _ _ ⟨rfl, rfl⟩
              have e41 : U24 205 0 (23 * c + 3) = T 205 0 (23 * c + 3) := (up_k hU24 (by exact Nat.ne_of_beq_eq_false rfl) 0 (23 * c + 3)).trans ((up_k hU12 (by exact Nat.ne_of_beq_eq_false rfl) 0 (23 * c + 3)).trans (hf_43 205 0 (23 * c + 3) rfl))
              show J_ zX11_isRowWell T (po_X11_isRowWell_e T c n q9) 0 0 162 _ [vI (U24 205 0 (23 * c + 3)), vI (U24 293 0 (T 233 0 (T 297 0 k))), vI (T 233 0 (T 297 0 k)), vR 293 0] U24
              refine j_blx (F := fX11) tb_X11 (nn_ _) bk_X11_isRowWell_e_162 bs_X11_isRowWell_e_162 hz (fun K hK => ?_)
              intro w42 w42b
              refine iy_i (by omega) (by omega) ?_
              refine x_nm (fun U43 hU43 => ?_)
              have e44 := up_f hU43
              refine rg_i (by omega) ?_
              refine hK 43 [some (vR 111 0), some (vI c), some (vI n), some (vI q9), some (vI (re / 3)), some (vI (k + (-1))), some (vI (re % 3))] [] U43 ?_
              refine j_drq [some (vR 111 0), some (vI c), some (vI n), some (vI q9), some (vI (re / 3)), some (vI (k + (-1))), none] (drq_s (drq_s (drq_s (drq_s (drq_s (drq_s (drq_n drq_0))))))) ?_
              refine ih_43 _ ?_ (re / 3) (k + (-1)) U43 (Nat.le_refl _) ?_ ?_ ?_ ?_ ?_ ?_
              · have hm_43 := hm_43 (); omega
              · exact fr_u (fr_u (fr_u (fr_t (fr_0 _ _) (fr_s hf_43 rfl)) hU12 rfl) hU24 rfl) hU43 rfl
              · omega
              · rw [show (n - 1 - (k + (-1))).toNat = (n - 1 - k).toNat + 1 by omega, Int.pow_succ, ← Int.ediv_ediv_of_nonneg (Int.le_of_lt (p37_ _)), ← re2]
              · intro v a b
                have k1 : U12 205 0 (23 * c + 3) = T 205 0 (23 * c + 3) := (up_k hU12 (by exact Nat.ne_of_beq_eq_false rfl) 0 (23 * c + 3)).trans (hf_43 205 0 (23 * c + 3) rfl)
                have k2 : U24 205 0 (23 * c + 3) = T 205 0 (23 * c + 3) := (up_k hU24 (by exact Nat.ne_of_beq_eq_false rfl) 0 (23 * c + 3)).trans ((up_k hU12 (by exact Nat.ne_of_beq_eq_false rfl) 0 (23 * c + 3)).trans (hf_43 205 0 (23 * c + 3) rfl))
                have r1 : 0 ≤ T 205 0 (23 * c + 3) ∧ T 205 0 (23 * c + 3) ≤ 1000 := hrl 3 (by decide)
                have r2 : 0 ≤ T 205 0 (23 * c + 3) ∧ T 205 0 (23 * c + 3) ≤ 1000 := hrl 3 (by decide)
                have ks : ∀ y, U12 293 0 y = T2 293 0 y := fun y => up_k hU12 (by exact Nat.ne_of_beq_eq_false rfl) 0 y
                have ga := ga7_u (f := U12 205 0 (23 * c + 3)) (g := U24 205 0 (23 * c + 3)) hU24 hU43 (by rw [ks]) rfl (by rw [ks]; have y := sb9 (T 232 0 (T 297 0 k)) (by omega) (by omega); omega) (by rw [ks]; have y := sb9 (T 233 0 (T 297 0 k)) (by omega) (by omega); omega) (by omega) (by omega) v
                have hf1 : T 205 0 (23 * c + (1 + re % 3)) = U12 205 0 (23 * c + 3) := by rw [k1, show 23 * c + (1 + re % 3) = 23 * c + 3 by omega]
                have hf2 : T 205 0 (23 * c + (3 - re % 3)) = U24 205 0 (23 * c + 3) := by rw [k2, show 23 * c + (3 - re % 3) = 23 * c + 3 by omega]
                rw [ga, ks, sp2 v a b, show (n - 1 - (k + (-1))).toNat = (n - 1 - k).toNat + 1 by omega, dw7_s]
                show _ = T 111 0 95 - T 291 0 v - ((if v = T 232 0 (T 297 0 (k + (-1) + 1)) then T 205 0 (23 * c + (1 + q9 / 3 ^ (n - 1 - k).toNat % 3)) else 0) + (if v = T 233 0 (T 297 0 (k + (-1) + 1)) then T 205 0 (23 * c + (3 - q9 / 3 ^ (n - 1 - k).toNat % 3)) else 0) + gs7_ (fun w => T 205 0 (23 * c + w)) (fun j => T 232 0 (T 297 0 j)) (fun j => T 233 0 (T 297 0 j)) (dw7_ (n - 1 - k).toNat (q9 % 3 ^ (n - 1 - k).toNat)) (k + (-1) + 1 + 1) v)
                rw [show k + (-1) + 1 = k by omega, ← re2, hf1, hf2]
                omega
              · rw [show (n - 1 - (k + (-1))).toNat = (n - 1 - k).toNat + 1 by omega, dw7_s]
                show U43 289 0 (T 297 0 (k + (-1) + 1)) :: la7_ (fun j => U43 289 0 (T 297 0 j)) (n - 1 - k).toNat (k + (-1) + 1 + 1) = _
                rw [show k + (-1) + 1 = k by omega, ← re2, ← wi2]
                have ek : ∀ y, U43 289 0 y = U12 289 0 y := fun y => (up_k hU43 (by exact Nat.ne_of_beq_eq_false rfl) 0 y).trans (up_k hU24 (by exact Nat.ne_of_beq_eq_false rfl) 0 y)
                rw [ek, up_f hU12]
                rw [la7_e (f := fun j => U43 289 0 (T 297 0 j)) (g := fun j => T2 289 0 (T 297 0 j)) (n - 1 - k).toNat (k + 1) (fun j a b => by
                  show U43 289 0 (T 297 0 j) = T2 289 0 (T 297 0 j)
                  rw [ek]
                  exact up_g hU12 (fun q => hop k j (by omega) (by omega) (by omega) q.2.2.symm))]
              · exact fun y hy => ((up_k hU43 (by exact Nat.ne_of_beq_eq_false rfl) 0 y).trans (up_k hU24 (by exact Nat.ne_of_beq_eq_false rfl) 0 y)).trans ((up_g hU12 (fun q => hy k (by omega) (by omega) q.2.2)).trans (wo2 y (fun j a b => hy j (by omega) b)))
          · refine hK 114 _ [vI 2, vI c, vR 111 0, vI (T2 293 0 (T 232 0 (T 297 0 k))), vI (T 232 0 (T 297 0 k)), vR 293 0] U12 ?_
            refine j_callV (y := yX11_rule0) (Yc := zX11_rule0) (rest := [vI (T2 293 0 (T 232 0 (T 297 0 k))), vI (T 232 0 (T 297 0 k)), vR 293 0]) [vI c, vI 2] (ct_X11_rule0 (T := U12) (by omega) (by omega)) cl_X11_321 (qd_c (by decide +kernel)) (nn_ _) rfl (rf_of rfl) (Nat.le_of_ble_eq_true rfl) (Nat.le_of_ble_eq_true rfl) (Nat.le_of_ble_eq_true rfl) rfl ?_
            rintro _ _ ⟨rfl, rfl⟩
            have e45 : U12 205 0 (23 * c + 2) = T 205 0 (23 * c + 2) := (up_k hU12 (by exact Nat.ne_of_beq_eq_false rfl) 0 (23 * c + 2)).trans (hf_43 205 0 (23 * c + 2) rfl)
            show J_ zX11_isRowWell T (po_X11_isRowWell_e T c n q9) 0 0 117 _ [vI (U12 205 0 (23 * c + 2)), vI (T2 293 0 (T 232 0 (T 297 0 k))), vI (T 232 0 (T 297 0 k)), vR 293 0] U12
            refine j_blx (F := fX11) tb_X11 (nn_ _) bk_X11_isRowWell_e_117 bs_X11_isRowWell_e_117 hz (fun K hK => ?_)
            intro w46 w46b
            refine iy_i (by omega) (by omega) ?_
            refine x_nm (fun U47 hU47 => ?_)
            have e48 := up_f hU47
            refine ix_i (by omega) ?_
            intro b49 b49b
            have e50 : U47 297 0 k = T 297 0 k := (up_k hU47 (by exact Nat.ne_of_beq_eq_false rfl) 0 k).trans ((up_k hU12 (by exact Nat.ne_of_beq_eq_false rfl) 0 k).trans (hf_43 297 0 k rfl))
            rw [e50] at b49 b49b ⊢
            refine ix_i (by omega) ?_
            intro b51 b51b
            have e52 : U47 233 0 (T 297 0 k) = T 233 0 (T 297 0 k) := (up_k hU47 (by exact Nat.ne_of_beq_eq_false rfl) 0 (T 297 0 k)).trans ((up_k hU12 (by exact Nat.ne_of_beq_eq_false rfl) 0 (T 297 0 k)).trans (hf_43 233 0 (T 297 0 k) rfl))
            rw [e52] at b51 b51b ⊢
            refine ix_i (by omega) ?_
            intro b53 b53b
            refine And.intro (fun c54 => ?_) (fun c54 => ?_)
            · refine hK 148 _ [vI c, vR 111 0, vI (U47 293 0 (T 233 0 (T 297 0 k))), vI (T 233 0 (T 297 0 k)), vR 293 0] U47 ?_
              refine j_blx (F := fX11) tb_X11 (nn_ _) bk_X11_isRowWell_e_148 bs_X11_isRowWell_e_148 hz (fun K hK => ?_)
              refine And.intro (fun c55 => ?_) (fun c55 => ?_)
              · refine hK 158 _ [vI c, vR 111 0, vI (U47 293 0 (T 233 0 (T 297 0 k))), vI (T 233 0 (T 297 0 k)), vR 293 0] U47 ?_
                refine j_blx (F := fX11) tb_X11 (nn_ _) bk_X11_isRowWell_e_158 bs_X11_isRowWell_e_158 hz (fun K hK => ?_)
                refine hK 159 _ [vI 1, vI c, vR 111 0, vI (U47 293 0 (T 233 0 (T 297 0 k))), vI (T 233 0 (T 297 0 k)), vR 293 0] U47 ?_
                refine j_callV (y := yX11_rule0) (Yc := zX11_rule0) (rest := [vI (U47 293 0 (T 233 0 (T 297 0 k))), vI (T 233 0 (T 297 0 k)), vR 293 0]) [vI c, vI 1] (ct_X11_rule0 (T := U47) (by omega) (by omega)) cl_X11_321 (qd_c (by decide +kernel)) (nn_ _) rfl (rf_of rfl) (Nat.le_of_ble_eq_true rfl) (Nat.le_of_ble_eq_true rfl) (Nat.le_of_ble_eq_true rfl) rfl ?_
                rintro _ _ ⟨rfl, rfl⟩
                have e56 : U47 205 0 (23 * c + 1) = T 205 0 (23 * c + 1) := (up_k hU47 (by exact Nat.ne_of_beq_eq_false rfl) 0 (23 * c + 1)).trans ((up_k hU12 (by exact Nat.ne_of_beq_eq_false rfl) 0 (23 * c + 1)).trans (hf_43 205 0 (23 * c + 1) rfl))
                show J_ zX11_isRowWell T (po_X11_isRowWell_e T c n q9) 0 0 162 _ [vI (U47 205 0 (23 * c + 1)), vI (U47 293 0 (T 233 0 (T 297 0 k))), vI (T 233 0 (T 297 0 k)), vR 293 0] U47
                refine j_blx (F := fX11) tb_X11 (nn_ _) bk_X11_isRowWell_e_162 bs_X11_isRowWell_e_162 hz (fun K hK => ?_)
                intro w57 w57b
                refine iy_i (by omega) (by omega) ?_
                refine x_nm (fun U58 hU58 => ?_)
                have e59 := up_f hU58
                refine rg_i (by omega) ?_
                refine hK 43 [some (vR 111 0), some (vI c), some (vI n), some (vI q9), some (vI (re / 3)), some (vI (k + (-1))), some (vI (re % 3))] [] U58 ?_
                refine j_drq [some (vR 111 0), some (vI c), some (vI n), some (vI q9), some (vI (re / 3)), some (vI (k + (-1))), none] (drq_s (drq_s (drq_s (drq_s (drq_s (drq_s (drq_n drq_0))))))) ?_
                refine ih_43 _ ?_ (re / 3) (k + (-1)) U58 (Nat.le_refl _) ?_ ?_ ?_ ?_ ?_ ?_
                · have hm_43 := hm_43 (); omega
                · exact fr_u (fr_u (fr_u (fr_t (fr_0 _ _) (fr_s hf_43 rfl)) hU12 rfl) hU47 rfl) hU58 rfl
                · omega
                · rw [show (n - 1 - (k + (-1))).toNat = (n - 1 - k).toNat + 1 by omega, Int.pow_succ, ← Int.ediv_ediv_of_nonneg (Int.le_of_lt (p37_ _)), ← re2]
                · intro v a b
                  have k1 : U12 205 0 (23 * c + 2) = T 205 0 (23 * c + 2) := (up_k hU12 (by exact Nat.ne_of_beq_eq_false rfl) 0 (23 * c + 2)).trans (hf_43 205 0 (23 * c + 2) rfl)
                  have k2 : U47 205 0 (23 * c + 1) = T 205 0 (23 * c + 1) := (up_k hU47 (by exact Nat.ne_of_beq_eq_false rfl) 0 (23 * c + 1)).trans ((up_k hU12 (by exact Nat.ne_of_beq_eq_false rfl) 0 (23 * c + 1)).trans (hf_43 205 0 (23 * c + 1) rfl))
                  have r1 : 0 ≤ T 205 0 (23 * c + 2) ∧ T 205 0 (23 * c + 2) ≤ 1000 := hrl 2 (by decide)
                  have r2 : 0 ≤ T 205 0 (23 * c + 1) ∧ T 205 0 (23 * c + 1) ≤ 1000 := hrl 1 (by decide)
                  have ks : ∀ y, U12 293 0 y = T2 293 0 y := fun y => up_k hU12 (by exact Nat.ne_of_beq_eq_false rfl) 0 y
                  have ga := ga7_u (f := U12 205 0 (23 * c + 2)) (g := U47 205 0 (23 * c + 1)) hU47 hU58 (by rw [ks]) rfl (by rw [ks]; have y := sb9 (T 232 0 (T 297 0 k)) (by omega) (by omega); omega) (by rw [ks]; have y := sb9 (T 233 0 (T 297 0 k)) (by omega) (by omega); omega) (by omega) (by omega) v
                  have hf1 : T 205 0 (23 * c + (1 + re % 3)) = U12 205 0 (23 * c + 2) := by rw [k1, show 23 * c + (1 + re % 3) = 23 * c + 2 by omega]
                  have hf2 : T 205 0 (23 * c + (3 - re % 3)) = U47 205 0 (23 * c + 1) := by rw [k2, show 23 * c + (3 - re % 3) = 23 * c + 1 by omega]
                  rw [ga, ks, sp2 v a b, show (n - 1 - (k + (-1))).toNat = (n - 1 - k).toNat + 1 by omega, dw7_s]
                  show _ = T 111 0 95 - T 291 0 v - ((if v = T 232 0 (T 297 0 (k + (-1) + 1)) then T 205 0 (23 * c + (1 + q9 / 3 ^ (n - 1 - k).toNat % 3)) else 0) + (if v = T 233 0 (T 297 0 (k + (-1) + 1)) then T 205 0 (23 * c + (3 - q9 / 3 ^ (n - 1 - k).toNat % 3)) else 0) + gs7_ (fun w => T 205 0 (23 * c + w)) (fun j => T 232 0 (T 297 0 j)) (fun j => T 233 0 (T 297 0 j)) (dw7_ (n - 1 - k).toNat (q9 % 3 ^ (n - 1 - k).toNat)) (k + (-1) + 1 + 1) v)
                  rw [show k + (-1) + 1 = k by omega, ← re2, hf1, hf2]
                  omega
                · rw [show (n - 1 - (k + (-1))).toNat = (n - 1 - k).toNat + 1 by omega, dw7_s]
                  show U58 289 0 (T 297 0 (k + (-1) + 1)) :: la7_ (fun j => U58 289 0 (T 297 0 j)) (n - 1 - k).toNat (k + (-1) + 1 + 1) = _
                  rw [show k + (-1) + 1 = k by omega, ← re2, ← wi2]
                  have ek : ∀ y, U58 289 0 y = U12 289 0 y := fun y => (up_k hU58 (by exact Nat.ne_of_beq_eq_false rfl) 0 y).trans (up_k hU47 (by exact Nat.ne_of_beq_eq_false rfl) 0 y)
                  rw [ek, up_f hU12]
                  rw [la7_e (f := fun j => U58 289 0 (T 297 0 j)) (g := fun j => T2 289 0 (T 297 0 j)) (n - 1 - k).toNat (k + 1) (fun j a b => by
                    show U58 289 0 (T 297 0 j) = T2 289 0 (T 297 0 j)
                    rw [ek]
                    exact up_g hU12 (fun q => hop k j (by omega) (by omega) (by omega) q.2.2.symm))]
                · exact fun y hy => ((up_k hU58 (by exact Nat.ne_of_beq_eq_false rfl) 0 y).trans (up_k hU47 (by exact Nat.ne_of_beq_eq_false rfl) 0 y)).trans ((up_g hU12 (fun q => hy k (by omega) (by omega) q.2.2)).trans (wo2 y (fun j a b => hy j (by omega) b)))
              · refine hK 159 [some (vR 111 0), some (vI c), some (vI n), some (vI q9), some (vI (re / 3)), some (vI k), some (vI (re % 3))] [vI 2, vI c, vR 111 0, vI (U47 293 0 (T 233 0 (T 297 0 k))), vI (T 233 0 (T 297 0 k)), vR 293 0] U47 ?_
                refine j_callV (y := yX11_rule0) (Yc := zX11_rule0) (rest := [vI (U47 293 0 (T 233 0 (T 297 0 k))), vI (T 233 0 (T 297 0 k)), vR 293 0]) [vI c, vI 2] (ct_X11_rule0 (T := U47) (by omega) (by omega)) cl_X11_321 (qd_c (by decide +kernel)) (nn_ _) rfl (rf_of rfl) (Nat.le_of_ble_eq_true rfl) (Nat.le_of_ble_eq_true rfl) (Nat.le_of_ble_eq_true rfl) rfl ?_
                rintro _ _ ⟨rfl, rfl⟩
                have e60 : U47 205 0 (23 * c + 2) = T 205 0 (23 * c + 2) := (up_k hU47 (by exact Nat.ne_of_beq_eq_false rfl) 0 (23 * c + 2)).trans ((up_k hU12 (by exact Nat.ne_of_beq_eq_false rfl) 0 (23 * c + 2)).trans (hf_43 205 0 (23 * c + 2) rfl))
                show J_ zX11_isRowWell T (po_X11_isRowWell_e T c n q9) 0 0 162 _ [vI (U47 205 0 (23 * c + 2)), vI (U47 293 0 (T 233 0 (T 297 0 k))), vI (T 233 0 (T 297 0 k)), vR 293 0] U47
                refine j_blx (F := fX11) tb_X11 (nn_ _) bk_X11_isRowWell_e_162 bs_X11_isRowWell_e_162 hz (fun K hK => ?_)
                intro w61 w61b
                refine iy_i (by omega) (by omega) ?_
                refine x_nm (fun U62 hU62 => ?_)
                have e63 := up_f hU62
                refine rg_i (by omega) ?_
                refine hK 43 [some (vR 111 0), some (vI c), some (vI n), some (vI q9), some (vI (re / 3)), some (vI (k + (-1))), some (vI (re % 3))] [] U62 ?_
                refine j_drq [some (vR 111 0), some (vI c), some (vI n), some (vI q9), some (vI (re / 3)), some (vI (k + (-1))), none] (drq_s (drq_s (drq_s (drq_s (drq_s (drq_s (drq_n drq_0))))))) ?_
                refine ih_43 _ ?_ (re / 3) (k + (-1)) U62 (Nat.le_refl _) ?_ ?_ ?_ ?_ ?_ ?_
                · have hm_43 := hm_43 (); omega
                · exact fr_u (fr_u (fr_u (fr_t (fr_0 _ _) (fr_s hf_43 rfl)) hU12 rfl) hU47 rfl) hU62 rfl
                · omega
                · rw [show (n - 1 - (k + (-1))).toNat = (n - 1 - k).toNat + 1 by omega, Int.pow_succ, ← Int.ediv_ediv_of_nonneg (Int.le_of_lt (p37_ _)), ← re2]
                · intro v a b
                  have k1 : U12 205 0 (23 * c + 2) = T 205 0 (23 * c + 2) := (up_k hU12 (by exact Nat.ne_of_beq_eq_false rfl) 0 (23 * c + 2)).trans (hf_43 205 0 (23 * c + 2) rfl)
                  have k2 : U47 205 0 (23 * c + 2) = T 205 0 (23 * c + 2) := (up_k hU47 (by exact Nat.ne_of_beq_eq_false rfl) 0 (23 * c + 2)).trans ((up_k hU12 (by exact Nat.ne_of_beq_eq_false rfl) 0 (23 * c + 2)).trans (hf_43 205 0 (23 * c + 2) rfl))
                  have r1 : 0 ≤ T 205 0 (23 * c + 2) ∧ T 205 0 (23 * c + 2) ≤ 1000 := hrl 2 (by decide)
                  have r2 : 0 ≤ T 205 0 (23 * c + 2) ∧ T 205 0 (23 * c + 2) ≤ 1000 := hrl 2 (by decide)
                  have ks : ∀ y, U12 293 0 y = T2 293 0 y := fun y => up_k hU12 (by exact Nat.ne_of_beq_eq_false rfl) 0 y
                  have ga := ga7_u (f := U12 205 0 (23 * c + 2)) (g := U47 205 0 (23 * c + 2)) hU47 hU62 (by rw [ks]) rfl (by rw [ks]; have y := sb9 (T 232 0 (T 297 0 k)) (by omega) (by omega); omega) (by rw [ks]; have y := sb9 (T 233 0 (T 297 0 k)) (by omega) (by omega); omega) (by omega) (by omega) v
                  have hf1 : T 205 0 (23 * c + (1 + re % 3)) = U12 205 0 (23 * c + 2) := by rw [k1, show 23 * c + (1 + re % 3) = 23 * c + 2 by omega]
                  have hf2 : T 205 0 (23 * c + (3 - re % 3)) = U47 205 0 (23 * c + 2) := by rw [k2, show 23 * c + (3 - re % 3) = 23 * c + 2 by omega]
                  rw [ga, ks, sp2 v a b, show (n - 1 - (k + (-1))).toNat = (n - 1 - k).toNat + 1 by omega, dw7_s]
                  show _ = T 111 0 95 - T 291 0 v - ((if v = T 232 0 (T 297 0 (k + (-1) + 1)) then T 205 0 (23 * c + (1 + q9 / 3 ^ (n - 1 - k).toNat % 3)) else 0) + (if v = T 233 0 (T 297 0 (k + (-1) + 1)) then T 205 0 (23 * c + (3 - q9 / 3 ^ (n - 1 - k).toNat % 3)) else 0) + gs7_ (fun w => T 205 0 (23 * c + w)) (fun j => T 232 0 (T 297 0 j)) (fun j => T 233 0 (T 297 0 j)) (dw7_ (n - 1 - k).toNat (q9 % 3 ^ (n - 1 - k).toNat)) (k + (-1) + 1 + 1) v)
                  rw [show k + (-1) + 1 = k by omega, ← re2, hf1, hf2]
                  omega
                · rw [show (n - 1 - (k + (-1))).toNat = (n - 1 - k).toNat + 1 by omega, dw7_s]
                  show U62 289 0 (T 297 0 (k + (-1) + 1)) :: la7_ (fun j => U62 289 0 (T 297 0 j)) (n - 1 - k).toNat (k + (-1) + 1 + 1) = _
                  rw [show k + (-1) + 1 = k by omega, ← re2, ← wi2]
                  have ek : ∀ y, U62 289 0 y = U12 289 0 y := fun y => (up_k hU62 (by exact Nat.ne_of_beq_eq_false rfl) 0 y).trans (up_k hU47 (by exact Nat.ne_of_beq_eq_false rfl) 0 y)
                  rw [ek, up_f hU12]
                  rw [la7_e (f := fun j => U62 289 0 (T 297 0 j)) (g := fun j => T2 289 0 (T 297 0 j)) (n - 1 - k).toNat (k + 1) (fun j a b => by
                    show U62 289 0 (T 297 0 j) = T2 289 0 (T 297 0 j)
                    rw [ek]
                    exact up_g hU12 (fun q => hop k j (by omega) (by omega) (by omega) q.2.2.symm))]
                · exact fun y hy => ((up_k hU62 (by exact Nat.ne_of_beq_eq_false rfl) 0 y).trans (up_k hU47 (by exact Nat.ne_of_beq_eq_false rfl) 0 y)).trans ((up_g hU12 (fun q => hy k (by omega) (by omega) q.2.2)).trans (wo2 y (fun j a b => hy j (by omega) b)))
            · refine hK 159 _ [vI 3, vI c, vR 111 0, vI (U47 293 0 (T 233 0 (T 297 0 k))), vI (T 233 0 (T 297 0 k)), vR 293 0] U47 ?_
              refine j_callV (y := yX11_rule0) (Yc := zX11_rule0) (rest := [vI (U47 293 0 (T 233 0 (T 297 0 k))), vI (T 233 0 (T 297 0 k)), vR 293 0]) [vI c, vI 3] (ct_X11_rule0 (T := U47) (by omega) (by omega)) cl_X11_321 (qd_c (by decide +kernel)) (nn_ _) rfl (rf_of rfl) (Nat.le_of_ble_eq_true rfl) (Nat.le_of_ble_eq_true rfl) (Nat.le_of_ble_eq_true rfl) rfl ?_
              rintro _ _ ⟨rfl, rfl⟩
              have e64 : U47 205 0 (23 * c + 3) = T 205 0 (23 * c + 3) := (up_k hU47 (by exact Nat.ne_of_beq_eq_false rfl) 0 (23 * c + 3)).trans ((up_k hU12 (by exact Nat.ne_of_beq_eq_false rfl) 0 (23 * c + 3)).trans (hf_43 205 0 (23 * c + 3) rfl))
              show J_ zX11_isRowWell T (po_X11_isRowWell_e T c n q9) 0 0 162 _ [vI (U47 205 0 (23 * c + 3)), vI (U47 293 0 (T 233 0 (T 297 0 k))), vI (T 233 0 (T 297 0 k)), vR 293 0] U47
              refine j_blx (F := fX11) tb_X11 (nn_ _) bk_X11_isRowWell_e_162 bs_X11_isRowWell_e_162 hz (fun K hK => ?_)
              intro w65 w65b
              refine iy_i (by omega) (by omega) ?_
              refine x_nm (fun U66 hU66 => ?_)
              have e67 := up_f hU66
              refine rg_i (by omega) ?_
              refine hK 43 [some (vR 111 0), some (vI c), some (vI n), some (vI q9), some (vI (re / 3)), some (vI (k + (-1))), some (vI (re % 3))] [] U66 ?_
              refine j_drq [some (vR 111 0), some (vI c), some (vI n), some (vI q9), some (vI (re / 3)), some (vI (k + (-1))), none] (drq_s (drq_s (drq_s (drq_s (drq_s (drq_s (drq_n drq_0))))))) ?_
              refine ih_43 _ ?_ (re / 3) (k + (-1)) U66 (Nat.le_refl _) ?_ ?_ ?_ ?_ ?_ ?_
              · have hm_43 := hm_43 (); omega
              · exact fr_u (fr_u (fr_u (fr_t (fr_0 _ _) (fr_s hf_43 rfl)) hU12 rfl) hU47 rfl) hU66 rfl
              · omega
              · rw [show (n - 1 - (k + (-1))).toNat = (n - 1 - k).toNat + 1 by omega, Int.pow_succ, ← Int.ediv_ediv_of_nonneg (Int.le_of_lt (p37_ _)), ← re2]
              · intro v a b
                have k1 : U12 205 0 (23 * c + 2) = T 205 0 (23 * c + 2) := (up_k hU12 (by exact Nat.ne_of_beq_eq_false rfl) 0 (23 * c + 2)).trans (hf_43 205 0 (23 * c + 2) rfl)
                have k2 : U47 205 0 (23 * c + 3) = T 205 0 (23 * c + 3) := (up_k hU47 (by exact Nat.ne_of_beq_eq_false rfl) 0 (23 * c + 3)).trans ((up_k hU12 (by exact Nat.ne_of_beq_eq_false rfl) 0 (23 * c + 3)).trans (hf_43 205 0 (23 * c + 3) rfl))
                have r1 : 0 ≤ T 205 0 (23 * c + 2) ∧ T 205 0 (23 * c + 2) ≤ 1000 := hrl 2 (by decide)
                have r2 : 0 ≤ T 205 0 (23 * c + 3) ∧ T 205 0 (23 * c + 3) ≤ 1000 := hrl 3 (by decide)
                have ks : ∀ y, U12 293 0 y = T2 293 0 y := fun y => up_k hU12 (by exact Nat.ne_of_beq_eq_false rfl) 0 y
                have ga := ga7_u (f := U12 205 0 (23 * c + 2)) (g := U47 205 0 (23 * c + 3)) hU47 hU66 (by rw [ks]) rfl (by rw [ks]; have y := sb9 (T 232 0 (T 297 0 k)) (by omega) (by omega); omega) (by rw [ks]; have y := sb9 (T 233 0 (T 297 0 k)) (by omega) (by omega); omega) (by omega) (by omega) v
                have hf1 : T 205 0 (23 * c + (1 + re % 3)) = U12 205 0 (23 * c + 2) := by rw [k1, show 23 * c + (1 + re % 3) = 23 * c + 2 by omega]
                have hf2 : T 205 0 (23 * c + (3 - re % 3)) = U47 205 0 (23 * c + 3) := by rw [k2, show 23 * c + (3 - re % 3) = 23 * c + 3 by omega]
                rw [ga, ks, sp2 v a b, show (n - 1 - (k + (-1))).toNat = (n - 1 - k).toNat + 1 by omega, dw7_s]
                show _ = T 111 0 95 - T 291 0 v - ((if v = T 232 0 (T 297 0 (k + (-1) + 1)) then T 205 0 (23 * c + (1 + q9 / 3 ^ (n - 1 - k).toNat % 3)) else 0) + (if v = T 233 0 (T 297 0 (k + (-1) + 1)) then T 205 0 (23 * c + (3 - q9 / 3 ^ (n - 1 - k).toNat % 3)) else 0) + gs7_ (fun w => T 205 0 (23 * c + w)) (fun j => T 232 0 (T 297 0 j)) (fun j => T 233 0 (T 297 0 j)) (dw7_ (n - 1 - k).toNat (q9 % 3 ^ (n - 1 - k).toNat)) (k + (-1) + 1 + 1) v)
                rw [show k + (-1) + 1 = k by omega, ← re2, hf1, hf2]
                omega
              · rw [show (n - 1 - (k + (-1))).toNat = (n - 1 - k).toNat + 1 by omega, dw7_s]
                show U66 289 0 (T 297 0 (k + (-1) + 1)) :: la7_ (fun j => U66 289 0 (T 297 0 j)) (n - 1 - k).toNat (k + (-1) + 1 + 1) = _
                rw [show k + (-1) + 1 = k by omega, ← re2, ← wi2]
                have ek : ∀ y, U66 289 0 y = U12 289 0 y := fun y => (up_k hU66 (by exact Nat.ne_of_beq_eq_false rfl) 0 y).trans (up_k hU47 (by exact Nat.ne_of_beq_eq_false rfl) 0 y)
                rw [ek, up_f hU12]
                rw [la7_e (f := fun j => U66 289 0 (T 297 0 j)) (g := fun j => T2 289 0 (T 297 0 j)) (n - 1 - k).toNat (k + 1) (fun j a b => by
                  show U66 289 0 (T 297 0 j) = T2 289 0 (T 297 0 j)
                  rw [ek]
                  exact up_g hU12 (fun q => hop k j (by omega) (by omega) (by omega) q.2.2.symm))]
              · exact fun y hy => ((up_k hU66 (by exact Nat.ne_of_beq_eq_false rfl) 0 y).trans (up_k hU47 (by exact Nat.ne_of_beq_eq_false rfl) 0 y)).trans ((up_g hU12 (fun q => hy k (by omega) (by omega) q.2.2)).trans (wo2 y (fun j a b => hy j (by omega) b)))
        · refine hK 114 _ [vI 1, vI c, vR 111 0, vI (T2 293 0 (T 232 0 (T 297 0 k))), vI (T 232 0 (T 297 0 k)), vR 293 0] U12 ?_
          refine j_callV (y := yX11_rule0) (Yc := zX11_rule0) (rest := [vI (T2 293 0 (T 232 0 (T 297 0 k))), vI (T 232 0 (T 297 0 k)), vR 293 0]) [vI c, vI 1] (ct_X11_rule0 (T := U12) (by omega) (by omega)) cl_X11_321 (qd_c (by decide +kernel)) (nn_ _) rfl (rf_of rfl) (Nat.le_of_ble_eq_true rfl) (Nat.le_of_ble_eq_true rfl) (Nat.le_of_ble_eq_true rfl) rfl ?_
          rintro _ _ ⟨rfl, rfl⟩
          have e68 : U12 205 0 (23 * c + 1) = T 205 0 (23 * c + 1) := (up_k hU12 (by exact Nat.ne_of_beq_eq_false rfl) 0 (23 * c + 1)).trans (hf_43 205 0 (23 * c + 1) rfl)
          show J_ zX11_isRowWell T (po_X11_isRowWell_e T c n q9) 0 0 117 _ [vI (U12 205 0 (23 * c + 1)), vI (T2 293 0 (T 232 0 (T 297 0 k))), vI (T 232 0 (T 297 0 k)), vR 293 0] U12
          refine j_blx (F := fX11) tb_X11 (nn_ _) bk_X11_isRowWell_e_117 bs_X11_isRowWell_e_117 hz (fun K hK => ?_)
          intro w69 w69b
          refine iy_i (by omega) (by omega) ?_
          refine x_nm (fun U70 hU70 => ?_)
          have e71 := up_f hU70
          refine ix_i (by omega) ?_
          intro b72 b72b
          have e73 : U70 297 0 k = T 297 0 k := (up_k hU70 (by exact Nat.ne_of_beq_eq_false rfl) 0 k).trans ((up_k hU12 (by exact Nat.ne_of_beq_eq_false rfl) 0 k).trans (hf_43 297 0 k rfl))
          rw [e73] at b72 b72b ⊢
          refine ix_i (by omega) ?_
          intro b74 b74b
          have e75 : U70 233 0 (T 297 0 k) = T 233 0 (T 297 0 k) := (up_k hU70 (by exact Nat.ne_of_beq_eq_false rfl) 0 (T 297 0 k)).trans ((up_k hU12 (by exact Nat.ne_of_beq_eq_false rfl) 0 (T 297 0 k)).trans (hf_43 233 0 (T 297 0 k) rfl))
          rw [e75] at b74 b74b ⊢
          refine ix_i (by omega) ?_
          intro b76 b76b
          refine And.intro (fun c77 => ?_) (fun c77 => ?_)
          · refine hK 148 _ [vI c, vR 111 0, vI (U70 293 0 (T 233 0 (T 297 0 k))), vI (T 233 0 (T 297 0 k)), vR 293 0] U70 ?_
            refine j_blx (F := fX11) tb_X11 (nn_ _) bk_X11_isRowWell_e_148 bs_X11_isRowWell_e_148 hz (fun K hK => ?_)
            refine And.intro (fun c78 => ?_) (fun c78 => ?_)
            · refine hK 158 _ [vI c, vR 111 0, vI (U70 293 0 (T 233 0 (T 297 0 k))), vI (T 233 0 (T 297 0 k)), vR 293 0] U70 ?_
              refine j_blx (F := fX11) tb_X11 (nn_ _) bk_X11_isRowWell_e_158 bs_X11_isRowWell_e_158 hz (fun K hK => ?_)
              refine hK 159 _ [vI 1, vI c, vR 111 0, vI (U70 293 0 (T 233 0 (T 297 0 k))), vI (T 233 0 (T 297 0 k)), vR 293 0] U70 ?_
              refine j_callV (y := yX11_rule0) (Yc := zX11_rule0) (rest := [vI (U70 293 0 (T 233 0 (T 297 0 k))), vI (T 233 0 (T 297 0 k)), vR 293 0]) [vI c, vI 1] (ct_X11_rule0 (T := U70) (by omega) (by omega)) cl_X11_321 (qd_c (by decide +kernel)) (nn_ _) rfl (rf_of rfl) (Nat.le_of_ble_eq_true rfl) (Nat.le_of_ble_eq_true rfl) (Nat.le_of_ble_eq_true rfl) rfl ?_
              rintro _ _ ⟨rfl, rfl⟩
              have e79 : U70 205 0 (23 * c + 1) = T 205 0 (23 * c + 1) := (up_k hU70 (by exact Nat.ne_of_beq_eq_false rfl) 0 (23 * c + 1)).trans ((up_k hU12 (by exact Nat.ne_of_beq_eq_false rfl) 0 (23 * c + 1)).trans (hf_43 205 0 (23 * c + 1) rfl))
              show J_ zX11_isRowWell T (po_X11_isRowWell_e T c n q9) 0 0 162 _ [vI (U70 205 0 (23 * c + 1)), vI (U70 293 0 (T 233 0 (T 297 0 k))), vI (T 233 0 (T 297 0 k)), vR 293 0] U70
              refine j_blx (F := fX11) tb_X11 (nn_ _) bk_X11_isRowWell_e_162 bs_X11_isRowWell_e_162 hz (fun K hK => ?_)
              intro w80 w80b
              refine iy_i (by omega) (by omega) ?_
              refine x_nm (fun U81 hU81 => ?_)
              have e82 := up_f hU81
              refine rg_i (by omega) ?_
              refine hK 43 [some (vR 111 0), some (vI c), some (vI n), some (vI q9), some (vI (re / 3)), some (vI (k + (-1))), some (vI (re % 3))] [] U81 ?_
              refine j_drq [some (vR 111 0), some (vI c), some (vI n), some (vI q9), some (vI (re / 3)), some (vI (k + (-1))), none] (drq_s (drq_s (drq_s (drq_s (drq_s (drq_s (drq_n drq_0))))))) ?_
              refine ih_43 _ ?_ (re / 3) (k + (-1)) U81 (Nat.le_refl _) ?_ ?_ ?_ ?_ ?_ ?_
              · have hm_43 := hm_43 (); omega
              · exact fr_u (fr_u (fr_u (fr_t (fr_0 _ _) (fr_s hf_43 rfl)) hU12 rfl) hU70 rfl) hU81 rfl
              · omega
              · rw [show (n - 1 - (k + (-1))).toNat = (n - 1 - k).toNat + 1 by omega, Int.pow_succ, ← Int.ediv_ediv_of_nonneg (Int.le_of_lt (p37_ _)), ← re2]
              · intro v a b
                have k1 : U12 205 0 (23 * c + 1) = T 205 0 (23 * c + 1) := (up_k hU12 (by exact Nat.ne_of_beq_eq_false rfl) 0 (23 * c + 1)).trans (hf_43 205 0 (23 * c + 1) rfl)
                have k2 : U70 205 0 (23 * c + 1) = T 205 0 (23 * c + 1) := (up_k hU70 (by exact Nat.ne_of_beq_eq_false rfl) 0 (23 * c + 1)).trans ((up_k hU12 (by exact Nat.ne_of_beq_eq_false rfl) 0 (23 * c + 1)).trans (hf_43 205 0 (23 * c + 1) rfl))
                have r1 : 0 ≤ T 205 0 (23 * c + 1) ∧ T 205 0 (23 * c + 1) ≤ 1000 := hrl 1 (by decide)
                have r2 : 0 ≤ T 205 0 (23 * c + 1) ∧ T 205 0 (23 * c + 1) ≤ 1000 := hrl 1 (by decide)
                have ks : ∀ y, U12 293 0 y = T2 293 0 y := fun y => up_k hU12 (by exact Nat.ne_of_beq_eq_false rfl) 0 y
                have ga := ga7_u (f := U12 205 0 (23 * c + 1)) (g := U70 205 0 (23 * c + 1)) hU70 hU81 (by rw [ks]) rfl (by rw [ks]; have y := sb9 (T 232 0 (T 297 0 k)) (by omega) (by omega); omega) (by rw [ks]; have y := sb9 (T 233 0 (T 297 0 k)) (by omega) (by omega); omega) (by omega) (by omega) v
                have hf1 : T 205 0 (23 * c + (1 + re % 3)) = U12 205 0 (23 * c + 1) := by rw [k1, show 23 * c + (1 + re % 3) = 23 * c + 1 by omega]
                have hf2 : T 205 0 (23 * c + (3 - re % 3)) = U70 205 0 (23 * c + 1) := by rw [k2, show 23 * c + (3 - re % 3) = 23 * c + 1 by omega]
                rw [ga, ks, sp2 v a b, show (n - 1 - (k + (-1))).toNat = (n - 1 - k).toNat + 1 by omega, dw7_s]
                show _ = T 111 0 95 - T 291 0 v - ((if v = T 232 0 (T 297 0 (k + (-1) + 1)) then T 205 0 (23 * c + (1 + q9 / 3 ^ (n - 1 - k).toNat % 3)) else 0) + (if v = T 233 0 (T 297 0 (k + (-1) + 1)) then T 205 0 (23 * c + (3 - q9 / 3 ^ (n - 1 - k).toNat % 3)) else 0) + gs7_ (fun w => T 205 0 (23 * c + w)) (fun j => T 232 0 (T 297 0 j)) (fun j => T 233 0 (T 297 0 j)) (dw7_ (n - 1 - k).toNat (q9 % 3 ^ (n - 1 - k).toNat)) (k + (-1) + 1 + 1) v)
                rw [show k + (-1) + 1 = k by omega, ← re2, hf1, hf2]
                omega
              · rw [show (n - 1 - (k + (-1))).toNat = (n - 1 - k).toNat + 1 by omega, dw7_s]
                show U81 289 0 (T 297 0 (k + (-1) + 1)) :: la7_ (fun j => U81 289 0 (T 297 0 j)) (n - 1 - k).toNat (k + (-1) + 1 + 1) = _
                rw [show k + (-1) + 1 = k by omega, ← re2, ← wi2]
                have ek : ∀ y, U81 289 0 y = U12 289 0 y := fun y => (up_k hU81 (by exact Nat.ne_of_beq_eq_false rfl) 0 y).trans (up_k hU70 (by exact Nat.ne_of_beq_eq_false rfl) 0 y)
                rw [ek, up_f hU12]
                rw [la7_e (f := fun j => U81 289 0 (T 297 0 j)) (g := fun j => T2 289 0 (T 297 0 j)) (n - 1 - k).toNat (k + 1) (fun j a b => by
                  show U81 289 0 (T 297 0 j) = T2 289 0 (T 297 0 j)
                  rw [ek]
                  exact up_g hU12 (fun q => hop k j (by omega) (by omega) (by omega) q.2.2.symm))]
              · exact fun y hy => ((up_k hU81 (by exact Nat.ne_of_beq_eq_false rfl) 0 y).trans (up_k hU70 (by exact Nat.ne_of_beq_eq_false rfl) 0 y)).trans ((up_g hU12 (fun q => hy k (by omega) (by omega) q.2.2)).trans (wo2 y (fun j a b => hy j (by omega) b)))
            · refine hK 159 [some (vR 111 0), some (vI c), some (vI n), some (vI q9), some (vI (re / 3)), some (vI k), some (vI (re % 3))] [vI 2, vI c, vR 111 0, vI (U70 293 0 (T 233 0 (T 297 0 k))), vI (T 233 0 (T 297 0 k)), vR 293 0] U70 ?_
              refine j_callV (y := yX11_rule0) (Yc := zX11_rule0) (rest := [vI (U70 293 0 (T 233 0 (T 297 0 k))), vI (T 233 0 (T 297 0 k)), vR 293 0]) [vI c, vI 2] (ct_X11_rule0 (T := U70) (by omega) (by omega)) cl_X11_321 (qd_c (by decide +kernel)) (nn_ _) rfl (rf_of rfl) (Nat.le_of_ble_eq_true rfl) (Nat.le_of_ble_eq_true rfl) (Nat.le_of_ble_eq_true rfl) rfl ?_
              rintro _ _ ⟨rfl, rfl⟩
              have e83 : U70 205 0 (23 * c + 2) = T 205 0 (23 * c + 2) := (up_k hU70 (by exact Nat.ne_of_beq_eq_false rfl) 0 (23 * c + 2)).trans ((up_k hU12 (by exact Nat.ne_of_beq_eq_false rfl) 0 (23 * c + 2)).trans (hf_43 205 0 (23 * c + 2) rfl))
              show J_ zX11_isRowWell T (po_X11_isRowWell_e T c n q9) 0 0 162 _ [vI (U70 205 0 (23 * c + 2)), vI (U70 293 0 (T 233 0 (T 297 0 k))), vI (T 233 0 (T 297 0 k)), vR 293 0] U70
              refine j_blx (F := fX11) tb_X11 (nn_ _) bk_X11_isRowWell_e_162 bs_X11_isRowWell_e_162 hz (fun K hK => ?_)
              intro w84 w84b
              refine iy_i (by omega) (by omega) ?_
              refine x_nm (fun U85 hU85 => ?_)
              have e86 := up_f hU85
              refine rg_i (by omega) ?_
              refine hK 43 [some (vR 111 0), some (vI c), some (vI n), some (vI q9), some (vI (re / 3)), some (vI (k + (-1))), some (vI (re % 3))] [] U85 ?_
              refine j_drq [some (vR 111 0), some (vI c), some (vI n), some (vI q9), some (vI (re / 3)), some (vI (k + (-1))), none] (drq_s (drq_s (drq_s (drq_s (drq_s (drq_s (drq_n drq_0))))))) ?_
              refine ih_43 _ ?_ (re / 3) (k + (-1)) U85 (Nat.le_refl _) ?_ ?_ ?_ ?_ ?_ ?_
              · have hm_43 := hm_43 (); omega
              · exact fr_u (fr_u (fr_u (fr_t (fr_0 _ _) (fr_s hf_43 rfl)) hU12 rfl) hU70 rfl) hU85 rfl
              · omega
              · rw [show (n - 1 - (k + (-1))).toNat = (n - 1 - k).toNat + 1 by omega, Int.pow_succ, ← Int.ediv_ediv_of_nonneg (Int.le_of_lt (p37_ _)), ← re2]
              · intro v a b
                have k1 : U12 205 0 (23 * c + 1) = T 205 0 (23 * c + 1) := (up_k hU12 (by exact Nat.ne_of_beq_eq_false rfl) 0 (23 * c + 1)).trans (hf_43 205 0 (23 * c + 1) rfl)
                have k2 : U70 205 0 (23 * c + 2) = T 205 0 (23 * c + 2) := (up_k hU70 (by exact Nat.ne_of_beq_eq_false rfl) 0 (23 * c + 2)).trans ((up_k hU12 (by exact Nat.ne_of_beq_eq_false rfl) 0 (23 * c + 2)).trans (hf_43 205 0 (23 * c + 2) rfl))
                have r1 : 0 ≤ T 205 0 (23 * c + 1) ∧ T 205 0 (23 * c + 1) ≤ 1000 := hrl 1 (by decide)
                have r2 : 0 ≤ T 205 0 (23 * c + 2) ∧ T 205 0 (23 * c + 2) ≤ 1000 := hrl 2 (by decide)
                have ks : ∀ y, U12 293 0 y = T2 293 0 y := fun y => up_k hU12 (by exact Nat.ne_of_beq_eq_false rfl) 0 y
                have ga := ga7_u (f := U12 205 0 (23 * c + 1)) (g := U70 205 0 (23 * c + 2)) hU70 hU85 (by rw [ks]) rfl (by rw [ks]; have y := sb9 (T 232 0 (T 297 0 k)) (by omega) (by omega); omega) (by rw [ks]; have y := sb9 (T 233 0 (T 297 0 k)) (by omega) (by omega); omega) (by omega) (by omega) v
                have hf1 : T 205 0 (23 * c + (1 + re % 3)) = U12 205 0 (23 * c + 1) := by rw [k1, show 23 * c + (1 + re % 3) = 23 * c + 1 by omega]
                have hf2 : T 205 0 (23 * c + (3 - re % 3)) = U70 205 0 (23 * c + 2) := by rw [k2, show 23 * c + (3 - re % 3) = 23 * c + 2 by omega]
                rw [ga, ks, sp2 v a b, show (n - 1 - (k + (-1))).toNat = (n - 1 - k).toNat + 1 by omega, dw7_s]
                show _ = T 111 0 95 - T 291 0 v - ((if v = T 232 0 (T 297 0 (k + (-1) + 1)) then T 205 0 (23 * c + (1 + q9 / 3 ^ (n - 1 - k).toNat % 3)) else 0) + (if v = T 233 0 (T 297 0 (k + (-1) + 1)) then T 205 0 (23 * c + (3 - q9 / 3 ^ (n - 1 - k).toNat % 3)) else 0) + gs7_ (fun w => T 205 0 (23 * c + w)) (fun j => T 232 0 (T 297 0 j)) (fun j => T 233 0 (T 297 0 j)) (dw7_ (n - 1 - k).toNat (q9 % 3 ^ (n - 1 - k).toNat)) (k + (-1) + 1 + 1) v)
                rw [show k + (-1) + 1 = k by omega, ← re2, hf1, hf2]
                omega
              · rw [show (n - 1 - (k + (-1))).toNat = (n - 1 - k).toNat + 1 by omega, dw7_s]
                show U85 289 0 (T 297 0 (k + (-1) + 1)) :: la7_ (fun j => U85 289 0 (T 297 0 j)) (n - 1 - k).toNat (k + (-1) + 1 + 1) = _
                rw [show k + (-1) + 1 = k by omega, ← re2, ← wi2]
                have ek : ∀ y, U85 289 0 y = U12 289 0 y := fun y => (up_k hU85 (by exact Nat.ne_of_beq_eq_false rfl) 0 y).trans (up_k hU70 (by exact Nat.ne_of_beq_eq_false rfl) 0 y)
                rw [ek, up_f hU12]
                rw [la7_e (f := fun j => U85 289 0 (T 297 0 j)) (g := fun j => T2 289 0 (T 297 0 j)) (n - 1 - k).toNat (k + 1) (fun j a b => by
                  show U85 289 0 (T 297 0 j) = T2 289 0 (T 297 0 j)
                  rw [ek]
                  exact up_g hU12 (fun q => hop k j (by omega) (by omega) (by omega) q.2.2.symm))]
              · exact fun y hy => ((up_k hU85 (by exact Nat.ne_of_beq_eq_false rfl) 0 y).trans (up_k hU70 (by exact Nat.ne_of_beq_eq_false rfl) 0 y)).trans ((up_g hU12 (fun q => hy k (by omega) (by omega) q.2.2)).trans (wo2 y (fun j a b => hy j (by omega) b)))
          · refine hK 159 _ [vI 3, vI c, vR 111 0, vI (U70 293 0 (T 233 0 (T 297 0 k))), vI (T 233 0 (T 297 0 k)), vR 293 0] U70 ?_
            refine j_callV (y := yX11_rule0) (Yc := zX11_rule0) (rest := [vI (U70 293 0 (T 233 0 (T 297 0 k))), vI (T 233 0 (T 297 0 k)), vR 293 0]) [vI c, vI 3] (ct_X11_rule0 (T := U70) (by omega) (by omega)) cl_X11_321 (qd_c (by decide +kernel)) (nn_ _) rfl (rf_of rfl) (Nat.le_of_ble_eq_true rfl) (Nat.le_of_ble_eq_true rfl) (Nat.le_of_ble_eq_true rfl) rfl ?_
            rintro _ _ ⟨rfl, rfl⟩
            have e87 : U70 205 0 (23 * c + 3) = T 205 0 (23 * c + 3) := (up_k hU70 (by exact Nat.ne_of_beq_eq_false rfl) 0 (23 * c + 3)).trans ((up_k hU12 (by exact Nat.ne_of_beq_eq_false rfl) 0 (23 * c + 3)).trans (hf_43 205 0 (23 * c + 3) rfl))
            show J_ zX11_isRowWell T (po_X11_isRowWell_e T c n q9) 0 0 162 _ [vI (U70 205 0 (23 * c + 3)), vI (U70 293 0 (T 233 0 (T 297 0 k))), vI (T 233 0 (T 297 0 k)), vR 293 0] U70
            refine j_blx (F := fX11) tb_X11 (nn_ _) bk_X11_isRowWell_e_162 bs_X11_isRowWell_e_162 hz (fun K hK => ?_)
            intro w88 w88b
            refine iy_i (by omega) (by omega) ?_
            refine x_nm (fun U89 hU89 => ?_)
            have e90 := up_f hU89
            refine rg_i (by omega) ?_
            refine hK 43 [some (vR 111 0), some (vI c), some (vI n), some (vI q9), some (vI (re / 3)), some (vI (k + (-1))), some (vI (re % 3))] [] U89 ?_
            refine j_drq [some (vR 111 0), some (vI c), some (vI n), some (vI q9), some (vI (re / 3)), some (vI (k + (-1))), none] (drq_s (drq_s (drq_s (drq_s (drq_s (drq_s (drq_n drq_0))))))) ?_
            refine ih_43 _ ?_ (re / 3) (k + (-1)) U89 (Nat.le_refl _) ?_ ?_ ?_ ?_ ?_ ?_
            · have hm_43 := hm_43 (); omega
            · exact fr_u (fr_u (fr_u (fr_t (fr_0 _ _) (fr_s hf_43 rfl)) hU12 rfl) hU70 rfl) hU89 rfl
            · omega
            · rw [show (n - 1 - (k + (-1))).toNat = (n - 1 - k).toNat + 1 by omega, Int.pow_succ, ← Int.ediv_ediv_of_nonneg (Int.le_of_lt (p37_ _)), ← re2]
            · intro v a b
              have k1 : U12 205 0 (23 * c + 1) = T 205 0 (23 * c + 1) := (up_k hU12 (by exact Nat.ne_of_beq_eq_false rfl) 0 (23 * c + 1)).trans (hf_43 205 0 (23 * c + 1) rfl)
              have k2 : U70 205 0 (23 * c + 3) = T 205 0 (23 * c + 3) := (up_k hU70 (by exact Nat.ne_of_beq_eq_false rfl) 0 (23 * c + 3)).trans ((up_k hU12 (by exact Nat.ne_of_beq_eq_false rfl) 0 (23 * c + 3)).trans (hf_43 205 0 (23 * c + 3) rfl))
              have r1 : 0 ≤ T 205 0 (23 * c + 1) ∧ T 205 0 (23 * c + 1) ≤ 1000 := hrl 1 (by decide)
              have r2 : 0 ≤ T 205 0 (23 * c + 3) ∧ T 205 0 (23 * c + 3) ≤ 1000 := hrl 3 (by decide)
              have ks : ∀ y, U12 293 0 y = T2 293 0 y := fun y => up_k hU12 (by exact Nat.ne_of_beq_eq_false rfl) 0 y
              have ga := ga7_u (f := U12 205 0 (23 * c + 1)) (g := U70 205 0 (23 * c + 3)) hU70 hU89 (by rw [ks]) rfl (by rw [ks]; have y := sb9 (T 232 0 (T 297 0 k)) (by omega) (by omega); omega) (by rw [ks]; have y := sb9 (T 233 0 (T 297 0 k)) (by omega) (by omega); omega) (by omega) (by omega) v
              have hf1 : T 205 0 (23 * c + (1 + re % 3)) = U12 205 0 (23 * c + 1) := by rw [k1, show 23 * c + (1 + re % 3) = 23 * c + 1 by omega]
              have hf2 : T 205 0 (23 * c + (3 - re % 3)) = U70 205 0 (23 * c + 3) := by rw [k2, show 23 * c + (3 - re % 3) = 23 * c + 3 by omega]
              rw [ga, ks, sp2 v a b, show (n - 1 - (k + (-1))).toNat = (n - 1 - k).toNat + 1 by omega, dw7_s]
              show _ = T 111 0 95 - T 291 0 v - ((if v = T 232 0 (T 297 0 (k + (-1) + 1)) then T 205 0 (23 * c + (1 + q9 / 3 ^ (n - 1 - k).toNat % 3)) else 0) + (if v = T 233 0 (T 297 0 (k + (-1) + 1)) then T 205 0 (23 * c + (3 - q9 / 3 ^ (n - 1 - k).toNat % 3)) else 0) + gs7_ (fun w => T 205 0 (23 * c + w)) (fun j => T 232 0 (T 297 0 j)) (fun j => T 233 0 (T 297 0 j)) (dw7_ (n - 1 - k).toNat (q9 % 3 ^ (n - 1 - k).toNat)) (k + (-1) + 1 + 1) v)
              rw [show k + (-1) + 1 = k by omega, ← re2, hf1, hf2]
              omega
            · rw [show (n - 1 - (k + (-1))).toNat = (n - 1 - k).toNat + 1 by omega, dw7_s]
              show U89 289 0 (T 297 0 (k + (-1) + 1)) :: la7_ (fun j => U89 289 0 (T 297 0 j)) (n - 1 - k).toNat (k + (-1) + 1 + 1) = _
              rw [show k + (-1) + 1 = k by omega, ← re2, ← wi2]
              have ek : ∀ y, U89 289 0 y = U12 289 0 y := fun y => (up_k hU89 (by exact Nat.ne_of_beq_eq_false rfl) 0 y).trans (up_k hU70 (by exact Nat.ne_of_beq_eq_false rfl) 0 y)
              rw [ek, up_f hU12]
              rw [la7_e (f := fun j => U89 289 0 (T 297 0 j)) (g := fun j => T2 289 0 (T 297 0 j)) (n - 1 - k).toNat (k + 1) (fun j a b => by
                show U89 289 0 (T 297 0 j) = T2 289 0 (T 297 0 j)
                rw [ek]
                exact up_g hU12 (fun q => hop k j (by omega) (by omega) (by omega) q.2.2.symm))]
            · exact fun y hy => ((up_k hU89 (by exact Nat.ne_of_beq_eq_false rfl) 0 y).trans (up_k hU70 (by exact Nat.ne_of_beq_eq_false rfl) 0 y)).trans ((up_g hU12 (fun q => hy k (by omega) (by omega) q.2.2)).trans (wo2 y (fun j a b => hy j (by omega) b)))
  have c_3 : ∀ (nn : Nat) (k : Int) (T1 : Zt), ((12 - k).toNat) ≤ nn → (fr_ [(293, [])] T T1) → (0 ≤ k ∧ k ≤ 12) → (∀ v, 0 ≤ v → v < k → T1 293 0 v = T 111 0 95 - T 291 0 v) → J_ zX11_isRowWell T (po_X11_isRowWell_e T c n q9) 0 0 3 [some (vR 111 0), some (vI c), some (vI n), some (vI q9), some (vI k), none, none] [] T1 := by
    intro nn
    induction nn using Nat.strongRecOn with
    | _ nn ih_3 =>
      intro k T1 hm_3 hf_3 i1 s1
      replace hm_3 := fun (_ : Unit) => hm_3
      refine j_blx (F := fX11) tb_X11 (nn_ _) bk_X11_isRowWell_e_3 bs_X11_isRowWell_e_3 hz (fun K hK => ?_)
      refine And.intro (fun c91 => ?_) (fun c91 => ?_)
      · refine hK 35 _ [] T1 ?_
        refine j_blx (F := fX11) tb_X11 (nn_ _) bk_X11_isRowWell_e_35 bs_X11_isRowWell_e_35 hz (fun K hK => ?_)
        refine rg_i (by omega) ?_
        refine hK 43 [some (vR 111 0), some (vI c), some (vI n), some (vI q9), some (vI q9), some (vI (n - 1)), none] [] T1 ?_
        refine c_43 _ q9 (n - 1) T1 (Nat.le_refl _) ?_ ?_ ?_ ?_ ?_ ?_
        · exact fr_t (fr_0 _ _) (fr_s hf_3 rfl)
        · omega
        · rw [show (n - 1 - (n - 1)).toNat = 0 by omega, Int.pow_zero, Int.ediv_one]
        · intro v a b
          rw [s1 v a (by omega), show (n - 1 - (n - 1)).toNat = 0 by omega]
          show _ = T 111 0 95 - T 291 0 v - 0
          omega
        · rw [show (n - 1 - (n - 1)).toNat = 0 by omega]
          rfl
        · exact fun y _ => hf_3 289 0 y rfl
      · intro b92 b92b
        have e93 : T1 111 0 95 = T 111 0 95 := hf_3 111 0 95 rfl
        rw [e93] at b92 b92b ⊢
        refine ix_i (by omega) ?_
        intro b94 b94b
        have e95 : T1 291 0 k = T 291 0 k := hf_3 291 0 k rfl
        rw [e95] at b94 b94b ⊢
        intro w96 w96b
        refine iy_i (by omega) (by omega) ?_
        refine x_nm (fun U97 hU97 => ?_)
        have e98 := up_f hU97
        refine rg_i (by omega) ?_
        refine hK 3 [some (vR 111 0), some (vI c), some (vI n), some (vI q9), some (vI (k + 1)), none, none] [] U97 ?_
        refine ih_3 _ ?_ (k + 1) U97 (Nat.le_refl _) ?_ ?_ ?_
        · have hm_3 := hm_3 (); omega
        · exact fr_u (fr_t (fr_0 _ _) (fr_s hf_3 rfl)) hU97 rfl
        · omega
        · intro v a b
          by_cases z : v = k
          · rw [z, up_f hU97]
            have y := hpb k (by omega) (by omega)
            rw [wr_9 (by omega)]
          · rw [up_g hU97 (fun q => z q.2.2)]; exact s1 v a (by omega)
  refine j_blx (F := fX11) tb_X11 (nn_ _) bk_X11_isRowWell_e_0 bs_X11_isRowWell_e_0 hz (fun K hK => ?_)
  refine hK 3 [some (vR 111 0), some (vI c), some (vI n), some (vI q9), some (vI 0), none, none] [] T ?_
  refine c_3 _ 0 T (Nat.le_refl _) ?_ ?_ ?_
  · exact fr_0 _ _
  · omega
  · intro v a b; omega
-- who can be first: what the reference lists of the matches left, words
/-- match k of a competition is left, and a club is not in it (reference) -/
def OE7_ (T : Zt) (c b k : Int) : Prop := (T 235 0 (T 210 0 c + k) = 0 ∨ T 235 0 (T 210 0 c + k) = 1) ∧ ¬ (T 232 0 (T 210 0 c + k) = b ∨ T 233 0 (T 210 0 c + k) = b)
/-- match k of a competition is left, and a club is in it (reference) -/
def ON7_ (T : Zt) (c b k : Int) : Prop := (T 235 0 (T 210 0 c + k) = 0 ∨ T 235 0 (T 210 0 c + k) = 1) ∧ (T 232 0 (T 210 0 c + k) = b ∨ T 233 0 (T 210 0 c + k) = b)
/-- what the matches of a club itself give the others: the loser's points -/
noncomputable def ol7_ (T : Zt) (c b v : Int) : Nat → Int
  | 0 => 0
  | n + 1 => ol7_ T c b v n + cz_ (ON7_ T c b (n : Int) ∧ v = cz_ (T 232 0 (T 210 0 c + (n : Int)) = b) (T 233 0 (T 210 0 c + (n : Int))) (T 232 0 (T 210 0 c + (n : Int)))) (T 205 0 (23 * c + 3)) 0
theorem ol7_s {T : Zt} {c b v k : Int} (h : 0 ≤ k) : ol7_ T c b v (k + 1).toNat = ol7_ T c b v k.toNat + cz_ (ON7_ T c b k ∧ v = cz_ (T 232 0 (T 210 0 c + k) = b) (T 233 0 (T 210 0 c + k)) (T 232 0 (T 210 0 c + k))) (T 205 0 (23 * c + 3)) 0 := by
  rw [show (k + 1).toNat = k.toNat + 1 by omega]
  show _ + cz_ (ON7_ T c b ((k.toNat : Nat) : Int) ∧ v = cz_ (T 232 0 (T 210 0 c + ((k.toNat : Nat) : Int)) = b) (T 233 0 (T 210 0 c + ((k.toNat : Nat) : Int))) (T 232 0 (T 210 0 c + ((k.toNat : Nat) : Int)))) (T 205 0 (23 * c + 3)) 0 = _
  rw [show ((k.toNat : Nat) : Int) = k by omega]
theorem ol7_b {T : Zt} {c b v : Int} (h : 0 ≤ T 205 0 (23 * c + 3) ∧ T 205 0 (23 * c + 3) ≤ 1000) : ∀ n : Nat, 0 ≤ ol7_ T c b v n ∧ ol7_ T c b v n ≤ 1000 * (n : Int)
  | 0 => by
    show (0 : Int) ≤ 0 ∧ (0 : Int) ≤ 1000 * ((0 : Nat) : Int)
    omega
  | n + 1 => by
    have ih := ol7_b (b := b) (v := v) h n
    show 0 ≤ ol7_ T c b v n + cz_ _ _ _ ∧ ol7_ T c b v n + cz_ _ _ _ ≤ _
    by_cases z : ON7_ T c b (n : Int) ∧ v = cz_ (T 232 0 (T 210 0 c + (n : Int)) = b) (T 233 0 (T 210 0 c + (n : Int))) (T 232 0 (T 210 0 c + (n : Int)))
    · rw [cz_t z]
      omega
    · rw [cz_f z]
      omega
theorem gs7_c {ru hs aw hs' aw' : Int → Int} : ∀ (l : List Int) (k v : Int), (∀ j, k ≤ j → j < k + (l.length : Int) → hs j = hs' j ∧ aw j = aw' j) → gs7_ ru hs aw l k v = gs7_ ru hs' aw' l k v
  | [], _, _, _ => rfl
  | r :: l, k, v, h => by
    have g := h k (by omega) (by rw [List.length_cons]; omega)
    show (if v = hs k then ru (1 + r) else 0) + (if v = aw k then ru (3 - r) else 0) + gs7_ ru hs aw l (k + 1) v = (if v = hs' k then ru (1 + r) else 0) + (if v = aw' k then ru (3 - r) else 0) + gs7_ ru hs' aw' l (k + 1) v
    rw [g.1, g.2, gs7_c l (k + 1) v (fun j a b => h j (by omega) (by rw [List.length_cons]; omega))]
theorem ok7_k {ru hs aw hs' aw' : Int → Int} {V : Int → Prop} {be : Int} {l : List Int} {k : Int} {p p' : Int → Int} (h : ∀ j, k ≤ j → j < k + (l.length : Int) → hs j = hs' j ∧ aw j = aw' j) (e : ∀ v, V v → p v = p' v) : ok7_ ru hs aw V be l k p ↔ ok7_ ru hs' aw' V be l k p' := by
  rw [ok7_g, ok7_g]
  refine ⟨fun g v hv => ?_, fun g v hv => ?_⟩
  · rw [← e v hv, ← gs7_c l k v h]; exact g v hv
  · rw [e v hv, gs7_c l k v h]; exact g v hv
theorem p38_ : ∀ n : Nat, n ≤ 7 → (3 : Int) ^ n ≤ 2187
  | 0, _ => by decide
  | 1, _ => by decide
  | 2, _ => by decide
  | 3, _ => by decide
  | 4, _ => by decide
  | 5, _ => by decide
  | 6, _ => by decide
  | 7, _ => by decide
  | n + 8, h => absurd h (by omega)
/-- what the rows of results say -/
def CT7_ (T T' : Zt) (c cl x : Int) : Prop := (x = 2 ∧ 8 < (dl9_ (OE7_ T c cl) (T 211 0 c).toNat).1) ∨ ((dl9_ (OE7_ T c cl) (T 211 0 c).toNat).1 ≤ 8 ∧ (∀ j, 0 ≤ j → j < T 211 0 c → ON7_ T c cl j → T' 289 0 (T 210 0 c + j) = cz_ (T 232 0 (T 210 0 c + j) = cl) 0 2) ∧ (∀ y, (∀ j, 0 ≤ j → j < T 211 0 c → ON7_ T c cl j ∨ OE7_ T c cl j → y ≠ T 210 0 c + j) → T' 289 0 y = T 289 0 y) ∧ ((x = 1 ∧ ∃ w : Int, (0 ≤ w ∧ w < 3 ^ ((dl9_ (OE7_ T c cl) (T 211 0 c).toNat).1).toNat) ∧ ok7_ (fun w => T 205 0 (23 * c + w)) (fun j => T 232 0 (T 210 0 c + (dl9_ (OE7_ T c cl) (T 211 0 c).toNat).2 j)) (fun j => T 233 0 (T 210 0 c + (dl9_ (OE7_ T c cl) (T 211 0 c).toNat).2 j)) (fun v => ∃ i9 : Int, (0 ≤ i9 ∧ i9 < T 208 0 c) ∧ T 207 0 (12 * c + i9) = v) (T 111 0 95) (dw7_ ((dl9_ (OE7_ T c cl) (T 211 0 c).toNat).1).toNat w) 0 (fun v => T 291 0 v + ol7_ T c cl v (T 211 0 c).toNat) ∧ (∀ u, 0 ≤ u → u < w → ¬ ok7_ (fun w => T 205 0 (23 * c + w)) (fun j => T 232 0 (T 210 0 c + (dl9_ (OE7_ T c cl) (T 211 0 c).toNat).2 j)) (fun j => T 233 0 (T 210 0 c + (dl9_ (OE7_ T c cl) (T 211 0 c).toNat).2 j)) (fun v => ∃ i9 : Int, (0 ≤ i9 ∧ i9 < T 208 0 c) ∧ T 207 0 (12 * c + i9) = v) (T 111 0 95) (dw7_ ((dl9_ (OE7_ T c cl) (T 211 0 c).toNat).1).toNat u) 0 (fun v => T 291 0 v + ol7_ T c cl v (T 211 0 c).toNat)) ∧ la7_ (fun j => T' 289 0 (T 210 0 c + (dl9_ (OE7_ T c cl) (T 211 0 c).toNat).2 j)) ((dl9_ (OE7_ T c cl) (T 211 0 c).toNat).1).toNat 0 = dw7_ ((dl9_ (OE7_ T c cl) (T 211 0 c).toNat).1).toNat w) ∨ (x = 0 ∧ ∀ w : Int, 0 ≤ w → w < 3 ^ ((dl9_ (OE7_ T c cl) (T 211 0 c).toNat).1).toNat → ¬ ok7_ (fun w => T 205 0 (23 * c + w)) (fun j => T 232 0 (T 210 0 c + (dl9_ (OE7_ T c cl) (T 211 0 c).toNat).2 j)) (fun j => T 233 0 (T 210 0 c + (dl9_ (OE7_ T c cl) (T 211 0 c).toNat).2 j)) (fun v => ∃ i9 : Int, (0 ≤ i9 ∧ i9 < T 208 0 c) ∧ T 207 0 (12 * c + i9) = v) (T 111 0 95) (dw7_ ((dl9_ (OE7_ T c cl) (T 211 0 c).toNat).1).toNat w) 0 (fun v => T 291 0 v + ol7_ T c cl v (T 211 0 c).toNat))))
theorem bk_X11_canTry_e_203 : ck_ fX11 (some .int) cX11_canTry 203 [.iload 6, .iload 4, .if_icmp .ge 231, .iload 5, .ifCond .ne 231, .aload 0, .iload 1, .iload 3, .iload 6] 220 = true := qck_r (nn_ _) (by decide +kernel)
theorem bs_X11_canTry_e_203 {P : Zt → Option Zv → Prop} (K : Int → Zl → List Zv → Zt → Prop) : sx_ K P [.iload 6, .iload 4, .if_icmp .ge 231, .iload 5, .ifCond .ne 231, .aload 0, .iload 1, .iload 3, .iload 6] 220 = x_iload 6 (x_iload 4 (x_if_icmp .ge 231 K (x_iload 5 (x_ifCond .ne 231 K (x_aload 0 (x_iload 1 (x_iload 3 (x_iload 6 (K 220))))))))) := ((xe_iload 6).trans (congrArg (x_iload 6) ((xe_iload 4).trans (congrArg (x_iload 4) ((xe_if_icmp .ge 231).trans (congrArg (x_if_icmp .ge 231 K) ((xe_iload 5).trans (congrArg (x_iload 5) ((xe_ifCond .ne 231).trans (congrArg (x_ifCond .ne 231 K) ((xe_aload 0).trans (congrArg (x_aload 0) ((xe_iload 1).trans (congrArg (x_iload 1) ((xe_iload 3).trans (congrArg (x_iload 3) ((xe_iload 6).trans (congrArg (x_iload 6) xe_nil))))))))))))))))))
theorem bk_X11_canTry_e_231 : ck_ fX11 (some .int) cX11_canTry 231 [.iload 5, .ifCond .eq 240, .iconst 1, .goto 241] 240 = true := qck_r (nn_ _) (by decide +kernel)
theorem bs_X11_canTry_e_231 {P : Zt → Option Zv → Prop} (K : Int → Zl → List Zv → Zt → Prop) : sx_ K P [.iload 5, .ifCond .eq 240, .iconst 1, .goto 241] 240 = x_iload 5 (x_ifCond .eq 240 K (x_iconst 1 (x_goto 241 K))) := ((xe_iload 5).trans (congrArg (x_iload 5) ((xe_ifCond .eq 240).trans (congrArg (x_ifCond .eq 240 K) ((xe_iconst 1).trans (congrArg (x_iconst 1) (xe_goto 241)))))))
theorem bk_X11_canTry_e_240 : ck_ fX11 (some .int) cX11_canTry 240 [.iconst 0, .ireturn] 242 = true := qck_r (nn_ _) (by decide +kernel)
theorem bs_X11_canTry_e_240 {P : Zt → Option Zv → Prop} (K : Int → Zl → List Zv → Zt → Prop) : sx_ K P [.iconst 0, .ireturn] 242 = x_iconst 0 (x_ireturn P) := ((xe_iconst 0).trans (congrArg (x_iconst 0) (xe_ireturn)))
theorem bk_X11_canTry_e_241 : ck_ fX11 (some .int) cX11_canTry 241 [.ireturn] 242 = true := qck_r (nn_ _) (by decide +kernel)
theorem bs_X11_canTry_e_241 {P : Zt → Option Zv → Prop} (K : Int → Zl → List Zv → Zt → Prop) : sx_ K P [.ireturn] 242 = x_ireturn P := (xe_ireturn)
theorem bk_X11_canTry_e_223 : ck_ fX11 (some .int) cX11_canTry 223 [.istore 5, .iinc 6 1, .goto 203] 231 = true := qck_r (nn_ _) (by decide +kernel)
theorem bs_X11_canTry_e_223 {P : Zt → Option Zv → Prop} (K : Int → Zl → List Zv → Zt → Prop) : sx_ K P [.istore 5, .iinc 6 1, .goto 203] 231 = x_istore 5 (x_iinc 6 1 (x_goto 203 K)) := ((xe_istore 5).trans (congrArg (x_istore 5) ((xe_iinc 6 1).trans (congrArg (x_iinc 6 1) (xe_goto 203)))))
theorem bk_X11_canTry_e_179 : ck_ fX11 (some .int) cX11_canTry 179 [.iload 5, .iload 3, .if_icmp .ge 197, .iconst 3, .iload 4, .fmul, .istore 4, .iinc 5 1, .goto 179] 197 = true := qck_r (nn_ _) (by decide +kernel)
theorem bs_X11_canTry_e_179 {P : Zt → Option Zv → Prop} (K : Int → Zl → List Zv → Zt → Prop) : sx_ K P [.iload 5, .iload 3, .if_icmp .ge 197, .iconst 3, .iload 4, .fmul, .istore 4, .iinc 5 1, .goto 179] 197 = x_iload 5 (x_iload 3 (x_if_icmp .ge 197 K (x_iconst 3 (x_iload 4 (x_fmul (x_istore 4 (x_iinc 5 1 (x_goto 179 K)))))))) := ((xe_iload 5).trans (congrArg (x_iload 5) ((xe_iload 3).trans (congrArg (x_iload 3) ((xe_if_icmp .ge 197).trans (congrArg (x_if_icmp .ge 197 K) ((xe_iconst 3).trans (congrArg (x_iconst 3) ((xe_iload 4).trans (congrArg (x_iload 4) ((xe_fmul).trans (congrArg (x_fmul) ((xe_istore 4).trans (congrArg (x_istore 4) ((xe_iinc 5 1).trans (congrArg (x_iinc 5 1) (xe_goto 179)))))))))))))))))
theorem bk_X11_canTry_e_197 : ck_ fX11 (some .int) cX11_canTry 197 [.iconst 0, .istore 5, .iconst 0, .istore 6] 203 = true := qck_r (nn_ _) (by decide +kernel)
theorem bs_X11_canTry_e_197 {P : Zt → Option Zv → Prop} (K : Int → Zl → List Zv → Zt → Prop) : sx_ K P [.iconst 0, .istore 5, .iconst 0, .istore 6] 203 = x_iconst 0 (x_istore 5 (x_iconst 0 (x_istore 6 (K 203)))) := ((xe_iconst 0).trans (congrArg (x_iconst 0) ((xe_istore 5).trans (congrArg (x_istore 5) ((xe_iconst 0).trans (congrArg (x_iconst 0) ((xe_istore 6).trans (congrArg (x_istore 6) xe_nil))))))))
theorem bk_X11_canTry_e_55 : ck_ fX11 (some .int) cX11_canTry 55 [.istore 5, .aload 0, .iload 4] 60 = true := qck_r (nn_ _) (by decide +kernel)
theorem bs_X11_canTry_e_55 {P : Zt → Option Zv → Prop} (K : Int → Zl → List Zv → Zt → Prop) : sx_ K P [.istore 5, .aload 0, .iload 4] 60 = x_istore 5 (x_aload 0 (x_iload 4 (K 60))) := ((xe_istore 5).trans (congrArg (x_istore 5) ((xe_aload 0).trans (congrArg (x_aload 0) ((xe_iload 4).trans (congrArg (x_iload 4) xe_nil))))))
theorem bk_X11_canTry_e_63 : ck_ fX11 (some .int) cX11_canTry 63 [.ifCond .eq 139, .iload 5, .ifCond .eq 139, .aload 0, .tableswitch 0 11 89 #[], .iload 4, .aload 0, .tableswitch 0 11 32 #[], .iload 4, .iaload, .iload 2, .if_icmp .ne 92, .iconst 0, .goto 93] 92 = true := qck_r (nn_ _) (by decide +kernel)
theorem bs_X11_canTry_e_63 {P : Zt → Option Zv → Prop} (K : Int → Zl → List Zv → Zt → Prop) : sx_ K P [.ifCond .eq 139, .iload 5, .ifCond .eq 139, .aload 0, .tableswitch 0 11 89 #[], .iload 4, .aload 0, .tableswitch 0 11 32 #[], .iload 4, .iaload, .iload 2, .if_icmp .ne 92, .iconst 0, .goto 93] 92 = x_ifCond .eq 139 K (x_iload 5 (x_ifCond .eq 139 K (x_aload 0 (x_g1 111 289 (x_iload 4 (x_aload 0 (x_g1 111 232 (x_iload 4 (x_iaload (x_iload 2 (x_if_icmp .ne 92 K (x_iconst 0 (x_goto 93 K))))))))))))) := ((xe_ifCond .eq 139).trans (congrArg (x_ifCond .eq 139 K) ((xe_iload 5).trans (congrArg (x_iload 5) ((xe_ifCond .eq 139).trans (congrArg (x_ifCond .eq 139 K) ((xe_aload 0).trans (congrArg (x_aload 0) ((xe_g1 (kk := 111) rfl tl_11_89).trans (congrArg (x_g1 111 289) ((xe_iload 4).trans (congrArg (x_iload 4) ((xe_aload 0).trans (congrArg (x_aload 0) ((xe_g1 (kk := 111) rfl tl_11_32).trans (congrArg (x_g1 111 232) ((xe_iload 4).trans (congrArg (x_iload 4) ((xe_iaload).trans (congrArg (x_iaload) ((xe_iload 2).trans (congrArg (x_iload 2) ((xe_if_icmp .ne 92).trans (congrArg (x_if_icmp .ne 92 K) ((xe_iconst 0).trans (congrArg (x_iconst 0) (xe_goto 93)))))))))))))))))))))))))))
theorem bk_X11_canTry_e_139 : ck_ fX11 (some .int) cX11_canTry 139 [.aload 0, .iload 4] 142 = true := qck_r (nn_ _) (by decide +kernel)
theorem bs_X11_canTry_e_139 {P : Zt → Option Zv → Prop} (K : Int → Zl → List Zv → Zt → Prop) : sx_ K P [.aload 0, .iload 4] 142 = x_aload 0 (x_iload 4 (K 142)) := ((xe_aload 0).trans (congrArg (x_aload 0) ((xe_iload 4).trans (congrArg (x_iload 4) xe_nil))))
theorem bk_X11_canTry_e_145 : ck_ fX11 (some .int) cX11_canTry 145 [.ifCond .eq 159, .aload 0, .tableswitch 0 11 97 #[], .iload 3, .iload 4, .iastore, .iinc 3 1, .iinc 4 1, .goto 10] 165 = true := qck_r (nn_ _) (by decide +kernel)
theorem bs_X11_canTry_e_145 {P : Zt → Option Zv → Prop} (K : Int → Zl → List Zv → Zt → Prop) : sx_ K P [.ifCond .eq 159, .aload 0, .tableswitch 0 11 97 #[], .iload 3, .iload 4, .iastore, .iinc 3 1, .iinc 4 1, .goto 10] 165 = x_ifCond .eq 159 K (x_aload 0 (x_g1 111 297 (x_iload 3 (x_iload 4 (x_iastore (x_iinc 3 1 (x_iinc 4 1 (x_goto 10 K)))))))) := ((xe_ifCond .eq 159).trans (congrArg (x_ifCond .eq 159 K) ((xe_aload 0).trans (congrArg (x_aload 0) ((xe_g1 (kk := 111) rfl tl_11_97).trans (congrArg (x_g1 111 297) ((xe_iload 3).trans (congrArg (x_iload 3) ((xe_iload 4).trans (congrArg (x_iload 4) ((xe_iastore).trans (congrArg (x_iastore) ((xe_iinc 3 1).trans (congrArg (x_iinc 3 1) ((xe_iinc 4 1).trans (congrArg (x_iinc 4 1) (xe_goto 10)))))))))))))))))
theorem bk_X11_canTry_e_159 : ck_ fX11 (some .int) cX11_canTry 159 [.iinc 4 1, .goto 10] 165 = true := qck_r (nn_ _) (by decide +kernel)
theorem bs_X11_canTry_e_159 {P : Zt → Option Zv → Prop} (K : Int → Zl → List Zv → Zt → Prop) : sx_ K P [.iinc 4 1, .goto 10] 165 = x_iinc 4 1 (x_goto 10 K) := ((xe_iinc 4 1).trans (congrArg (x_iinc 4 1) (xe_goto 10)))
theorem bk_X11_canTry_e_92 : ck_ fX11 (some .int) cX11_canTry 92 [.iconst 2, .iastore, .aload 0, .tableswitch 0 11 91 #[], .aload 0, .tableswitch 0 11 32 #[], .iload 4, .iaload, .iload 2, .if_icmp .ne 119, .aload 0, .tableswitch 0 11 33 #[], .iload 4, .iaload, .goto 126] 119 = true := qck_r (nn_ _) (by decide +kernel)
theorem bs_X11_canTry_e_92 {P : Zt → Option Zv → Prop} (K : Int → Zl → List Zv → Zt → Prop) : sx_ K P [.iconst 2, .iastore, .aload 0, .tableswitch 0 11 91 #[], .aload 0, .tableswitch 0 11 32 #[], .iload 4, .iaload, .iload 2, .if_icmp .ne 119, .aload 0, .tableswitch 0 11 33 #[], .iload 4, .iaload, .goto 126] 119 = x_iconst 2 (x_iastore (x_aload 0 (x_g1 111 291 (x_aload 0 (x_g1 111 232 (x_iload 4 (x_iaload (x_iload 2 (x_if_icmp .ne 119 K (x_aload 0 (x_g1 111 233 (x_iload 4 (x_iaload (x_goto 126 K)))))))))))))) := ((xe_iconst 2).trans (congrArg (x_iconst 2) ((xe_iastore).trans (congrArg (x_iastore) ((xe_aload 0).trans (congrArg (x_aload 0) ((xe_g1 (kk := 111) rfl tl_11_91).trans (congrArg (x_g1 111 291) ((xe_aload 0).trans (congrArg (x_aload 0) ((xe_g1 (kk := 111) rfl tl_11_32).trans (congrArg (x_g1 111 232) ((xe_iload 4).trans (congrArg (x_iload 4) ((xe_iaload).trans (congrArg (x_iaload) ((xe_iload 2).trans (congrArg (x_iload 2) ((xe_if_icmp .ne 119).trans (congrArg (x_if_icmp .ne 119 K) ((xe_aload 0).trans (congrArg (x_aload 0) ((xe_g1 (kk := 111) rfl tl_11_33).trans (congrArg (x_g1 111 233) ((xe_iload 4).trans (congrArg (x_iload 4) ((xe_iaload).trans (congrArg (x_iaload) (xe_goto 126)))))))))))))))))))))))))))))
theorem bk_X11_canTry_e_119 : ck_ fX11 (some .int) cX11_canTry 119 [.aload 0, .tableswitch 0 11 32 #[], .iload 4, .iaload, .dup2, .iaload, .aload 0, .iload 1, .iconst 3] 131 = true := qck_r (nn_ _) (by decide +kernel)
theorem bs_X11_canTry_e_119 {P : Zt → Option Zv → Prop} (K : Int → Zl → List Zv → Zt → Prop) : sx_ K P [.aload 0, .tableswitch 0 11 32 #[], .iload 4, .iaload, .dup2, .iaload, .aload 0, .iload 1, .iconst 3] 131 = x_aload 0 (x_g1 111 232 (x_iload 4 (x_iaload (x_dup2 (x_iaload (x_aload 0 (x_iload 1 (x_iconst 3 (K 131))))))))) := ((xe_aload 0).trans (congrArg (x_aload 0) ((xe_g1 (kk := 111) rfl tl_11_32).trans (congrArg (x_g1 111 232) ((xe_iload 4).trans (congrArg (x_iload 4) ((xe_iaload).trans (congrArg (x_iaload) ((xe_dup2).trans (congrArg (x_dup2) ((xe_iaload).trans (congrArg (x_iaload) ((xe_aload 0).trans (congrArg (x_aload 0) ((xe_iload 1).trans (congrArg (x_iload 1) ((xe_iconst 3).trans (congrArg (x_iconst 3) xe_nil))))))))))))))))))
theorem bk_X11_canTry_e_134 : ck_ fX11 (some .int) cX11_canTry 134 [.fadd, .iastore, .goto 159] 139 = true := qck_r (nn_ _) (by decide +kernel)
theorem bs_X11_canTry_e_134 {P : Zt → Option Zv → Prop} (K : Int → Zl → List Zv → Zt → Prop) : sx_ K P [.fadd, .iastore, .goto 159] 139 = x_fadd (x_iastore (x_goto 159 K)) := ((xe_fadd).trans (congrArg (x_fadd) ((xe_iastore).trans (congrArg (x_iastore) (xe_goto 159)))))
theorem bk_X11_canTry_e_126 : ck_ fX11 (some .int) cX11_canTry 126 [.dup2, .iaload, .aload 0, .iload 1, .iconst 3] 131 = true := qck_r (nn_ _) (by decide +kernel)
theorem bs_X11_canTry_e_126 {P : Zt → Option Zv → Prop} (K : Int → Zl → List Zv → Zt → Prop) : sx_ K P [.dup2, .iaload, .aload 0, .iload 1, .iconst 3] 131 = x_dup2 (x_iaload (x_aload 0 (x_iload 1 (x_iconst 3 (K 131))))) := ((xe_dup2).trans (congrArg (x_dup2) ((xe_iaload).trans (congrArg (x_iaload) ((xe_aload 0).trans (congrArg (x_aload 0) ((xe_iload 1).trans (congrArg (x_iload 1) ((xe_iconst 3).trans (congrArg (x_iconst 3) xe_nil))))))))))
theorem bk_X11_canTry_e_93 : ck_ fX11 (some .int) cX11_canTry 93 [.iastore, .aload 0, .tableswitch 0 11 91 #[], .aload 0, .tableswitch 0 11 32 #[], .iload 4, .iaload, .iload 2, .if_icmp .ne 119, .aload 0, .tableswitch 0 11 33 #[], .iload 4, .iaload, .goto 126] 119 = true := qck_r (nn_ _) (by decide +kernel)
theorem bs_X11_canTry_e_93 {P : Zt → Option Zv → Prop} (K : Int → Zl → List Zv → Zt → Prop) : sx_ K P [.iastore, .aload 0, .tableswitch 0 11 91 #[], .aload 0, .tableswitch 0 11 32 #[], .iload 4, .iaload, .iload 2, .if_icmp .ne 119, .aload 0, .tableswitch 0 11 33 #[], .iload 4, .iaload, .goto 126] 119 = x_iastore (x_aload 0 (x_g1 111 291 (x_aload 0 (x_g1 111 232 (x_iload 4 (x_iaload (x_iload 2 (x_if_icmp .ne 119 K (x_aload 0 (x_g1 111 233 (x_iload 4 (x_iaload (x_goto 126 K))))))))))))) := ((xe_iastore).trans (congrArg (x_iastore) ((xe_aload 0).trans (congrArg (x_aload 0) ((xe_g1 (kk := 111) rfl tl_11_91).trans (congrArg (x_g1 111 291) ((xe_aload 0).trans (congrArg (x_aload 0) ((xe_g1 (kk := 111) rfl tl_11_32).trans (congrArg (x_g1 111 232) ((xe_iload 4).trans (congrArg (x_iload 4) ((xe_iaload).trans (congrArg (x_iaload) ((xe_iload 2).trans (congrArg (x_iload 2) ((xe_if_icmp .ne 119).trans (congrArg (x_if_icmp .ne 119 K) ((xe_aload 0).trans (congrArg (x_aload 0) ((xe_g1 (kk := 111) rfl tl_11_33).trans (congrArg (x_g1 111 233) ((xe_iload 4).trans (congrArg (x_iload 4) ((xe_iaload).trans (congrArg (x_iaload) (xe_goto 126)))))))))))))))))))))))))))
theorem bk_X11_canTry_e_10 : ck_ fX11 (some .int) cX11_canTry 10 [.iload 4, .aload 0, .tableswitch 0 11 10 #[], .iload 1, .iaload, .aload 0, .tableswitch 0 11 11 #[], .iload 1, .iaload, .iadd, .if_icmp .ge 165, .aload 0, .tableswitch 0 11 32 #[], .iload 4, .iaload, .iload 2, .if_icmp .eq 50, .aload 0, .tableswitch 0 11 33 #[], .iload 4, .iaload, .iload 2, .if_icmp .ne 54, .iconst 1, .goto 55] 54 = true := qck_r (nn_ _) (by decide +kernel)
theorem bs_X11_canTry_e_10 {P : Zt → Option Zv → Prop} (K : Int → Zl → List Zv → Zt → Prop) : sx_ K P [.iload 4, .aload 0, .tableswitch 0 11 10 #[], .iload 1, .iaload, .aload 0, .tableswitch 0 11 11 #[], .iload 1, .iaload, .iadd, .if_icmp .ge 165, .aload 0, .tableswitch 0 11 32 #[], .iload 4, .iaload, .iload 2, .if_icmp .eq 50, .aload 0, .tableswitch 0 11 33 #[], .iload 4, .iaload, .iload 2, .if_icmp .ne 54, .iconst 1, .goto 55] 54 = x_iload 4 (x_aload 0 (x_g1 111 210 (x_iload 1 (x_iaload (x_aload 0 (x_g1 111 211 (x_iload 1 (x_iaload (x_iadd (x_if_icmp .ge 165 K (x_aload 0 (x_g1 111 232 (x_iload 4 (x_iaload (x_iload 2 (x_if_icmp .eq 50 K (x_aload 0 (x_g1 111 233 (x_iload 4 (x_iaload (x_iload 2 (x_if_icmp .ne 54 K (x_iconst 1 (x_goto 55 K)))))))))))))))))))))))) := ((xe_iload 4).trans (congrArg (x_iload 4) ((xe_aload 0).trans (congrArg (x_aload 0) ((xe_g1 (kk := 111) rfl tl_11_10).trans (congrArg (x_g1 111 210) ((xe_iload 1).trans (congrArg (x_iload 1) ((xe_iaload).trans (congrArg (x_iaload) ((xe_aload 0).trans (congrArg (x_aload 0) ((xe_g1 (kk := 111) rfl tl_11_11).trans (congrArg (x_g1 111 211) ((xe_iload 1).trans (congrArg (x_iload 1) ((xe_iaload).trans (congrArg (x_iaload) ((xe_iadd).trans (congrArg (x_iadd) ((xe_if_icmp .ge 165).trans (congrArg (x_if_icmp .ge 165 K) ((xe_aload 0).trans (congrArg (x_aload 0) ((xe_g1 (kk := 111) rfl tl_11_32).trans (congrArg (x_g1 111 232) ((xe_iload 4).trans (congrArg (x_iload 4) ((xe_iaload).trans (congrArg (x_iaload) ((xe_iload 2).trans (congrArg (x_iload 2) ((xe_if_icmp .eq 50).trans (congrArg (x_if_icmp .eq 50 K) ((xe_aload 0).trans (congrArg (x_aload 0) ((xe_g1 (kk := 111) rfl tl_11_33).trans (congrArg (x_g1 111 233) ((xe_iload 4).trans (congrArg (x_iload 4) ((xe_iaload).trans (congrArg (x_iaload) ((xe_iload 2).trans (congrArg (x_iload 2) ((xe_if_icmp .ne 54).trans (congrArg (x_if_icmp .ne 54 K) ((xe_iconst 1).trans (congrArg (x_iconst 1) (xe_goto 55)))))))))))))))))))))))))))))))))))))))))))))))))
theorem bk_X11_canTry_e_165 : ck_ fX11 (some .int) cX11_canTry 165 [.iload 3, .iconst 8, .if_icmp .le 173, .iconst 2, .ireturn] 173 = true := qck_r (nn_ _) (by decide +kernel)
theorem bs_X11_canTry_e_165 {P : Zt → Option Zv → Prop} (K : Int → Zl → List Zv → Zt → Prop) : sx_ K P [.iload 3, .iconst 8, .if_icmp .le 173, .iconst 2, .ireturn] 173 = x_iload 3 (x_iconst 8 (x_if_icmp .le 173 K (x_iconst 2 (x_ireturn P)))) := ((xe_iload 3).trans (congrArg (x_iload 3) ((xe_iconst 8).trans (congrArg (x_iconst 8) ((xe_if_icmp .le 173).trans (congrArg (x_if_icmp .le 173 K) ((xe_iconst 2).trans (congrArg (x_iconst 2) (xe_ireturn)))))))))
theorem bk_X11_canTry_e_173 : ck_ fX11 (some .int) cX11_canTry 173 [.iconst 1, .istore 4, .iconst 0, .istore 5] 179 = true := qck_r (nn_ _) (by decide +kernel)
theorem bs_X11_canTry_e_173 {P : Zt → Option Zv → Prop} (K : Int → Zl → List Zv → Zt → Prop) : sx_ K P [.iconst 1, .istore 4, .iconst 0, .istore 5] 179 = x_iconst 1 (x_istore 4 (x_iconst 0 (x_istore 5 (K 179)))) := ((xe_iconst 1).trans (congrArg (x_iconst 1) ((xe_istore 4).trans (congrArg (x_istore 4) ((xe_iconst 0).trans (congrArg (x_iconst 0) ((xe_istore 5).trans (congrArg (x_istore 5) xe_nil))))))))
theorem bk_X11_canTry_e_50 : ck_ fX11 (some .int) cX11_canTry 50 [.iconst 1, .goto 55] 54 = true := qck_r (nn_ _) (by decide +kernel)
theorem bs_X11_canTry_e_50 {P : Zt → Option Zv → Prop} (K : Int → Zl → List Zv → Zt → Prop) : sx_ K P [.iconst 1, .goto 55] 54 = x_iconst 1 (x_goto 55 K) := ((xe_iconst 1).trans (congrArg (x_iconst 1) (xe_goto 55)))
theorem bk_X11_canTry_e_54 : ck_ fX11 (some .int) cX11_canTry 54 [.iconst 0] 55 = true := qck_r (nn_ _) (by decide +kernel)
theorem bs_X11_canTry_e_54 {P : Zt → Option Zv → Prop} (K : Int → Zl → List Zv → Zt → Prop) : sx_ K P [.iconst 0] 55 = x_iconst 0 (K 55) := ((xe_iconst 0).trans (congrArg (x_iconst 0) xe_nil))
theorem bk_X11_canTry_e_0 : ck_ fX11 (some .int) cX11_canTry 0 [.iconst 0, .istore 3, .aload 0, .tableswitch 0 11 10 #[], .iload 1, .iaload, .istore 4] 10 = true := qck_r (nn_ _) (by decide +kernel)
theorem bs_X11_canTry_e_0 {P : Zt → Option Zv → Prop} (K : Int → Zl → List Zv → Zt → Prop) : sx_ K P [.iconst 0, .istore 3, .aload 0, .tableswitch 0 11 10 #[], .iload 1, .iaload, .istore 4] 10 = x_iconst 0 (x_istore 3 (x_aload 0 (x_g1 111 210 (x_iload 1 (x_iaload (x_istore 4 (K 10))))))) := ((xe_iconst 0).trans (congrArg (x_iconst 0) ((xe_istore 3).trans (congrArg (x_istore 3) ((xe_aload 0).trans (congrArg (x_aload 0) ((xe_g1 (kk := 111) rfl tl_11_10).trans (congrArg (x_g1 111 210) ((xe_iload 1).trans (congrArg (x_iload 1) ((xe_iaload).trans (congrArg (x_iaload) ((xe_istore 4).trans (congrArg (x_istore 4) xe_nil))))))))))))))
abbrev po_X11_canTry_e (T : Zt) (c cl : Int) : Zt → Option Zv → Prop := fun T' r => ∃ x : Int, r = some (vI x) ∧ fr_ [(289, []), (291, []), (297, []), (293, [])] T T' ∧ (CT7_ T T' c cl x)
set_option maxHeartbeats 4000000 in
theorem ct_X11_canTry_e {T : Zt} {c cl : Int} (h1 : 0 ≤ c ∧ c < 4) (hml : ML_ T) (hrl : ∀ w, 1 ≤ w ∧ w ≤ 3 → 0 ≤ (fun w => T 205 0 (23 * c + w)) w ∧ (fun w => T 205 0 (23 * c + w)) w ≤ 1000) (hpb : ∀ v, 0 ≤ v → v < 12 → -8000000 ≤ T 291 0 v ∧ T 291 0 v ≤ 8000000) (hbe : -8000000 ≤ T 111 0 95 ∧ T 111 0 95 ≤ 8000000) (hen : ∀ i, 0 ≤ i → i < T 208 0 c → 0 ≤ T 207 0 (12 * c + i) ∧ T 207 0 (12 * c + i) < 12) : Ct_ yX11_canTry zX11_canTry T [vR 111 0, vI c, vI cl] (po_X11_canTry_e T c cl) := by
  refine ct_of pn_11 rfl rfl (Nat.le_of_ble_eq_true rfl) (fun hT hav => ?_)
  have hr_c : -2147483648 ≤ c ∧ c ≤ 2147483647 := hav (vI c) (List.mem_cons_of_mem _ List.mem_cons_self)
  have hr_cl : -2147483648 ≤ cl ∧ cl ≤ 2147483647 := hav (vI cl) (List.mem_cons_of_mem _ (List.mem_cons_of_mem _ List.mem_cons_self))
  have hz : zX11_canTry.2.2.2.1 = some .boolean → ∀ (T' : Zt) (x : Int), po_X11_canTry_e T c cl T' (some (vI x)) → 0 ≤ x ∧ x ≤ 1 := fun h => by cases h
  have hmc := hml c (by omega) (by omega)
  have hb_29 : 0 ≤ T 111 0 29 ∧ T 111 0 29 ≤ 400 := bd_f hT 111 29 tl_11_29 0
  have hfo : 0 ≤ T 210 0 c ∧ T 210 0 c ≤ 400 := bd_a hT 210 (by decide +kernel : ta_ 210 = some (1, some 4, 0, 400)) 0 (by omega)
  have hmo : 0 ≤ T 211 0 c ∧ T 211 0 c ≤ 400 := bd_a hT 211 (by decide +kernel : ta_ 211 = some (1, some 4, 0, 400)) 0 (by omega)
  have hed : 0 ≤ T 208 0 c ∧ T 208 0 c ≤ 12 := bd_a hT 208 (by decide +kernel : ta_ 208 = some (1, some 4, 0, 12)) 0 (by omega)
  have hr3 : 0 ≤ T 205 0 (23 * c + 3) ∧ T 205 0 (23 * c + 3) ≤ 1000 := hrl 3 (by decide)
  show J_ zX11_canTry T (po_X11_canTry_e T c cl) 0 0 0 [some (vR 111 0), some (vI c), some (vI cl), none, none, none, none] [] T
  have c_203 : ∀ (nn : Nat) (al : Int) (fd : Int) (r : Int) (mn : Int) (T2 : Zt), ((al - r).toNat) ≤ nn → (fr_ [(289, []), (291, []), (297, []), (293, [])] T T2) → (0 ≤ mn ∧ mn ≤ 8 ∧ 0 ≤ fd ∧ fd ≤ 1 ∧ 0 ≤ r ∧ r ≤ al ∧ mn = (dl9_ (OE7_ T c cl) (T 211 0 c).toNat).1 ∧ al ≤ 6561) → (al = 3 ^ mn.toNat) → (∀ j, 0 ≤ j → j < mn → T2 297 0 j = T 210 0 c + (dl9_ (OE7_ T c cl) (T 211 0 c).toNat).2 j) → (∀ j, 0 ≤ j → j < T 211 0 c → ON7_ T c cl j → T2 289 0 (T 210 0 c + j) = cz_ (T 232 0 (T 210 0 c + j) = cl) 0 2) → (∀ y, (∀ j, 0 ≤ j → j < T 211 0 c → ON7_ T c cl j ∨ OE7_ T c cl j → y ≠ T 210 0 c + j) → T2 289 0 y = T 289 0 y) → (∀ v, 0 ≤ v → v < 12 → T2 291 0 v = T 291 0 v + ol7_ T c cl v (T 211 0 c).toNat) → ((fd = 0 ∧ ∀ w, 0 ≤ w → w < r → ¬ ok7_ (fun w => T 205 0 (23 * c + w)) (fun j => T 232 0 (T 210 0 c + (dl9_ (OE7_ T c cl) (T 211 0 c).toNat).2 j)) (fun j => T 233 0 (T 210 0 c + (dl9_ (OE7_ T c cl) (T 211 0 c).toNat).2 j)) (fun v => ∃ i9 : Int, (0 ≤ i9 ∧ i9 < T 208 0 c) ∧ T 207 0 (12 * c + i9) = v) (T 111 0 95) (dw7_ mn.toNat w) 0 (fun v => T 291 0 v + ol7_ T c cl v (T 211 0 c).toNat)) ∨ (fd = 1 ∧ 1 ≤ r ∧ ok7_ (fun w => T 205 0 (23 * c + w)) (fun j => T 232 0 (T 210 0 c + (dl9_ (OE7_ T c cl) (T 211 0 c).toNat).2 j)) (fun j => T 233 0 (T 210 0 c + (dl9_ (OE7_ T c cl) (T 211 0 c).toNat).2 j)) (fun v => ∃ i9 : Int, (0 ≤ i9 ∧ i9 < T 208 0 c) ∧ T 207 0 (12 * c + i9) = v) (T 111 0 95) (dw7_ mn.toNat (r - 1)) 0 (fun v => T 291 0 v + ol7_ T c cl v (T 211 0 c).toNat) ∧ (∀ w, 0 ≤ w → w < r - 1 → ¬ ok7_ (fun w => T 205 0 (23 * c + w)) (fun j => T 232 0 (T 210 0 c + (dl9_ (OE7_ T c cl) (T 211 0 c).toNat).2 j)) (fun j => T 233 0 (T 210 0 c + (dl9_ (OE7_ T c cl) (T 211 0 c).toNat).2 j)) (fun v => ∃ i9 : Int, (0 ≤ i9 ∧ i9 < T 208 0 c) ∧ T 207 0 (12 * c + i9) = v) (T 111 0 95) (dw7_ mn.toNat w) 0 (fun v => T 291 0 v + ol7_ T c cl v (T 211 0 c).toNat)) ∧ la7_ (fun j => T2 289 0 (T 210 0 c + (dl9_ (OE7_ T c cl) (T 211 0 c).toNat).2 j)) mn.toNat 0 = dw7_ mn.toNat (r - 1))) → J_ zX11_canTry T (po_X11_canTry_e T c cl) 0 0 203 [some (vR 111 0), some (vI c), some (vI cl), some (vI mn), some (vI al), some (vI fd), some (vI r)] [] T2 := by
    intro nn
    induction nn using Nat.strongRecOn with
    | _ nn ih_203 =>
      intro al fd r mn T2 hm_203 hf_203 i3 al2 op2 ow2 we2 po2 f2
      replace hm_203 := fun (_ : Unit) => hm_203
      refine j_blx (F := fX11) tb_X11 (nn_ _) bk_X11_canTry_e_203 bs_X11_canTry_e_203 hz (fun K hK => ?_)
      refine And.intro (fun c1 => ?_) (fun c1 => ?_)
      · refine hK 231 _ [] T2 ?_
        refine j_blx (F := fX11) tb_X11 (nn_ _) bk_X11_canTry_e_231 bs_X11_canTry_e_231 hz (fun K hK => ?_)
        refine And.intro (fun c2 => ?_) (fun c2 => ?_)
        · refine hK 240 _ [] T2 ?_
          refine j_blx (F := fX11) tb_X11 (nn_ _) bk_X11_canTry_e_240 bs_X11_canTry_e_240 hz (fun K hK => ?_)
          refine (show po_X11_canTry_e T c cl T2 (some (vI 0)) from ?_)
          have en : mn.toNat = ((dl9_ (OE7_ T c cl) (T 211 0 c).toNat).1).toNat := by omega
          rw [en] at f2 al2
          obtain ⟨-, g⟩ := f2.resolve_right (fun z => by have z1 := z.1; clear z; omega)
          exact ⟨_, rfl, fr_t (fr_0 _ _) (fr_s hf_203 rfl), Or.inr ⟨by omega, ow2, we2, Or.inr ⟨rfl, fun w a b => g w a (by omega)⟩⟩⟩
        · refine hK 241 _ [vI 1] T2 ?_
          refine j_blx (F := fX11) tb_X11 (nn_ _) bk_X11_canTry_e_241 bs_X11_canTry_e_241 hz (fun K hK => ?_)
          refine (show po_X11_canTry_e T c cl T2 (some (vI 1)) from ?_)
          have en : mn.toNat = ((dl9_ (OE7_ T c cl) (T 211 0 c).toNat).1).toNat := by omega
          rw [en] at f2 al2
          obtain ⟨-, r1, g1, g2, g3⟩ := f2.resolve_left (fun z => by have z1 := z.1; clear z; omega)
          exact ⟨_, rfl, fr_t (fr_0 _ _) (fr_s hf_203 rfl), Or.inr ⟨by omega, ow2, we2, Or.inl ⟨rfl, r - 1, ⟨by omega, by omega⟩, g1, g2, g3⟩⟩⟩
      · refine And.intro (fun c3 => ?_) (fun c3 => ?_)
        · refine hK 231 _ [] T2 ?_
          refine j_blx (F := fX11) tb_X11 (nn_ _) bk_X11_canTry_e_231 bs_X11_canTry_e_231 hz (fun K hK => ?_)
          refine And.intro (fun c4 => ?_) (fun c4 => ?_)
          · refine hK 240 _ [] T2 ?_
            refine j_blx (F := fX11) tb_X11 (nn_ _) bk_X11_canTry_e_240 bs_X11_canTry_e_240 hz (fun K hK => ?_)
            refine (show po_X11_canTry_e T c cl T2 (some (vI 0)) from ?_)
            have en : mn.toNat = ((dl9_ (OE7_ T c cl) (T 211 0 c).toNat).1).toNat := by omega
            rw [en] at f2 al2
            obtain ⟨-, g⟩ := f2.resolve_right (fun z => by have z1 := z.1; clear z; omega)
            exact ⟨_, rfl, fr_t (fr_0 _ _) (fr_s hf_203 rfl), Or.inr ⟨by omega, ow2, we2, Or.inr ⟨rfl, fun w a b => g w a (by omega)⟩⟩⟩
          · refine hK 241 _ [vI 1] T2 ?_
            refine j_blx (F := fX11) tb_X11 (nn_ _) bk_X11_canTry_e_241 bs_X11_canTry_e_241 hz (fun K hK => ?_)
            refine (show po_X11_canTry_e T c cl T2 (some (vI 1)) from ?_)
            have en : mn.toNat = ((dl9_ (OE7_ T c cl) (T 211 0 c).toNat).1).toNat := by omega
            rw [en] at f2 al2
            obtain ⟨-, r1, g1, g2, g3⟩ := f2.resolve_left (fun z => by have z1 := z.1; clear z; omega)
            exact ⟨_, rfl, fr_t (fr_0 _ _) (fr_s hf_203 rfl), Or.inr ⟨by omega, ow2, we2, Or.inl ⟨rfl, r - 1, ⟨by omega, by omega⟩, g1, g2, g3⟩⟩⟩
        · refine hK 220 _ [vI r, vI mn, vI c, vR 111 0] T2 ?_
          have cED : T2 208 0 c = T 208 0 c := hf_203 208 0 c rfl
          have cET : ∀ j, T2 207 0 j = T 207 0 j := fun j => hf_203 207 0 j rfl
          have cMH : ∀ j, T2 232 0 j = T 232 0 j := fun j => hf_203 232 0 j rfl
          have cMY : ∀ j, T2 233 0 j = T 233 0 j := fun j => hf_203 233 0 j rfl
          have cRU : ∀ j, T2 205 0 j = T 205 0 j := fun j => hf_203 205 0 j rfl
          have cBE : T2 111 0 95 = T 111 0 95 := hf_203 111 0 95 rfl
          have pb9 : ∀ v, 0 ≤ v → v < 12 → -9000000 ≤ T2 291 0 v ∧ T2 291 0 v ≤ 9000000 := fun v a b => by
            rw [po2 v a b]
            have y1 := hpb v a b
            have y2 := ol7_b (T := T) (c := c) (b := cl) (v := v) hr3 (T 211 0 c).toNat
            omega
          refine j_callV (y := yX11_isRowWell) (Yc := zX11_isRowWell) (rest := []) [vI c, vI mn, vI r] (ct_X11_isRowWell_e (T := T2) h1 (by omega) (by omega) (by simp only [cRU]; exact hrl) pb9 (by rw [cBE]; omega) (by exact fun a b p q r => by rw [op2 a p (by omega), op2 b (by omega) r]; have y := dl7_u (D := (OE7_ T c cl)) (T 211 0 c).toNat a b p q (by omega); omega) (by rw [cED]; simp only [cET]; exact hen)) cl_X11_561 (qd_c (by decide +kernel)) (nn_ _) rfl (rf_of rfl) (Nat.le_of_ble_eq_true rfl) (Nat.le_of_ble_eq_true rfl) (Nat.le_of_ble_eq_true rfl) rfl ?_
          rintro U5 _ ⟨x6, rfl, fU5, qU5, wU5, eU5⟩
          have eV : (fun v => ∃ i9 : Int, (0 ≤ i9 ∧ i9 < T2 208 0 c) ∧ T2 207 0 (12 * c + i9) = v) = (fun v => ∃ i9 : Int, (0 ≤ i9 ∧ i9 < T 208 0 c) ∧ T 207 0 (12 * c + i9) = v) := by funext v; rw [cED]; simp only [cET]
          have er : r % 3 ^ mn.toNat = r := Int.emod_eq_of_lt (by omega) (by omega)
          rw [er] at qU5 wU5
          simp only [cRU, cMH, cMY] at qU5
          rw [eV, cBE] at qU5
          have ok9 : ok7_ (fun w => T 205 0 (23 * c + w)) (fun j => T 232 0 (T2 297 0 j)) (fun j => T 233 0 (T2 297 0 j)) (fun v => ∃ i9 : Int, (0 ≤ i9 ∧ i9 < T 208 0 c) ∧ T 207 0 (12 * c + i9) = v) (T 111 0 95) (dw7_ mn.toNat r) 0 (fun v => T2 291 0 v) ↔ ok7_ (fun w => T 205 0 (23 * c + w)) (fun j => T 232 0 (T 210 0 c + (dl9_ (OE7_ T c cl) (T 211 0 c).toNat).2 j)) (fun j => T 233 0 (T 210 0 c + (dl9_ (OE7_ T c cl) (T 211 0 c).toNat).2 j)) (fun v => ∃ i9 : Int, (0 ≤ i9 ∧ i9 < T 208 0 c) ∧ T 207 0 (12 * c + i9) = v) (T 111 0 95) (dw7_ mn.toNat r) 0 (fun v => T 291 0 v + ol7_ T c cl v (T 211 0 c).toNat) := ok7_k (fun j a b => by
            rw [dw7_l] at b
            show T 232 0 (T2 297 0 j) = T 232 0 (T 210 0 c + (dl9_ (OE7_ T c cl) (T 211 0 c).toNat).2 j) ∧ T 233 0 (T2 297 0 j) = T 233 0 (T 210 0 c + (dl9_ (OE7_ T c cl) (T 211 0 c).toNat).2 j)
            rw [op2 j a (by omega)]
            exact ⟨rfl, rfl⟩) (fun v ⟨i9, a, b⟩ => by
            have y := hen i9 a.1 a.2
            rw [b] at y
            exact po2 v y.1 y.2)
          rw [ok9] at qU5
          show J_ zX11_canTry T (po_X11_canTry_e T c cl) 0 0 223 _ [vI x6] U5
          refine j_blx (F := fX11) tb_X11 (nn_ _) bk_X11_canTry_e_223 bs_X11_canTry_e_223 hz (fun K hK => ?_)
          refine rg_i (by omega) ?_
          refine hK 203 [some (vR 111 0), some (vI c), some (vI cl), some (vI mn), some (vI al), some (vI x6), some (vI (r + 1))] [] U5 ?_
          refine ih_203 _ ?_ al x6 (r + 1) mn U5 (Nat.le_refl _) ?_ ?_ ?_ ?_ ?_ ?_ ?_ ?_
          · have hm_203 := hm_203 (); omega
          · exact fr_t (fr_t (fr_0 _ _) (fr_s hf_203 rfl)) (fr_s fU5 rfl)
          · omega
          · exact al2
          · exact fun j a b => (fU5 297 0 j rfl).trans (op2 j a b)
          · intro j a b q
            rw [eU5 (T 210 0 c + j) (fun i a b z => by
              rw [op2 i a b] at z
              have y1 := dl7_d (D := (OE7_ T c cl)) (T 211 0 c).toNat i a (by omega)
              rw [show (dl9_ (OE7_ T c cl) (T 211 0 c).toNat).2 i = j by omega] at y1
              exact y1.2 q.2)]
            exact ow2 j a b q
          · intro y hy
            rw [eU5 y (fun i a b z => by
              rw [op2 i a b] at z
              have y1 := dl7_d (D := (OE7_ T c cl)) (T 211 0 c).toNat i a (by omega)
              have y2 := (dl_b (D := (OE7_ T c cl)) (T 211 0 c).toNat).2 i a (by omega)
              exact hy ((dl9_ (OE7_ T c cl) (T 211 0 c).toNat).2 i) y2.1 (by omega) (Or.inr y1) z)]
            exact we2 y hy
          · exact fun v a b => (fU5 291 0 v rfl).trans (po2 v a b)
          · have n0 := (f2.resolve_right (fun z => by have z1 := z.1; clear z; omega)).2
            rcases qU5 with ⟨z, g⟩ | ⟨z, g⟩
            · refine Or.inr ⟨z, by omega, ?_, fun w a b => n0 w a (by omega), ?_⟩
              · rw [show r + 1 - 1 = r by omega]; exact g
              · rw [show r + 1 - 1 = r by omega, ← wU5]
                exact la7_e mn.toNat 0 (fun j a b => by
                  show U5 289 0 (T 210 0 c + (dl9_ (OE7_ T c cl) (T 211 0 c).toNat).2 j) = U5 289 0 (T2 297 0 j)
                  rw [op2 j a (by omega)])
            · refine Or.inl ⟨z, fun w a b => ?_⟩
              by_cases y : w = r
              · rw [y]; exact g
              · exact n0 w a (by omega)
  have c_179 : ∀ (nn : Nat) (mn : Int) (al : Int) (k : Int) (T3 : Zt), ((mn - k).toNat) ≤ nn → (fr_ [(289, []), (291, []), (297, []), (293, [])] T T3) → (0 ≤ mn ∧ mn ≤ 8 ∧ 0 ≤ k ∧ k ≤ mn ∧ 1 ≤ al ∧ al ≤ 6561) → (mn = (dl9_ (OE7_ T c cl) (T 211 0 c).toNat).1) → (al = 3 ^ k.toNat) → (∀ j, 0 ≤ j → j < mn → T3 297 0 j = T 210 0 c + (dl9_ (OE7_ T c cl) (T 211 0 c).toNat).2 j) → (∀ j, 0 ≤ j → j < T 211 0 c → ON7_ T c cl j → T3 289 0 (T 210 0 c + j) = cz_ (T 232 0 (T 210 0 c + j) = cl) 0 2) → (∀ y, (∀ j, 0 ≤ j → j < T 211 0 c → ON7_ T c cl j ∨ OE7_ T c cl j → y ≠ T 210 0 c + j) → T3 289 0 y = T 289 0 y) → (∀ v, 0 ≤ v → v < 12 → T3 291 0 v = T 291 0 v + ol7_ T c cl v (T 211 0 c).toNat) → J_ zX11_canTry T (po_X11_canTry_e T c cl) 0 0 179 [some (vR 111 0), some (vI c), some (vI cl), some (vI mn), some (vI al), some (vI k), none] [] T3 := by
    intro nn
    induction nn using Nat.strongRecOn with
    | _ nn ih_179 =>
      intro mn al k T3 hm_179 hf_179 i2 mn3 al3 op3 ow3 we3 po3
      replace hm_179 := fun (_ : Unit) => hm_179
      refine j_blx (F := fX11) tb_X11 (nn_ _) bk_X11_canTry_e_179 bs_X11_canTry_e_179 hz (fun K hK => ?_)
      refine And.intro (fun c7 => ?_) (fun c7 => ?_)
      · refine hK 197 _ [] T3 ?_
        refine j_blx (F := fX11) tb_X11 (nn_ _) bk_X11_canTry_e_197 bs_X11_canTry_e_197 hz (fun K hK => ?_)
        refine hK 203 [some (vR 111 0), some (vI c), some (vI cl), some (vI mn), some (vI al), some (vI 0), some (vI 0)] [] T3 ?_
        refine c_203 _ al 0 0 mn T3 (Nat.le_refl _) ?_ ?_ ?_ ?_ ?_ ?_ ?_ ?_
        · exact fr_t (fr_0 _ _) (fr_s hf_179 rfl)
        · have y := p37_ mn.toNat
          omega
        · rw [show mn = k by omega]; exact al3
        · exact op3
        · exact ow3
        · exact we3
        · exact po3
        · exact Or.inl ⟨rfl, fun w a b => by omega⟩
      · intro w8 w8b
        refine rg_i (by omega) ?_
        refine hK 179 [some (vR 111 0), some (vI c), some (vI cl), some (vI mn), some (vI (wr_ (3 * al))), some (vI (k + 1)), none] [] T3 ?_
        refine ih_179 _ ?_ mn (wr_ (3 * al)) (k + 1) T3 (Nat.le_refl _) ?_ ?_ ?_ ?_ ?_ ?_ ?_ ?_
        · have hm_179 := hm_179 (); omega
        · exact fr_t (fr_0 _ _) (fr_s hf_179 rfl)
        · have y2 : (3 : Int) ^ k.toNat ≤ 2187 := p38_ k.toNat (by omega)
          rw [wr_9 (by omega)]
          omega
        · exact mn3
        · have y := p37_ k.toNat
          have y2 : (3 : Int) ^ k.toNat ≤ 2187 := p38_ k.toNat (by omega)
          rw [show (k + 1).toNat = k.toNat + 1 by omega, Int.pow_succ, wr_9 (by omega), al3]
          omega
        · exact op3
        · exact ow3
        · exact we3
        · exact po3
  have c_10 : ∀ (nn : Nat) (mn : Int) (m : Int) (T1 : Zt), ((400 - m).toNat) ≤ nn → (fr_ [(289, []), (291, []), (297, []), (293, [])] T T1) → (T 210 0 c ≤ m ∧ m ≤ T 210 0 c + T 211 0 c ∧ 0 ≤ mn ∧ mn ≤ m - T 210 0 c) → (mn = (dl9_ (OE7_ T c cl) (m - T 210 0 c).toNat).1) → (∀ j, 0 ≤ j → j < mn → T1 297 0 j = T 210 0 c + (dl9_ (OE7_ T c cl) (m - T 210 0 c).toNat).2 j) → (∀ j, 0 ≤ j → j < m - T 210 0 c → ON7_ T c cl j → T1 289 0 (T 210 0 c + j) = cz_ (T 232 0 (T 210 0 c + j) = cl) 0 2) → (∀ y, (∀ j, 0 ≤ j → j < m - T 210 0 c → ON7_ T c cl j → y ≠ T 210 0 c + j) → T1 289 0 y = T 289 0 y) → (∀ v, 0 ≤ v → v < 12 → T1 291 0 v = T 291 0 v + ol7_ T c cl v (m - T 210 0 c).toNat) → J_ zX11_canTry T (po_X11_canTry_e T c cl) 0 0 10 [some (vR 111 0), some (vI c), some (vI cl), some (vI mn), some (vI m), none, none] [] T1 := by
    intro nn
    induction nn using Nat.strongRecOn with
    | _ nn ih_10 =>
      intro mn m T1 hm_10 hf_10 i1 mn1 op1 ow1 we1 po1
      replace hm_10 := fun (_ : Unit) => hm_10
      have c_55 : ∀ (v : Int), (m < T 210 0 c + T 211 0 c) → ((v = 1 ∧ (T 232 0 m = cl ∨ T 233 0 m = cl)) ∨ (v = 0 ∧ ¬ (T 232 0 m = cl ∨ T 233 0 m = cl))) → J_ zX11_canTry T (po_X11_canTry_e T c cl) 0 0 55 [some (vR 111 0), some (vI c), some (vI cl), some (vI mn), some (vI m), none, none] [vI v] T1 := by
        intro v i4 v4
        refine j_blx (F := fX11) tb_X11 (nn_ _) bk_X11_canTry_e_55 bs_X11_canTry_e_55 hz (fun K hK => ?_)
        refine hK 60 [some (vR 111 0), some (vI c), some (vI cl), some (vI mn), some (vI m), some (vI v), none] [vI m, vR 111 0] T1 ?_
        refine j_callV (y := yX11_isLeft) (Yc := zX11_isLeft) (rest := []) [vI m] (ct_X11_isLeft (T := T1) (by omega)) cl_X11_538 (qd_c (by decide +kernel)) (nn_ _) rfl (rf_of rfl) (Nat.le_of_ble_eq_true rfl) (Nat.le_of_ble_eq_true rfl) (Nat.le_of_ble_eq_true rfl) rfl ?_
        rintro _ _ ⟨rfl, x9, rfl, hx9⟩
        have e10 : T1 235 0 m = T 235 0 m := hf_10 235 0 m rfl
        show J_ zX11_canTry T (po_X11_canTry_e T c cl) 0 0 63 _ [vI x9] T1
        refine j_blx (F := fX11) tb_X11 (nn_ _) bk_X11_canTry_e_63 bs_X11_canTry_e_63 hz (fun K hK => ?_)
        refine And.intro (fun c11 => ?_) (fun c11 => ?_)
        · replace hx9 := hx9.resolve_left (fun z => absurd (c11.symm.trans z.1) (by decide))
          clear c11
          refine hK 139 _ [] T1 ?_
          refine j_blx (F := fX11) tb_X11 (nn_ _) bk_X11_canTry_e_139 bs_X11_canTry_e_139 hz (fun K hK => ?_)
          refine hK 142 _ [vI m, vR 111 0] T1 ?_
          refine j_callV (y := yX11_isLeft) (Yc := zX11_isLeft) (rest := []) [vI m] (ct_X11_isLeft (T := T1) (by omega)) cl_X11_538 (qd_c (by decide +kernel)) (nn_ _) rfl (rf_of rfl) (Nat.le_of_ble_eq_true rfl) (Nat.le_of_ble_eq_true rfl) (Nat.le_of_ble_eq_true rfl) rfl ?_
          rintro _ _ ⟨rfl, x12, rfl, hx12⟩
          have e13 : T1 235 0 m = T 235 0 m := hf_10 235 0 m rfl
          show J_ zX11_canTry T (po_X11_canTry_e T c cl) 0 0 145 _ [vI x12] T1
          refine j_blx (F := fX11) tb_X11 (nn_ _) bk_X11_canTry_e_145 bs_X11_canTry_e_145 hz (fun K hK => ?_)
          refine And.intro (fun c14 => ?_) (fun c14 => ?_)
          · replace hx12 := hx12.resolve_left (fun z => absurd (c14.symm.trans z.1) (by decide))
            clear c14
            refine hK 159 _ [] T1 ?_
            refine j_blx (F := fX11) tb_X11 (nn_ _) bk_X11_canTry_e_159 bs_X11_canTry_e_159 hz (fun K hK => ?_)
            refine rg_i (by omega) ?_
            refine hK 10 [some (vR 111 0), some (vI c), some (vI cl), some (vI mn), some (vI (m + 1)), some (vI v), none] [] T1 ?_
            refine j_drq [some (vR 111 0), some (vI c), some (vI cl), some (vI mn), some (vI (m + 1)), none, none] (drq_s (drq_s (drq_s (drq_s (drq_s (drq_n (drq_n drq_0))))))) ?_
            refine ih_10 _ ?_ mn (m + 1) T1 (Nat.le_refl _) ?_ ?_ ?_ ?_ ?_ ?_ ?_
            · have hm_10 := hm_10 (); omega
            · exact fr_t (fr_0 _ _) (fr_s hf_10 rfl)
            · omega
            · have ke : m + 1 - T 210 0 c = (m - T 210 0 c) + 1 := by omega
              have km : T 210 0 c + (m - T 210 0 c) = m := by omega
              have z1 : T1 235 0 m = T 235 0 m := hf_10 235 0 m rfl
              have z2 : T1 232 0 m = T 232 0 m := hf_10 232 0 m rfl
              have z3 : T1 233 0 m = T 233 0 m := hf_10 233 0 m rfl
              rw [ke, dl_f (by omega) (show ¬ OE7_ T c cl (m - T 210 0 c) by unfold OE7_; rw [km]; omega)]
              exact mn1
            · have ke : m + 1 - T 210 0 c = (m - T 210 0 c) + 1 := by omega
              have km : T 210 0 c + (m - T 210 0 c) = m := by omega
              have z1 : T1 235 0 m = T 235 0 m := hf_10 235 0 m rfl
              have z2 : T1 232 0 m = T 232 0 m := hf_10 232 0 m rfl
              have z3 : T1 233 0 m = T 233 0 m := hf_10 233 0 m rfl
              rw [ke, dl_f (by omega) (show ¬ OE7_ T c cl (m - T 210 0 c) by unfold OE7_; rw [km]; omega)]
              exact op1
            · have ke : m + 1 - T 210 0 c = (m - T 210 0 c) + 1 := by omega
              have km : T 210 0 c + (m - T 210 0 c) = m := by omega
              have z1 : T1 235 0 m = T 235 0 m := hf_10 235 0 m rfl
              have z2 : T1 232 0 m = T 232 0 m := hf_10 232 0 m rfl
              have z3 : T1 233 0 m = T 233 0 m := hf_10 233 0 m rfl
              intro j a b q
              exact ow1 j a (by rcases (by omega : j = (m - T 210 0 c) ∨ j < (m - T 210 0 c)) with y | y; (rw [y] at q; unfold ON7_ at q; rw [km] at q; omega); exact y) q
            · exact fun y hy => we1 y (fun j a b => hy j a (by omega))
            · have ke : m + 1 - T 210 0 c = (m - T 210 0 c) + 1 := by omega
              have km : T 210 0 c + (m - T 210 0 c) = m := by omega
              have z1 : T1 235 0 m = T 235 0 m := hf_10 235 0 m rfl
              have z2 : T1 232 0 m = T 232 0 m := hf_10 232 0 m rfl
              have z3 : T1 233 0 m = T 233 0 m := hf_10 233 0 m rfl
              intro v a b
              rw [ke, ol7_s (by omega), cz_f (fun q => by have q1 := q.1; unfold ON7_ at q1; rw [km] at q1; clear q; omega), Int.add_zero, ← po1 v a b]
          · replace hx12 := hx12.resolve_right (fun z => c14 z.1)
            clear c14
            refine iy_i (by omega) (by omega) ?_
            refine x_nm (fun U15 hU15 => ?_)
            have e16 := up_f hU15
            refine rg_i (by omega) ?_
            refine rg_i (by omega) ?_
            refine hK 10 [some (vR 111 0), some (vI c), some (vI cl), some (vI (mn + 1)), some (vI (m + 1)), some (vI v), none] [] U15 ?_
            refine j_drq [some (vR 111 0), some (vI c), some (vI cl), some (vI (mn + 1)), some (vI (m + 1)), none, none] (drq_s (drq_s (drq_s (drq_s (drq_s (drq_n (drq_n drq_0))))))) ?_
            refine ih_10 _ ?_ (mn + 1) (m + 1) U15 (Nat.le_refl _) ?_ ?_ ?_ ?_ ?_ ?_ ?_
            · have hm_10 := hm_10 (); omega
            · exact fr_u (fr_t (fr_0 _ _) (fr_s hf_10 rfl)) hU15 rfl
            · omega
            · have ke : m + 1 - T 210 0 c = (m - T 210 0 c) + 1 := by omega
              have km : T 210 0 c + (m - T 210 0 c) = m := by omega
              have z1 : T1 235 0 m = T 235 0 m := hf_10 235 0 m rfl
              have z2 : T1 232 0 m = T 232 0 m := hf_10 232 0 m rfl
              have z3 : T1 233 0 m = T 233 0 m := hf_10 233 0 m rfl
              rw [ke, dl_t (by omega) (show OE7_ T c cl (m - T 210 0 c) by unfold OE7_; rw [km]; omega)]
              show _ = (dl9_ (OE7_ T c cl) ((m - T 210 0 c)).toNat).1 + 1
              omega
            · have ke : m + 1 - T 210 0 c = (m - T 210 0 c) + 1 := by omega
              have km : T 210 0 c + (m - T 210 0 c) = m := by omega
              have z1 : T1 235 0 m = T 235 0 m := hf_10 235 0 m rfl
              have z2 : T1 232 0 m = T 232 0 m := hf_10 232 0 m rfl
              have z3 : T1 233 0 m = T 233 0 m := hf_10 233 0 m rfl
              rw [ke, dl_t (by omega) (show OE7_ T c cl (m - T 210 0 c) by unfold OE7_; rw [km]; omega)]
              intro j a b
              show U15 297 0 j = T 210 0 c + fu_ (dl9_ (OE7_ T c cl) ((m - T 210 0 c)).toNat).2 (dl9_ (OE7_ T c cl) ((m - T 210 0 c)).toNat).1 (m - T 210 0 c) j
              by_cases z : j = (dl9_ (OE7_ T c cl) ((m - T 210 0 c)).toNat).1
              · rw [z, fu_s, ← mn1, up_f hU15]; omega
              · rw [fu_n z, up_g hU15 (fun q => z (by omega))]; exact op1 j a (by omega)
            · have ke : m + 1 - T 210 0 c = (m - T 210 0 c) + 1 := by omega
              have km : T 210 0 c + (m - T 210 0 c) = m := by omega
              have z1 : T1 235 0 m = T 235 0 m := hf_10 235 0 m rfl
              have z2 : T1 232 0 m = T 232 0 m := hf_10 232 0 m rfl
              have z3 : T1 233 0 m = T 233 0 m := hf_10 233 0 m rfl
              intro j a b q
              rw [show U15 289 0 (T 210 0 c + j) = T1 289 0 (T 210 0 c + j) from up_k hU15 (by exact Nat.ne_of_beq_eq_false rfl) 0 _]
              exact ow1 j a (by rcases (by omega : j = (m - T 210 0 c) ∨ j < (m - T 210 0 c)) with y | y; (rw [y] at q; unfold ON7_ at q; rw [km] at q; omega); exact y) q
            · exact fun y hy => (up_k hU15 (by exact Nat.ne_of_beq_eq_false rfl) 0 y).trans (we1 y (fun j a b => hy j a (by omega)))
            · have ke : m + 1 - T 210 0 c = (m - T 210 0 c) + 1 := by omega
              have km : T 210 0 c + (m - T 210 0 c) = m := by omega
              have z1 : T1 235 0 m = T 235 0 m := hf_10 235 0 m rfl
              have z2 : T1 232 0 m = T 232 0 m := hf_10 232 0 m rfl
              have z3 : T1 233 0 m = T 233 0 m := hf_10 233 0 m rfl
              intro v a b
              rw [ke, ol7_s (by omega), cz_f (fun q => by have q1 := q.1; unfold ON7_ at q1; rw [km] at q1; clear q; omega), Int.add_zero, ← po1 v a b]
              exact up_k hU15 (by exact Nat.ne_of_beq_eq_false rfl) 0 v
        · replace hx9 := hx9.resolve_right (fun z => c11 z.1)
          clear c11
          refine And.intro (fun c17 => ?_) (fun c17 => ?_)
          · refine hK 139 _ [] T1 ?_
            refine j_blx (F := fX11) tb_X11 (nn_ _) bk_X11_canTry_e_139 bs_X11_canTry_e_139 hz (fun K hK => ?_)
            refine hK 142 _ [vI m, vR 111 0] T1 ?_
            refine j_callV (y := yX11_isLeft) (Yc := zX11_isLeft) (rest := []) [vI m] (ct_X11_isLeft (T := T1) (by omega)) cl_X11_538 (qd_c (by decide +kernel)) (nn_ _) rfl (rf_of rfl) (Nat.le_of_ble_eq_true rfl) (Nat.le_of_ble_eq_true rfl) (Nat.le_of_ble_eq_true rfl) rfl ?_
            rintro _ _ ⟨rfl, x18, rfl, hx18⟩
            have e19 : T1 235 0 m = T 235 0 m := hf_10 235 0 m rfl
            show J_ zX11_canTry T (po_X11_canTry_e T c cl) 0 0 145 _ [vI x18] T1
            refine j_blx (F := fX11) tb_X11 (nn_ _) bk_X11_canTry_e_145 bs_X11_canTry_e_145 hz (fun K hK => ?_)
            refine And.intro (fun c20 => ?_) (fun c20 => ?_)
            · replace hx18 := hx18.resolve_left (fun z => absurd (c20.symm.trans z.1) (by decide))
              clear c20
              refine hK 159 _ [] T1 ?_
              refine j_blx (F := fX11) tb_X11 (nn_ _) bk_X11_canTry_e_159 bs_X11_canTry_e_159 hz (fun K hK => ?_)
              refine rg_i (by omega) ?_
              refine hK 10 [some (vR 111 0), some (vI c), some (vI cl), some (vI mn), some (vI (m + 1)), some (vI v), none] [] T1 ?_
              refine j_drq [some (vR 111 0), some (vI c), some (vI cl), some (vI mn), some (vI (m + 1)), none, none] (drq_s (drq_s (drq_s (drq_s (drq_s (drq_n (drq_n drq_0))))))) ?_
              refine ih_10 _ ?_ mn (m + 1) T1 (Nat.le_refl _) ?_ ?_ ?_ ?_ ?_ ?_ ?_
              · have hm_10 := hm_10 (); omega
              · exact fr_t (fr_0 _ _) (fr_s hf_10 rfl)
              · omega
              · have ke : m + 1 - T 210 0 c = (m - T 210 0 c) + 1 := by omega
                have km : T 210 0 c + (m - T 210 0 c) = m := by omega
                have z1 : T1 235 0 m = T 235 0 m := hf_10 235 0 m rfl
                have z2 : T1 232 0 m = T 232 0 m := hf_10 232 0 m rfl
                have z3 : T1 233 0 m = T 233 0 m := hf_10 233 0 m rfl
                rw [ke, dl_f (by omega) (show ¬ OE7_ T c cl (m - T 210 0 c) by unfold OE7_; rw [km]; omega)]
                exact mn1
              · have ke : m + 1 - T 210 0 c = (m - T 210 0 c) + 1 := by omega
                have km : T 210 0 c + (m - T 210 0 c) = m := by omega
                have z1 : T1 235 0 m = T 235 0 m := hf_10 235 0 m rfl
                have z2 : T1 232 0 m = T 232 0 m := hf_10 232 0 m rfl
                have z3 : T1 233 0 m = T 233 0 m := hf_10 233 0 m rfl
                rw [ke, dl_f (by omega) (show ¬ OE7_ T c cl (m - T 210 0 c) by unfold OE7_; rw [km]; omega)]
                exact op1
              · have ke : m + 1 - T 210 0 c = (m - T 210 0 c) + 1 := by omega
                have km : T 210 0 c + (m - T 210 0 c) = m := by omega
                have z1 : T1 235 0 m = T 235 0 m := hf_10 235 0 m rfl
                have z2 : T1 232 0 m = T 232 0 m := hf_10 232 0 m rfl
                have z3 : T1 233 0 m = T 233 0 m := hf_10 233 0 m rfl
                intro j a b q
                exact ow1 j a (by rcases (by omega : j = (m - T 210 0 c) ∨ j < (m - T 210 0 c)) with y | y; (rw [y] at q; unfold ON7_ at q; rw [km] at q; omega); exact y) q
              · exact fun y hy => we1 y (fun j a b => hy j a (by omega))
              · have ke : m + 1 - T 210 0 c = (m - T 210 0 c) + 1 := by omega
                have km : T 210 0 c + (m - T 210 0 c) = m := by omega
                have z1 : T1 235 0 m = T 235 0 m := hf_10 235 0 m rfl
                have z2 : T1 232 0 m = T 232 0 m := hf_10 232 0 m rfl
                have z3 : T1 233 0 m = T 233 0 m := hf_10 233 0 m rfl
                intro v a b
                rw [ke, ol7_s (by omega), cz_f (fun q => by have q1 := q.1; unfold ON7_ at q1; rw [km] at q1; clear q; omega), Int.add_zero, ← po1 v a b]
            · replace hx18 := hx18.resolve_right (fun z => c20 z.1)
              clear c20
              refine iy_i (by omega) (by omega) ?_
              refine x_nm (fun U21 hU21 => ?_)
              have e22 := up_f hU21
              refine rg_i (by omega) ?_
              refine rg_i (by omega) ?_
              refine hK 10 [some (vR 111 0), some (vI c), some (vI cl), some (vI (mn + 1)), some (vI (m + 1)), some (vI v), none] [] U21 ?_
              refine j_drq [some (vR 111 0), some (vI c), some (vI cl), some (vI (mn + 1)), some (vI (m + 1)), none, none] (drq_s (drq_s (drq_s (drq_s (drq_s (drq_n (drq_n drq_0))))))) ?_
              refine ih_10 _ ?_ (mn + 1) (m + 1) U21 (Nat.le_refl _) ?_ ?_ ?_ ?_ ?_ ?_ ?_
              · have hm_10 := hm_10 (); omega
              · exact fr_u (fr_t (fr_0 _ _) (fr_s hf_10 rfl)) hU21 rfl
              · omega
              · have ke : m + 1 - T 210 0 c = (m - T 210 0 c) + 1 := by omega
                have km : T 210 0 c + (m - T 210 0 c) = m := by omega
                have z1 : T1 235 0 m = T 235 0 m := hf_10 235 0 m rfl
                have z2 : T1 232 0 m = T 232 0 m := hf_10 232 0 m rfl
                have z3 : T1 233 0 m = T 233 0 m := hf_10 233 0 m rfl
                rw [ke, dl_t (by omega) (show OE7_ T c cl (m - T 210 0 c) by unfold OE7_; rw [km]; omega)]
                show _ = (dl9_ (OE7_ T c cl) ((m - T 210 0 c)).toNat).1 + 1
                omega
              · have ke : m + 1 - T 210 0 c = (m - T 210 0 c) + 1 := by omega
                have km : T 210 0 c + (m - T 210 0 c) = m := by omega
                have z1 : T1 235 0 m = T 235 0 m := hf_10 235 0 m rfl
                have z2 : T1 232 0 m = T 232 0 m := hf_10 232 0 m rfl
                have z3 : T1 233 0 m = T 233 0 m := hf_10 233 0 m rfl
                rw [ke, dl_t (by omega) (show OE7_ T c cl (m - T 210 0 c) by unfold OE7_; rw [km]; omega)]
                intro j a b
                show U21 297 0 j = T 210 0 c + fu_ (dl9_ (OE7_ T c cl) ((m - T 210 0 c)).toNat).2 (dl9_ (OE7_ T c cl) ((m - T 210 0 c)).toNat).1 (m - T 210 0 c) j
                by_cases z : j = (dl9_ (OE7_ T c cl) ((m - T 210 0 c)).toNat).1
                · rw [z, fu_s, ← mn1, up_f hU21]; omega
                · rw [fu_n z, up_g hU21 (fun q => z (by omega))]; exact op1 j a (by omega)
              · have ke : m + 1 - T 210 0 c = (m - T 210 0 c) + 1 := by omega
                have km : T 210 0 c + (m - T 210 0 c) = m := by omega
                have z1 : T1 235 0 m = T 235 0 m := hf_10 235 0 m rfl
                have z2 : T1 232 0 m = T 232 0 m := hf_10 232 0 m rfl
                have z3 : T1 233 0 m = T 233 0 m := hf_10 233 0 m rfl
                intro j a b q
                rw [show U21 289 0 (T 210 0 c + j) = T1 289 0 (T 210 0 c + j) from up_k hU21 (by exact Nat.ne_of_beq_eq_false rfl) 0 _]
                exact ow1 j a (by rcases (by omega : j = (m - T 210 0 c) ∨ j < (m - T 210 0 c)) with y | y; (rw [y] at q; unfold ON7_ at q; rw [km] at q; omega); exact y) q
              · exact fun y hy => (up_k hU21 (by exact Nat.ne_of_beq_eq_false rfl) 0 y).trans (we1 y (fun j a b => hy j a (by omega)))
              · have ke : m + 1 - T 210 0 c = (m - T 210 0 c) + 1 := by omega
                have km : T 210 0 c + (m - T 210 0 c) = m := by omega
                have z1 : T1 235 0 m = T 235 0 m := hf_10 235 0 m rfl
                have z2 : T1 232 0 m = T 232 0 m := hf_10 232 0 m rfl
                have z3 : T1 233 0 m = T 233 0 m := hf_10 233 0 m rfl
                intro v a b
                rw [ke, ol7_s (by omega), cz_f (fun q => by have q1 := q.1; unfold ON7_ at q1; rw [km] at q1; clear q; omega), Int.add_zero, ← po1 v a b]
                exact up_k hU21 (by exact Nat.ne_of_beq_eq_false rfl) 0 v
          · refine ix_i (by omega) ?_
            intro b23 b23b
            have e24 : T1 232 0 m = T 232 0 m := hf_10 232 0 m rfl
            rw [e24] at b23 b23b ⊢
            refine And.intro (fun c25 => ?_) (fun c25 => ?_)
            · refine hK 92 _ [vI m, vR 289 0] T1 ?_
              refine j_blx (F := fX11) tb_X11 (nn_ _) bk_X11_canTry_e_92 bs_X11_canTry_e_92 hz (fun K hK => ?_)
              refine iy_i (by omega) (by omega) ?_
              refine x_nm (fun U26 hU26 => ?_)
              have e27 := up_f hU26
              refine ix_i (by omega) ?_
              intro b28 b28b
              have e29 : U26 232 0 m = T 232 0 m := (up_k hU26 (by exact Nat.ne_of_beq_eq_false rfl) 0 m).trans (hf_10 232 0 m rfl)
              rw [e29] at b28 b28b ⊢
              refine And.intro (fun c30 => ?_) (fun c30 => ?_)
              · refine hK 119 _ [vR 291 0] U26 ?_
                refine j_blx (F := fX11) tb_X11 (nn_ _) bk_X11_canTry_e_119 bs_X11_canTry_e_119 hz (fun K hK => ?_)
                refine ix_i (by omega) ?_
                intro b31 b31b
                have e32 : U26 232 0 m = T 232 0 m := (up_k hU26 (by exact Nat.ne_of_beq_eq_false rfl) 0 m).trans (hf_10 232 0 m rfl)
                rw [e32] at b31 b31b ⊢
                refine ix_i (by omega) ?_
                intro b33 b33b
                have e34 : U26 291 0 (T 232 0 m) = T1 291 0 (T 232 0 m) := up_k hU26 (by exact Nat.ne_of_beq_eq_false rfl) 0 (T 232 0 m)
                rw [e34] at b33 b33b ⊢
                refine hK 131 _ [vI 3, vI c, vR 111 0, vI (T1 291 0 (T 232 0 m)), vI (T 232 0 m), vR 291 0] U26 ?_
                refine j_callV (y := yX11_rule0) (Yc := zX11_rule0) (rest := [vI (T1 291 0 (T 232 0 m)), vI (T 232 0 m), vR 291 0]) [vI c, vI 3] (ct_X11_rule0 (T := U26) (by omega) (by omega)) cl_X11_321 (qd_c (by decide +kernel)) (nn_ _) rfl (rf_of rfl) (Nat.le_of_ble_eq_true rfl) (Nat.le_of_ble_eq_true rfl) (Nat.le_of_ble_eq_true rfl) rfl ?_
                rintro _ _ ⟨rfl, rfl⟩
                have e35 : U26 205 0 (23 * c + 3) = T 205 0 (23 * c + 3) := (up_k hU26 (by exact Nat.ne_of_beq_eq_false rfl) 0 (23 * c + 3)).trans (hf_10 205 0 (23 * c + 3) rfl)
                show J_ zX11_canTry T (po_X11_canTry_e T c cl) 0 0 134 _ [vI (U26 205 0 (23 * c + 3)), vI (T1 291 0 (T 232 0 m)), vI (T 232 0 m), vR 291 0] U26
                refine j_blx (F := fX11) tb_X11 (nn_ _) bk_X11_canTry_e_134 bs_X11_canTry_e_134 hz (fun K hK => ?_)
                intro w36 w36b
                refine iy_i (by omega) (by omega) ?_
                refine x_nm (fun U37 hU37 => ?_)
                have e38 := up_f hU37
                refine hK 159 _ [] U37 ?_
                refine j_blx (F := fX11) tb_X11 (nn_ _) bk_X11_canTry_e_159 bs_X11_canTry_e_159 hz (fun K hK => ?_)
                refine rg_i (by omega) ?_
                refine hK 10 [some (vR 111 0), some (vI c), some (vI cl), some (vI mn), some (vI (m + 1)), some (vI v), none] [] U37 ?_
                refine j_drq [some (vR 111 0), some (vI c), some (vI cl), some (vI mn), some (vI (m + 1)), none, none] (drq_s (drq_s (drq_s (drq_s (drq_s (drq_n (drq_n drq_0))))))) ?_
                refine ih_10 _ ?_ mn (m + 1) U37 (Nat.le_refl _) ?_ ?_ ?_ ?_ ?_ ?_ ?_
                · have hm_10 := hm_10 (); omega
                · exact fr_u (fr_u (fr_t (fr_0 _ _) (fr_s hf_10 rfl)) hU26 rfl) hU37 rfl
                · omega
                · have ke : m + 1 - T 210 0 c = (m - T 210 0 c) + 1 := by omega
                  have km : T 210 0 c + (m - T 210 0 c) = m := by omega
                  have z1 : T1 235 0 m = T 235 0 m := hf_10 235 0 m rfl
                  have z2 : T1 232 0 m = T 232 0 m := hf_10 232 0 m rfl
                  have z3 : T1 233 0 m = T 233 0 m := hf_10 233 0 m rfl
                  rw [ke, dl_f (by omega) (show ¬ OE7_ T c cl (m - T 210 0 c) by unfold OE7_; rw [km]; omega)]
                  exact mn1
                · have ke : m + 1 - T 210 0 c = (m - T 210 0 c) + 1 := by omega
                  have km : T 210 0 c + (m - T 210 0 c) = m := by omega
                  have z1 : T1 235 0 m = T 235 0 m := hf_10 235 0 m rfl
                  have z2 : T1 232 0 m = T 232 0 m := hf_10 232 0 m rfl
                  have z3 : T1 233 0 m = T 233 0 m := hf_10 233 0 m rfl
                  rw [ke, dl_f (by omega) (show ¬ OE7_ T c cl (m - T 210 0 c) by unfold OE7_; rw [km]; omega)]
                  exact fun j a b => ((up_k hU37 (by exact Nat.ne_of_beq_eq_false rfl) 0 j).trans (up_k hU26 (by exact Nat.ne_of_beq_eq_false rfl) 0 j)).trans (op1 j a b)
                · have ke : m + 1 - T 210 0 c = (m - T 210 0 c) + 1 := by omega
                  have km : T 210 0 c + (m - T 210 0 c) = m := by omega
                  have z1 : T1 235 0 m = T 235 0 m := hf_10 235 0 m rfl
                  have z2 : T1 232 0 m = T 232 0 m := hf_10 232 0 m rfl
                  have z3 : T1 233 0 m = T 233 0 m := hf_10 233 0 m rfl
                  intro j a b q
                  rw [show U37 289 0 (T 210 0 c + j) = U26 289 0 (T 210 0 c + j) from up_k hU37 (by exact Nat.ne_of_beq_eq_false rfl) 0 _]
                  by_cases z : j = (m - T 210 0 c)
                  · rw [z, km, up_f hU26]
                    first
                    | (rw [cz_t (by omega)]; done)
                    | (rw [cz_f (by omega)]; done)
                  · rw [up_g hU26 (fun y => z (by omega))]
                    exact ow1 j a (by omega) q
                · have ke : m + 1 - T 210 0 c = (m - T 210 0 c) + 1 := by omega
                  have km : T 210 0 c + (m - T 210 0 c) = m := by omega
                  have z1 : T1 235 0 m = T 235 0 m := hf_10 235 0 m rfl
                  have z2 : T1 232 0 m = T 232 0 m := hf_10 232 0 m rfl
                  have z3 : T1 233 0 m = T 233 0 m := hf_10 233 0 m rfl
                  intro y hy
                  rw [show U37 289 0 y = U26 289 0 y from up_k hU37 (by exact Nat.ne_of_beq_eq_false rfl) 0 y, up_g hU26 (fun q => hy (m - T 210 0 c) (by omega) (by omega) (by unfold ON7_; rw [km]; omega) (by omega))]
                  exact we1 y (fun j a b => hy j a (by omega))
                · have ke : m + 1 - T 210 0 c = (m - T 210 0 c) + 1 := by omega
                  have km : T 210 0 c + (m - T 210 0 c) = m := by omega
                  have z1 : T1 235 0 m = T 235 0 m := hf_10 235 0 m rfl
                  have z2 : T1 232 0 m = T 232 0 m := hf_10 232 0 m rfl
                  have z3 : T1 233 0 m = T 233 0 m := hf_10 233 0 m rfl
                  intro v a b
                  have on9 : ON7_ T c cl (m - T 210 0 c) := by unfold ON7_; rw [km]; omega
                  have ex9 : cz_ (T 232 0 m = cl) (T 233 0 m) (T 232 0 m) = T 232 0 m := by
                    first
                    | (rw [cz_t (by omega)]; done)
                    | (rw [cz_f (by omega)]; done)
                  rw [ke, ol7_s (by omega), km, ex9]
                  by_cases z : v = T 232 0 m
                  · rw [cz_t ⟨on9, z⟩, z, up_f hU37]
                    have y1 := po1 (T 232 0 m) (by omega) (by omega)
                    have y2 := ol7_b (T := T) (c := c) (b := cl) (v := T 232 0 m) hr3 (m - T 210 0 c).toNat
                    have y3 := hpb (T 232 0 m) (by omega) (by omega)
                    have y4 : U26 291 0 (T 232 0 m) = T1 291 0 (T 232 0 m) := up_k hU26 (by exact Nat.ne_of_beq_eq_false rfl) 0 (T 232 0 m)
                    rw [wr_9 (by omega)]
                    omega
                  · rw [cz_f (fun q => z q.2), up_g hU37 (fun q => z q.2.2), show U26 291 0 v = T1 291 0 v from up_k hU26 (by exact Nat.ne_of_beq_eq_false rfl) 0 v, po1 v a b]
                    omega
              · refine ix_i (by omega) ?_
                intro b39 b39b
                have e40 : U26 233 0 m = T 233 0 m := (up_k hU26 (by exact Nat.ne_of_beq_eq_false rfl) 0 m).trans (hf_10 233 0 m rfl)
                rw [e40] at b39 b39b ⊢
                refine hK 126 [some (vR 111 0), some (vI c), some (vI cl), some (vI mn), some (vI m), some (vI v), none] [vI (T 233 0 m), vR 291 0] U26 ?_
                refine j_blx (F := fX11) tb_X11 (nn_ _) bk_X11_canTry_e_126 bs_X11_canTry_e_126 hz (fun K hK => ?_)
                refine ix_i (by omega) ?_
                intro b41 b41b
                have e42 : U26 291 0 (T 233 0 m) = T1 291 0 (T 233 0 m) := up_k hU26 (by exact Nat.ne_of_beq_eq_false rfl) 0 (T 233 0 m)
                rw [e42] at b41 b41b ⊢
                refine hK 131 _ [vI 3, vI c, vR 111 0, vI (T1 291 0 (T 233 0 m)), vI (T 233 0 m), vR 291 0] U26 ?_
                refine j_callV (y := yX11_rule0) (Yc := zX11_rule0) (rest := [vI (T1 291 0 (T 233 0 m)), vI (T 233 0 m), vR 291 0]) [vI c, vI 3] (ct_X11_rule0 (T := U26) (by omega) (by omega)) cl_X11_321 (qd_c (by decide +kernel)) (nn_ _) rfl (rf_of rfl) (Nat.le_of_ble_eq_true rfl) (Nat.le_of_ble_eq_true rfl) (Nat.le_of_ble_eq_true rfl) rfl ?_
                rintro _ _ ⟨rfl, rfl⟩
                have e43 : U26 205 0 (23 * c + 3) = T 205 0 (23 * c + 3) := (up_k hU26 (by exact Nat.ne_of_beq_eq_false rfl) 0 (23 * c + 3)).trans (hf_10 205 0 (23 * c + 3) rfl)
                show J_ zX11_canTry T (po_X11_canTry_e T c cl) 0 0 134 _ [vI (U26 205 0 (23 * c + 3)), vI (T1 291 0 (T 233 0 m)), vI (T 233 0 m), vR 291 0] U26
                refine j_blx (F := fX11) tb_X11 (nn_ _) bk_X11_canTry_e_134 bs_X11_canTry_e_134 hz (fun K hK => ?_)
                intro w44 w44b
                refine iy_i (by omega) (by omega) ?_
                refine x_nm (fun U45 hU45 => ?_)
                have e46 := up_f hU45
                refine hK 159 _ [] U45 ?_
                refine j_blx (F := fX11) tb_X11 (nn_ _) bk_X11_canTry_e_159 bs_X11_canTry_e_159 hz (fun K hK => ?_)
                refine rg_i (by omega) ?_
                refine hK 10 [some (vR 111 0), some (vI c), some (vI cl), some (vI mn), some (vI (m + 1)), some (vI v), none] [] U45 ?_
                refine j_drq [some (vR 111 0), some (vI c), some (vI cl), some (vI mn), some (vI (m + 1)), none, none] (drq_s (drq_s (drq_s (drq_s (drq_s (drq_n (drq_n drq_0))))))) ?_
                refine ih_10 _ ?_ mn (m + 1) U45 (Nat.le_refl _) ?_ ?_ ?_ ?_ ?_ ?_ ?_
                · have hm_10 := hm_10 (); omega
                · exact fr_u (fr_u (fr_t (fr_0 _ _) (fr_s hf_10 rfl)) hU26 rfl) hU45 rfl
                · omega
                · have ke : m + 1 - T 210 0 c = (m - T 210 0 c) + 1 := by omega
                  have km : T 210 0 c + (m - T 210 0 c) = m := by omega
                  have z1 : T1 235 0 m = T 235 0 m := hf_10 235 0 m rfl
                  have z2 : T1 232 0 m = T 232 0 m := hf_10 232 0 m rfl
                  have z3 : T1 233 0 m = T 233 0 m := hf_10 233 0 m rfl
                  rw [ke, dl_f (by omega) (show ¬ OE7_ T c cl (m - T 210 0 c) by unfold OE7_; rw [km]; omega)]
                  exact mn1
                · have ke : m + 1 - T 210 0 c = (m - T 210 0 c) + 1 := by omega
                  have km : T 210 0 c + (m - T 210 0 c) = m := by omega
                  have z1 : T1 235 0 m = T 235 0 m := hf_10 235 0 m rfl
                  have z2 : T1 232 0 m = T 232 0 m := hf_10 232 0 m rfl
                  have z3 : T1 233 0 m = T 233 0 m := hf_10 233 0 m rfl
                  rw [ke, dl_f (by omega) (show ¬ OE7_ T c cl (m - T 210 0 c) by unfold OE7_; rw [km]; omega)]
                  exact fun j a b => ((up_k hU45 (by exact Nat.ne_of_beq_eq_false rfl) 0 j).trans (up_k hU26 (by exact Nat.ne_of_beq_eq_false rfl) 0 j)).trans (op1 j a b)
                · have ke : m + 1 - T 210 0 c = (m - T 210 0 c) + 1 := by omega
                  have km : T 210 0 c + (m - T 210 0 c) = m := by omega
                  have z1 : T1 235 0 m = T 235 0 m := hf_10 235 0 m rfl
                  have z2 : T1 232 0 m = T 232 0 m := hf_10 232 0 m rfl
                  have z3 : T1 233 0 m = T 233 0 m := hf_10 233 0 m rfl
                  intro j a b q
                  rw [show U45 289 0 (T 210 0 c + j) = U26 289 0 (T 210 0 c + j) from up_k hU45 (by exact Nat.ne_of_beq_eq_false rfl) 0 _]
                  by_cases z : j = (m - T 210 0 c)
                  · rw [z, km, up_f hU26]
                    first
                    | (rw [cz_t (by omega)]; done)
                    | (rw [cz_f (by omega)]; done)
                  · rw [up_g hU26 (fun y => z (by omega))]
                    exact ow1 j a (by omega) q
                · have ke : m + 1 - T 210 0 c = (m - T 210 0 c) + 1 := by omega
                  have km : T 210 0 c + (m - T 210 0 c) = m := by omega
                  have z1 : T1 235 0 m = T 235 0 m := hf_10 235 0 m rfl
                  have z2 : T1 232 0 m = T 232 0 m := hf_10 232 0 m rfl
                  have z3 : T1 233 0 m = T 233 0 m := hf_10 233 0 m rfl
                  intro y hy
                  rw [show U45 289 0 y = U26 289 0 y from up_k hU45 (by exact Nat.ne_of_beq_eq_false rfl) 0 y, up_g hU26 (fun q => hy (m - T 210 0 c) (by omega) (by omega) (by unfold ON7_; rw [km]; omega) (by omega))]
                  exact we1 y (fun j a b => hy j a (by omega))
                · have ke : m + 1 - T 210 0 c = (m - T 210 0 c) + 1 := by omega
                  have km : T 210 0 c + (m - T 210 0 c) = m := by omega
                  have z1 : T1 235 0 m = T 235 0 m := hf_10 235 0 m rfl
                  have z2 : T1 232 0 m = T 232 0 m := hf_10 232 0 m rfl
                  have z3 : T1 233 0 m = T 233 0 m := hf_10 233 0 m rfl
                  intro v a b
                  have on9 : ON7_ T c cl (m - T 210 0 c) := by unfold ON7_; rw [km]; omega
                  have ex9 : cz_ (T 232 0 m = cl) (T 233 0 m) (T 232 0 m) = T 233 0 m := by
                    first
                    | (rw [cz_t (by omega)]; done)
                    | (rw [cz_f (by omega)]; done)
                  rw [ke, ol7_s (by omega), km, ex9]
                  by_cases z : v = T 233 0 m
                  · rw [cz_t ⟨on9, z⟩, z, up_f hU45]
                    have y1 := po1 (T 233 0 m) (by omega) (by omega)
                    have y2 := ol7_b (T := T) (c := c) (b := cl) (v := T 233 0 m) hr3 (m - T 210 0 c).toNat
                    have y3 := hpb (T 233 0 m) (by omega) (by omega)
                    have y4 : U26 291 0 (T 233 0 m) = T1 291 0 (T 233 0 m) := up_k hU26 (by exact Nat.ne_of_beq_eq_false rfl) 0 (T 233 0 m)
                    rw [wr_9 (by omega)]
                    omega
                  · rw [cz_f (fun q => z q.2), up_g hU45 (fun q => z q.2.2), show U26 291 0 v = T1 291 0 v from up_k hU26 (by exact Nat.ne_of_beq_eq_false rfl) 0 v, po1 v a b]
                    omega
            · refine hK 93 _ [vI 0, vI m, vR 289 0] T1 ?_
              refine j_blx (F := fX11) tb_X11 (nn_ _) bk_X11_canTry_e_93 bs_X11_canTry_e_93 hz (fun K hK => ?_)
              refine iy_i (by omega) (by omega) ?_
              refine x_nm (fun U47 hU47 => ?_)
              have e48 := up_f hU47
              refine ix_i (by omega) ?_
              intro b49 b49b
              have e50 : U47 232 0 m = T 232 0 m := (up_k hU47 (by exact Nat.ne_of_beq_eq_false rfl) 0 m).trans (hf_10 232 0 m rfl)
              rw [e50] at b49 b49b ⊢
              refine And.intro (fun c51 => ?_) (fun c51 => ?_)
              · refine hK 119 _ [vR 291 0] U47 ?_
                refine j_blx (F := fX11) tb_X11 (nn_ _) bk_X11_canTry_e_119 bs_X11_canTry_e_119 hz (fun K hK => ?_)
                refine ix_i (by omega) ?_
                intro b52 b52b
                have e53 : U47 232 0 m = T 232 0 m := (up_k hU47 (by exact Nat.ne_of_beq_eq_false rfl) 0 m).trans (hf_10 232 0 m rfl)
                rw [e53] at b52 b52b ⊢
                refine ix_i (by omega) ?_
                intro b54 b54b
                have e55 : U47 291 0 (T 232 0 m) = T1 291 0 (T 232 0 m) := up_k hU47 (by exact Nat.ne_of_beq_eq_false rfl) 0 (T 232 0 m)
                rw [e55] at b54 b54b ⊢
                refine hK 131 _ [vI 3, vI c, vR 111 0, vI (T1 291 0 (T 232 0 m)), vI (T 232 0 m), vR 291 0] U47 ?_
                refine j_callV (y := yX11_rule0) (Yc := zX11_rule0) (rest := [vI (T1 291 0 (T 232 0 m)), vI (T 232 0 m), vR 291 0]) [vI c, vI 3] (ct_X11_rule0 (T := U47) (by omega) (by omega)) cl_X11_321 (qd_c (by decide +kernel)) (nn_ _) rfl (rf_of rfl) (Nat.le_of_ble_eq_true rfl) (Nat.le_of_ble_eq_true rfl) (Nat.le_of_ble_eq_true rfl) rfl ?_
                rintro _ _ ⟨rfl, rfl⟩
                have e56 : U47 205 0 (23 * c + 3) = T 205 0 (23 * c + 3) := (up_k hU47 (by exact Nat.ne_of_beq_eq_false rfl) 0 (23 * c + 3)).trans (hf_10 205 0 (23 * c + 3) rfl)
                show J_ zX11_canTry T (po_X11_canTry_e T c cl) 0 0 134 _ [vI (U47 205 0 (23 * c + 3)), vI (T1 291 0 (T 232 0 m)), vI (T 232 0 m), vR 291 0] U47
                refine j_blx (F := fX11) tb_X11 (nn_ _) bk_X11_canTry_e_134 bs_X11_canTry_e_134 hz (fun K hK => ?_)
                intro w57 w57b
                refine iy_i (by omega) (by omega) ?_
                refine x_nm (fun U58 hU58 => ?_)
                have e59 := up_f hU58
                refine hK 159 _ [] U58 ?_
                refine j_blx (F := fX11) tb_X11 (nn_ _) bk_X11_canTry_e_159 bs_X11_canTry_e_159 hz (fun K hK => ?_)
                refine rg_i (by omega) ?_
                refine hK 10 [some (vR 111 0), some (vI c), some (vI cl), some (vI mn), some (vI (m + 1)), some (vI v), none] [] U58 ?_
                refine j_drq [some (vR 111 0), some (vI c), some (vI cl), some (vI mn), some (vI (m + 1)), none, none] (drq_s (drq_s (drq_s (drq_s (drq_s (drq_n (drq_n drq_0))))))) ?_
                refine ih_10 _ ?_ mn (m + 1) U58 (Nat.le_refl _) ?_ ?_ ?_ ?_ ?_ ?_ ?_
                · have hm_10 := hm_10 (); omega
                · exact fr_u (fr_u (fr_t (fr_0 _ _) (fr_s hf_10 rfl)) hU47 rfl) hU58 rfl
                · omega
                · have ke : m + 1 - T 210 0 c = (m - T 210 0 c) + 1 := by omega
                  have km : T 210 0 c + (m - T 210 0 c) = m := by omega
                  have z1 : T1 235 0 m = T 235 0 m := hf_10 235 0 m rfl
                  have z2 : T1 232 0 m = T 232 0 m := hf_10 232 0 m rfl
                  have z3 : T1 233 0 m = T 233 0 m := hf_10 233 0 m rfl
                  rw [ke, dl_f (by omega) (show ¬ OE7_ T c cl (m - T 210 0 c) by unfold OE7_; rw [km]; omega)]
                  exact mn1
                · have ke : m + 1 - T 210 0 c = (m - T 210 0 c) + 1 := by omega
                  have km : T 210 0 c + (m - T 210 0 c) = m := by omega
                  have z1 : T1 235 0 m = T 235 0 m := hf_10 235 0 m rfl
                  have z2 : T1 232 0 m = T 232 0 m := hf_10 232 0 m rfl
                  have z3 : T1 233 0 m = T 233 0 m := hf_10 233 0 m rfl
                  rw [ke, dl_f (by omega) (show ¬ OE7_ T c cl (m - T 210 0 c) by unfold OE7_; rw [km]; omega)]
                  exact fun j a b => ((up_k hU58 (by exact Nat.ne_of_beq_eq_false rfl) 0 j).trans (up_k hU47 (by exact Nat.ne_of_beq_eq_false rfl) 0 j)).trans (op1 j a b)
                · have ke : m + 1 - T 210 0 c = (m - T 210 0 c) + 1 := by omega
                  have km : T 210 0 c + (m - T 210 0 c) = m := by omega
                  have z1 : T1 235 0 m = T 235 0 m := hf_10 235 0 m rfl
                  have z2 : T1 232 0 m = T 232 0 m := hf_10 232 0 m rfl
                  have z3 : T1 233 0 m = T 233 0 m := hf_10 233 0 m rfl
                  intro j a b q
                  rw [show U58 289 0 (T 210 0 c + j) = U47 289 0 (T 210 0 c + j) from up_k hU58 (by exact Nat.ne_of_beq_eq_false rfl) 0 _]
                  by_cases z : j = (m - T 210 0 c)
                  · rw [z, km, up_f hU47]
                    first
                    | (rw [cz_t (by omega)]; done)
                    | (rw [cz_f (by omega)]; done)
                  · rw [up_g hU47 (fun y => z (by omega))]
                    exact ow1 j a (by omega) q
                · have ke : m + 1 - T 210 0 c = (m - T 210 0 c) + 1 := by omega
                  have km : T 210 0 c + (m - T 210 0 c) = m := by omega
                  have z1 : T1 235 0 m = T 235 0 m := hf_10 235 0 m rfl
                  have z2 : T1 232 0 m = T 232 0 m := hf_10 232 0 m rfl
                  have z3 : T1 233 0 m = T 233 0 m := hf_10 233 0 m rfl
                  intro y hy
                  rw [show U58 289 0 y = U47 289 0 y from up_k hU58 (by exact Nat.ne_of_beq_eq_false rfl) 0 y, up_g hU47 (fun q => hy (m - T 210 0 c) (by omega) (by omega) (by unfold ON7_; rw [km]; omega) (by omega))]
                  exact we1 y (fun j a b => hy j a (by omega))
                · have ke : m + 1 - T 210 0 c = (m - T 210 0 c) + 1 := by omega
                  have km : T 210 0 c + (m - T 210 0 c) = m := by omega
                  have z1 : T1 235 0 m = T 235 0 m := hf_10 235 0 m rfl
                  have z2 : T1 232 0 m = T 232 0 m := hf_10 232 0 m rfl
                  have z3 : T1 233 0 m = T 233 0 m := hf_10 233 0 m rfl
                  intro v a b
                  have on9 : ON7_ T c cl (m - T 210 0 c) := by unfold ON7_; rw [km]; omega
                  have ex9 : cz_ (T 232 0 m = cl) (T 233 0 m) (T 232 0 m) = T 232 0 m := by
                    first
                    | (rw [cz_t (by omega)]; done)
                    | (rw [cz_f (by omega)]; done)
                  rw [ke, ol7_s (by omega), km, ex9]
                  by_cases z : v = T 232 0 m
                  · rw [cz_t ⟨on9, z⟩, z, up_f hU58]
                    have y1 := po1 (T 232 0 m) (by omega) (by omega)
                    have y2 := ol7_b (T := T) (c := c) (b := cl) (v := T 232 0 m) hr3 (m - T 210 0 c).toNat
                    have y3 := hpb (T 232 0 m) (by omega) (by omega)
                    have y4 : U47 291 0 (T 232 0 m) = T1 291 0 (T 232 0 m) := up_k hU47 (by exact Nat.ne_of_beq_eq_false rfl) 0 (T 232 0 m)
                    rw [wr_9 (by omega)]
                    omega
                  · rw [cz_f (fun q => z q.2), up_g hU58 (fun q => z q.2.2), show U47 291 0 v = T1 291 0 v from up_k hU47 (by exact Nat.ne_of_beq_eq_false rfl) 0 v, po1 v a b]
                    omega
              · refine ix_i (by omega) ?_
                intro b60 b60b
                have e61 : U47 233 0 m = T 233 0 m := (up_k hU47 (by exact Nat.ne_of_beq_eq_false rfl) 0 m).trans (hf_10 233 0 m rfl)
                rw [e61] at b60 b60b ⊢
                refine hK 126 [some (vR 111 0), some (vI c), some (vI cl), some (vI mn), some (vI m), some (vI v), none] [vI (T 233 0 m), vR 291 0] U47 ?_
                refine j_blx (F := fX11) tb_X11 (nn_ _) bk_X11_canTry_e_126 bs_X11_canTry_e_126 hz (fun K hK => ?_)
                refine ix_i (by omega) ?_
                intro b62 b62b
                have e63 : U47 291 0 (T 233 0 m) = T1 291 0 (T 233 0 m) := up_k hU47 (by exact Nat.ne_of_beq_eq_false rfl) 0 (T 233 0 m)
                rw [e63] at b62 b62b ⊢
                refine hK 131 _ [vI 3, vI c, vR 111 0, vI (T1 291 0 (T 233 0 m)), vI (T 233 0 m), vR 291 0] U47 ?_
                refine j_callV (y := yX11_rule0) (Yc := zX11_rule0) (rest := [vI (T1 291 0 (T 233 0 m)), vI (T 233 0 m), vR 291 0]) [vI c, vI 3] (ct_X11_rule0 (T := U47) (by omega) (by omega)) cl_X11_321 (qd_c (by decide +kernel)) (nn_ _) rfl (rf_of rfl) (Nat.le_of_ble_eq_true rfl) (Nat.le_of_ble_eq_true rfl) (Nat.le_of_ble_eq_true rfl) rfl ?_
                rintro _ _ ⟨rfl, rfl⟩
                have e64 : U47 205 0 (23 * c + 3) = T 205 0 (23 * c + 3) := (up_k hU47 (by exact Nat.ne_of_beq_eq_false rfl) 0 (23 * c + 3)).trans (hf_10 205 0 (23 * c + 3) rfl)
                show J_ zX11_canTry T (po_X11_canTry_e T c cl) 0 0 134 _ [vI (U47 205 0 (23 * c + 3)), vI (T1 291 0 (T 233 0 m)), vI (T 233 0 m), vR 291 0] U47
                refine j_blx (F := fX11) tb_X11 (nn_ _) bk_X11_canTry_e_134 bs_X11_canTry_e_134 hz (fun K hK => ?_)
                intro w65 w65b
                refine iy_i (by omega) (by omega) ?_
                refine x_nm (fun U66 hU66 => ?_)
                have e67 := up_f hU66
                refine hK 159 _ [] U66 ?_
                refine j_blx (F := fX11) tb_X11 (nn_ _) bk_X11_canTry_e_159 bs_X11_canTry_e_159 hz (fun K hK => ?_)
                refine rg_i (by omega) ?_
                refine hK 10 [some (vR 111 0), some (vI c), some (vI cl), some (vI mn), some (vI (m + 1)), some (vI v), none] [] U66 ?_
                refine j_drq [some (vR 111 0), some (vI c), some (vI cl), some (vI mn), some (vI (m + 1)), none, none] (drq_s (drq_s (drq_s (drq_s (drq_s (drq_n (drq_n drq_0))))))) ?_
                refine ih_10 _ ?_ mn (m + 1) U66 (Nat.le_refl _) ?_ ?_ ?_ ?_ ?_ ?_ ?_
                · have hm_10 := hm_10 (); omega
                · exact fr_u (fr_u (fr_t (fr_0 _ _) (fr_s hf_10 rfl)) hU47 rfl) hU66 rfl
                · omega
                · have ke : m + 1 - T 210 0 c = (m - T 210 0 c) + 1 := by omega
                  have km : T 210 0 c + (m - T 210 0 c) = m := by omega
                  have z1 : T1 235 0 m = T 235 0 m := hf_10 235 0 m rfl
                  have z2 : T1 232 0 m = T 232 0 m := hf_10 232 0 m rfl
                  have z3 : T1 233 0 m = T 233 0 m := hf_10 233 0 m rfl
                  rw [ke, dl_f (by omega) (show ¬ OE7_ T c cl (m - T 210 0 c) by unfold OE7_; rw [km]; omega)]
                  exact mn1
                · have ke : m + 1 - T 210 0 c = (m - T 210 0 c) + 1 := by omega
                  have km : T 210 0 c + (m - T 210 0 c) = m := by omega
                  have z1 : T1 235 0 m = T 235 0 m := hf_10 235 0 m rfl
                  have z2 : T1 232 0 m = T 232 0 m := hf_10 232 0 m rfl
                  have z3 : T1 233 0 m = T 233 0 m := hf_10 233 0 m rfl
                  rw [ke, dl_f (by omega) (show ¬ OE7_ T c cl (m - T 210 0 c) by unfold OE7_; rw [km]; omega)]
                  exact fun j a b => ((up_k hU66 (by exact Nat.ne_of_beq_eq_false rfl) 0 j).trans (up_k hU47 (by exact Nat.ne_of_beq_eq_false rfl) 0 j)).trans (op1 j a b)
                · have ke : m + 1 - T 210 0 c = (m - T 210 0 c) + 1 := by omega
                  have km : T 210 0 c + (m - T 210 0 c) = m := by omega
                  have z1 : T1 235 0 m = T 235 0 m := hf_10 235 0 m rfl
                  have z2 : T1 232 0 m = T 232 0 m := hf_10 232 0 m rfl
                  have z3 : T1 233 0 m = T 233 0 m := hf_10 233 0 m rfl
                  intro j a b q
                  rw [show U66 289 0 (T 210 0 c + j) = U47 289 0 (T 210 0 c + j) from up_k hU66 (by exact Nat.ne_of_beq_eq_false rfl) 0 _]
                  by_cases z : j = (m - T 210 0 c)
                  · rw [z, km, up_f hU47]
                    first
                    | (rw [cz_t (by omega)]; done)
                    | (rw [cz_f (by omega)]; done)
                  · rw [up_g hU47 (fun y => z (by omega))]
                    exact ow1 j a (by omega) q
                · have ke : m + 1 - T 210 0 c = (m - T 210 0 c) + 1 := by omega
                  have km : T 210 0 c + (m - T 210 0 c) = m := by omega
                  have z1 : T1 235 0 m = T 235 0 m := hf_10 235 0 m rfl
                  have z2 : T1 232 0 m = T 232 0 m := hf_10 232 0 m rfl
                  have z3 : T1 233 0 m = T 233 0 m := hf_10 233 0 m rfl
                  intro y hy
                  rw [show U66 289 0 y = U47 289 0 y from up_k hU66 (by exact Nat.ne_of_beq_eq_false rfl) 0 y, up_g hU47 (fun q => hy (m - T 210 0 c) (by omega) (by omega) (by unfold ON7_; rw [km]; omega) (by omega))]
                  exact we1 y (fun j a b => hy j a (by omega))
                · have ke : m + 1 - T 210 0 c = (m - T 210 0 c) + 1 := by omega
                  have km : T 210 0 c + (m - T 210 0 c) = m := by omega
                  have z1 : T1 235 0 m = T 235 0 m := hf_10 235 0 m rfl
                  have z2 : T1 232 0 m = T 232 0 m := hf_10 232 0 m rfl
                  have z3 : T1 233 0 m = T 233 0 m := hf_10 233 0 m rfl
                  intro v a b
                  have on9 : ON7_ T c cl (m - T 210 0 c) := by unfold ON7_; rw [km]; omega
                  have ex9 : cz_ (T 232 0 m = cl) (T 233 0 m) (T 232 0 m) = T 233 0 m := by
                    first
                    | (rw [cz_t (by omega)]; done)
                    | (rw [cz_f (by omega)]; done)
                  rw [ke, ol7_s (by omega), km, ex9]
                  by_cases z : v = T 233 0 m
                  · rw [cz_t ⟨on9, z⟩, z, up_f hU66]
                    have y1 := po1 (T 233 0 m) (by omega) (by omega)
                    have y2 := ol7_b (T := T) (c := c) (b := cl) (v := T 233 0 m) hr3 (m - T 210 0 c).toNat
                    have y3 := hpb (T 233 0 m) (by omega) (by omega)
                    have y4 : U47 291 0 (T 233 0 m) = T1 291 0 (T 233 0 m) := up_k hU47 (by exact Nat.ne_of_beq_eq_false rfl) 0 (T 233 0 m)
                    rw [wr_9 (by omega)]
                    omega
                  · rw [cz_f (fun q => z q.2), up_g hU66 (fun q => z q.2.2), show U47 291 0 v = T1 291 0 v from up_k hU47 (by exact Nat.ne_of_beq_eq_false rfl) 0 v, po1 v a b]
                    omega
      refine j_blx (F := fX11) tb_X11 (nn_ _) bk_X11_canTry_e_10 bs_X11_canTry_e_10 hz (fun K hK => ?_)
      refine ix_i (by omega) ?_
      intro b68 b68b
      have e69 : T1 210 0 c = T 210 0 c := hf_10 210 0 c rfl
      rw [e69] at b68 b68b ⊢
      refine ix_i (by omega) ?_
      intro b70 b70b
      have e71 : T1 211 0 c = T 211 0 c := hf_10 211 0 c rfl
      rw [e71] at b70 b70b ⊢
      refine rg_i (by omega) ?_
      refine And.intro (fun c72 => ?_) (fun c72 => ?_)
      · refine hK 165 _ [] T1 ?_
        refine j_blx (F := fX11) tb_X11 (nn_ _) bk_X11_canTry_e_165 bs_X11_canTry_e_165 hz (fun K hK => ?_)
        refine And.intro (fun c73 => ?_) (fun c73 => ?_)
        · refine hK 173 _ [] T1 ?_
          refine j_blx (F := fX11) tb_X11 (nn_ _) bk_X11_canTry_e_173 bs_X11_canTry_e_173 hz (fun K hK => ?_)
          refine hK 179 [some (vR 111 0), some (vI c), some (vI cl), some (vI mn), some (vI 1), some (vI 0), none] [] T1 ?_
          refine c_179 _ mn 1 0 T1 (Nat.le_refl _) ?_ ?_ ?_ ?_ ?_ ?_ ?_ ?_
          · exact fr_t (fr_0 _ _) (fr_s hf_10 rfl)
          · omega
          · have ek : m - T 210 0 c = T 211 0 c := by omega
            rw [← ek]; exact mn1
          · rw [show Int.toNat 0 = 0 from rfl, Int.pow_zero]
          · have ek : m - T 210 0 c = T 211 0 c := by omega
            rw [← ek]; exact op1
          · exact fun j a b q => ow1 j a (by omega) q
          · exact fun y hy => we1 y (fun j a b q => hy j a (by omega) (Or.inl q))
          · have ek : m - T 210 0 c = T 211 0 c := by omega
            rw [← ek]; exact po1
        · refine (show po_X11_canTry_e T c cl T1 (some (vI 2)) from ?_)
          have ek : m - T 210 0 c = T 211 0 c := by omega
          have y9 : 8 < (dl9_ (OE7_ T c cl) (T 211 0 c).toNat).1 := by rw [← ek]; omega
          exact ⟨_, rfl, fr_t (fr_0 _ _) (fr_s hf_10 rfl), Or.inl ⟨rfl, y9⟩⟩
      · refine ix_i (by omega) ?_
        intro b74 b74b
        have e75 : T1 232 0 m = T 232 0 m := hf_10 232 0 m rfl
        rw [e75] at b74 b74b ⊢
        refine And.intro (fun c76 => ?_) (fun c76 => ?_)
        · refine hK 50 _ [] T1 ?_
          refine j_blx (F := fX11) tb_X11 (nn_ _) bk_X11_canTry_e_50 bs_X11_canTry_e_50 hz (fun K hK => ?_)
          refine hK 55 _ [vI 1] T1 ?_
          refine c_55 1 ?_ ?_
          · omega
          · exact Or.inl ⟨rfl, by omega⟩
        · refine ix_i (by omega) ?_
          intro b77 b77b
          have e78 : T1 233 0 m = T 233 0 m := hf_10 233 0 m rfl
          rw [e78] at b77 b77b ⊢
          refine And.intro (fun c79 => ?_) (fun c79 => ?_)
          · refine hK 54 _ [] T1 ?_
            refine j_blx (F := fX11) tb_X11 (nn_ _) bk_X11_canTry_e_54 bs_X11_canTry_e_54 hz (fun K hK => ?_)
            refine hK 55 _ [vI 0] T1 ?_
            refine c_55 0 ?_ ?_
            · omega
            · exact Or.inr ⟨rfl, by omega⟩
          · refine hK 55 _ [vI 1] T1 ?_
            refine c_55 1 ?_ ?_
            · omega
            · exact Or.inl ⟨rfl, by omega⟩
  refine j_blx (F := fX11) tb_X11 (nn_ _) bk_X11_canTry_e_0 bs_X11_canTry_e_0 hz (fun K hK => ?_)
  refine ix_i (by omega) ?_
  intro b80 b80b
  refine hK 10 [some (vR 111 0), some (vI c), some (vI cl), some (vI 0), some (vI (T 210 0 c)), none, none] [] T ?_
  refine c_10 _ 0 (T 210 0 c) T (Nat.le_refl _) ?_ ?_ ?_ ?_ ?_ ?_ ?_
  · exact fr_0 _ _
  · omega
  · rw [show (T 210 0 c - T 210 0 c).toNat = 0 by omega]
    rfl
  · intro j a b; omega
  · intro j a b; omega
  · exact fun y _ => rfl
  · intro v a b
    rw [show (T 210 0 c - T 210 0 c).toNat = 0 by omega]
    show _ = T 291 0 v + 0
    omega
-- who can be first: points and matches left, words for the reference
/-- points as the reference's table has them at the last day -/
noncomputable def pr7_ (T : Zt) (c x : Int) : Int := tn9_ (fun w => T 205 0 (23 * c + w)) (fun k => vR_ T 999 (T 210 0 c + k)) x 6 (T 211 0 c).toNat - dd9_ T c 999 x (T 111 0 24).toNat
/-- how many matches a club has left -/
noncomputable def lf7_ (T : Zt) (c v : Int) : Nat → Int
  | 0 => 0
  | n + 1 => lf7_ T c v n + cz_ (T 235 0 (T 210 0 c + (n : Int)) = 0 ∨ T 235 0 (T 210 0 c + (n : Int)) = 1) ((if v = T 232 0 (T 210 0 c + (n : Int)) then 1 else 0) + (if v = T 233 0 (T 210 0 c + (n : Int)) then 1 else 0)) 0
theorem lf7_s {T : Zt} {c v k : Int} (h : 0 ≤ k) : lf7_ T c v (k + 1).toNat = lf7_ T c v k.toNat + cz_ (T 235 0 (T 210 0 c + k) = 0 ∨ T 235 0 (T 210 0 c + k) = 1) ((if v = T 232 0 (T 210 0 c + k) then 1 else 0) + (if v = T 233 0 (T 210 0 c + k) then 1 else 0)) 0 := by
  rw [show (k + 1).toNat = k.toNat + 1 by omega]
  show _ + cz_ (T 235 0 (T 210 0 c + ((k.toNat : Nat) : Int)) = 0 ∨ T 235 0 (T 210 0 c + ((k.toNat : Nat) : Int)) = 1) ((if v = T 232 0 (T 210 0 c + ((k.toNat : Nat) : Int)) then 1 else 0) + (if v = T 233 0 (T 210 0 c + ((k.toNat : Nat) : Int)) then 1 else 0)) 0 = _
  rw [show ((k.toNat : Nat) : Int) = k by omega]
theorem gl7_u {K : Nat} {U U2 U3 : Zt} {a b f g v1 v2 : Int} (e1 : U2 = up_ U K 0 a v1) (e2 : U3 = up_ U2 K 0 b v2) (h1 : v1 = U K 0 a + f) (h2 : v2 = U2 K 0 b + g) : ∀ v, U3 K 0 v = U K 0 v + (if v = a then f else 0) + (if v = b then g else 0) := fun v => by
  have s1 : ∀ x, U2 K 0 x = U K 0 x + (if x = a then f else 0) := fun x => by
    by_cases z : x = a
    · rw [if_pos z, z, up_f e1, h1]
    · rw [if_neg z, up_g e1 (fun q => z q.2.2), Int.add_zero]
  by_cases z : v = b
  · rw [if_pos z, z, up_f e2, h2, s1]
  · rw [if_neg z, up_g e2 (fun q => z q.2.2), s1, Int.add_zero]
/-- what is put down stood there before -/
theorem up7_i {T U : Zt} {k : Nat} {i j v : Int} (e : U = up_ T k i j v) (h : T k i j = v) : U = T := by
  funext k' i' j'
  by_cases z : k' = k ∧ i' = i ∧ j' = j
  · rw [z.1, z.2.1, z.2.2, up_f e, h]
  · exact up_g e z
theorem bk_X11_countLeft_h_59 : ck_ fX11 none cX11_countLeft 59 [.iload 2, .aload 0, .tableswitch 0 11 10 #[], .iload 1, .iaload, .aload 0, .tableswitch 0 11 11 #[], .iload 1, .iaload, .iadd, .if_icmp .ge 136, .aload 0, .tableswitch 0 11 92 #[], .aload 0, .tableswitch 0 11 32 #[], .iload 2, .iaload, .dup2, .iaload, .aload 0, .iload 2] 90 = true := qck_r (nn_ _) (by decide +kernel)
theorem bs_X11_countLeft_h_59 {P : Zt → Option Zv → Prop} (K : Int → Zl → List Zv → Zt → Prop) : sx_ K P [.iload 2, .aload 0, .tableswitch 0 11 10 #[], .iload 1, .iaload, .aload 0, .tableswitch 0 11 11 #[], .iload 1, .iaload, .iadd, .if_icmp .ge 136, .aload 0, .tableswitch 0 11 92 #[], .aload 0, .tableswitch 0 11 32 #[], .iload 2, .iaload, .dup2, .iaload, .aload 0, .iload 2] 90 = x_iload 2 (x_aload 0 (x_g1 111 210 (x_iload 1 (x_iaload (x_aload 0 (x_g1 111 211 (x_iload 1 (x_iaload (x_iadd (x_if_icmp .ge 136 K (x_aload 0 (x_g1 111 292 (x_aload 0 (x_g1 111 232 (x_iload 2 (x_iaload (x_dup2 (x_iaload (x_aload 0 (x_iload 2 (K 90))))))))))))))))))))) := ((xe_iload 2).trans (congrArg (x_iload 2) ((xe_aload 0).trans (congrArg (x_aload 0) ((xe_g1 (kk := 111) rfl tl_11_10).trans (congrArg (x_g1 111 210) ((xe_iload 1).trans (congrArg (x_iload 1) ((xe_iaload).trans (congrArg (x_iaload) ((xe_aload 0).trans (congrArg (x_aload 0) ((xe_g1 (kk := 111) rfl tl_11_11).trans (congrArg (x_g1 111 211) ((xe_iload 1).trans (congrArg (x_iload 1) ((xe_iaload).trans (congrArg (x_iaload) ((xe_iadd).trans (congrArg (x_iadd) ((xe_if_icmp .ge 136).trans (congrArg (x_if_icmp .ge 136 K) ((xe_aload 0).trans (congrArg (x_aload 0) ((xe_g1 (kk := 111) rfl tl_11_92).trans (congrArg (x_g1 111 292) ((xe_aload 0).trans (congrArg (x_aload 0) ((xe_g1 (kk := 111) rfl tl_11_32).trans (congrArg (x_g1 111 232) ((xe_iload 2).trans (congrArg (x_iload 2) ((xe_iaload).trans (congrArg (x_iaload) ((xe_dup2).trans (congrArg (x_dup2) ((xe_iaload).trans (congrArg (x_iaload) ((xe_aload 0).trans (congrArg (x_aload 0) ((xe_iload 2).trans (congrArg (x_iload 2) xe_nil))))))))))))))))))))))))))))))))))))))))))
theorem bk_X11_countLeft_h_136 : ck_ fX11 none cX11_countLeft 136 [.return_] 137 = true := qck_r (nn_ _) (by decide +kernel)
theorem bs_X11_countLeft_h_136 {P : Zt → Option Zv → Prop} (K : Int → Zl → List Zv → Zt → Prop) : sx_ K P [.return_] 137 = x_return_ P := (xe_return_)
theorem bk_X11_countLeft_h_93 : ck_ fX11 none cX11_countLeft 93 [.ifCond .eq 100, .iconst 1, .goto 101] 100 = true := qck_r (nn_ _) (by decide +kernel)
theorem bs_X11_countLeft_h_93 {P : Zt → Option Zv → Prop} (K : Int → Zl → List Zv → Zt → Prop) : sx_ K P [.ifCond .eq 100, .iconst 1, .goto 101] 100 = x_ifCond .eq 100 K (x_iconst 1 (x_goto 101 K)) := ((xe_ifCond .eq 100).trans (congrArg (x_ifCond .eq 100 K) ((xe_iconst 1).trans (congrArg (x_iconst 1) (xe_goto 101)))))
theorem bk_X11_countLeft_h_100 : ck_ fX11 none cX11_countLeft 100 [.iconst 0, .iadd, .iastore, .aload 0, .tableswitch 0 11 92 #[], .aload 0, .tableswitch 0 11 33 #[], .iload 2, .iaload, .dup2, .iaload, .aload 0, .iload 2] 117 = true := qck_r (nn_ _) (by decide +kernel)
theorem bs_X11_countLeft_h_100 {P : Zt → Option Zv → Prop} (K : Int → Zl → List Zv → Zt → Prop) : sx_ K P [.iconst 0, .iadd, .iastore, .aload 0, .tableswitch 0 11 92 #[], .aload 0, .tableswitch 0 11 33 #[], .iload 2, .iaload, .dup2, .iaload, .aload 0, .iload 2] 117 = x_iconst 0 (x_iadd (x_iastore (x_aload 0 (x_g1 111 292 (x_aload 0 (x_g1 111 233 (x_iload 2 (x_iaload (x_dup2 (x_iaload (x_aload 0 (x_iload 2 (K 117))))))))))))) := ((xe_iconst 0).trans (congrArg (x_iconst 0) ((xe_iadd).trans (congrArg (x_iadd) ((xe_iastore).trans (congrArg (x_iastore) ((xe_aload 0).trans (congrArg (x_aload 0) ((xe_g1 (kk := 111) rfl tl_11_92).trans (congrArg (x_g1 111 292) ((xe_aload 0).trans (congrArg (x_aload 0) ((xe_g1 (kk := 111) rfl tl_11_33).trans (congrArg (x_g1 111 233) ((xe_iload 2).trans (congrArg (x_iload 2) ((xe_iaload).trans (congrArg (x_iaload) ((xe_dup2).trans (congrArg (x_dup2) ((xe_iaload).trans (congrArg (x_iaload) ((xe_aload 0).trans (congrArg (x_aload 0) ((xe_iload 2).trans (congrArg (x_iload 2) xe_nil))))))))))))))))))))))))))
theorem bk_X11_countLeft_h_120 : ck_ fX11 none cX11_countLeft 120 [.ifCond .eq 127, .iconst 1, .goto 128] 127 = true := qck_r (nn_ _) (by decide +kernel)
theorem bs_X11_countLeft_h_120 {P : Zt → Option Zv → Prop} (K : Int → Zl → List Zv → Zt → Prop) : sx_ K P [.ifCond .eq 127, .iconst 1, .goto 128] 127 = x_ifCond .eq 127 K (x_iconst 1 (x_goto 128 K)) := ((xe_ifCond .eq 127).trans (congrArg (x_ifCond .eq 127 K) ((xe_iconst 1).trans (congrArg (x_iconst 1) (xe_goto 128)))))
theorem bk_X11_countLeft_h_127 : ck_ fX11 none cX11_countLeft 127 [.iconst 0, .iadd, .iastore, .iinc 2 1, .goto 59] 136 = true := qck_r (nn_ _) (by decide +kernel)
theorem bs_X11_countLeft_h_127 {P : Zt → Option Zv → Prop} (K : Int → Zl → List Zv → Zt → Prop) : sx_ K P [.iconst 0, .iadd, .iastore, .iinc 2 1, .goto 59] 136 = x_iconst 0 (x_iadd (x_iastore (x_iinc 2 1 (x_goto 59 K)))) := ((xe_iconst 0).trans (congrArg (x_iconst 0) ((xe_iadd).trans (congrArg (x_iadd) ((xe_iastore).trans (congrArg (x_iastore) ((xe_iinc 2 1).trans (congrArg (x_iinc 2 1) (xe_goto 59)))))))))
theorem bk_X11_countLeft_h_128 : ck_ fX11 none cX11_countLeft 128 [.iadd, .iastore, .iinc 2 1, .goto 59] 136 = true := qck_r (nn_ _) (by decide +kernel)
theorem bs_X11_countLeft_h_128 {P : Zt → Option Zv → Prop} (K : Int → Zl → List Zv → Zt → Prop) : sx_ K P [.iadd, .iastore, .iinc 2 1, .goto 59] 136 = x_iadd (x_iastore (x_iinc 2 1 (x_goto 59 K))) := ((xe_iadd).trans (congrArg (x_iadd) ((xe_iastore).trans (congrArg (x_iastore) ((xe_iinc 2 1).trans (congrArg (x_iinc 2 1) (xe_goto 59)))))))
theorem bk_X11_countLeft_h_101 : ck_ fX11 none cX11_countLeft 101 [.iadd, .iastore, .aload 0, .tableswitch 0 11 92 #[], .aload 0, .tableswitch 0 11 33 #[], .iload 2, .iaload, .dup2, .iaload, .aload 0, .iload 2] 117 = true := qck_r (nn_ _) (by decide +kernel)
theorem bs_X11_countLeft_h_101 {P : Zt → Option Zv → Prop} (K : Int → Zl → List Zv → Zt → Prop) : sx_ K P [.iadd, .iastore, .aload 0, .tableswitch 0 11 92 #[], .aload 0, .tableswitch 0 11 33 #[], .iload 2, .iaload, .dup2, .iaload, .aload 0, .iload 2] 117 = x_iadd (x_iastore (x_aload 0 (x_g1 111 292 (x_aload 0 (x_g1 111 233 (x_iload 2 (x_iaload (x_dup2 (x_iaload (x_aload 0 (x_iload 2 (K 117)))))))))))) := ((xe_iadd).trans (congrArg (x_iadd) ((xe_iastore).trans (congrArg (x_iastore) ((xe_aload 0).trans (congrArg (x_aload 0) ((xe_g1 (kk := 111) rfl tl_11_92).trans (congrArg (x_g1 111 292) ((xe_aload 0).trans (congrArg (x_aload 0) ((xe_g1 (kk := 111) rfl tl_11_33).trans (congrArg (x_g1 111 233) ((xe_iload 2).trans (congrArg (x_iload 2) ((xe_iaload).trans (congrArg (x_iaload) ((xe_dup2).trans (congrArg (x_dup2) ((xe_iaload).trans (congrArg (x_iaload) ((xe_aload 0).trans (congrArg (x_aload 0) ((xe_iload 2).trans (congrArg (x_iload 2) xe_nil))))))))))))))))))))))))
theorem bk_X11_countLeft_h_15 : ck_ fX11 none cX11_countLeft 15 [.iload 2, .iconst 12, .if_icmp .ge 52, .aload 0, .tableswitch 0 11 91 #[], .iload 2, .aload 0, .tableswitch 0 11 76 #[], .iconst 9, .iload 2, .imul, .iconst 6, .iadd, .iaload, .iastore, .aload 0, .tableswitch 0 11 92 #[], .iload 2, .iconst 0, .iastore, .iinc 2 1, .goto 15] 52 = true := qck_r (nn_ _) (by decide +kernel)
theorem bs_X11_countLeft_h_15 {P : Zt → Option Zv → Prop} (K : Int → Zl → List Zv → Zt → Prop) : sx_ K P [.iload 2, .iconst 12, .if_icmp .ge 52, .aload 0, .tableswitch 0 11 91 #[], .iload 2, .aload 0, .tableswitch 0 11 76 #[], .iconst 9, .iload 2, .imul, .iconst 6, .iadd, .iaload, .iastore, .aload 0, .tableswitch 0 11 92 #[], .iload 2, .iconst 0, .iastore, .iinc 2 1, .goto 15] 52 = x_iload 2 (x_iconst 12 (x_if_icmp .ge 52 K (x_aload 0 (x_g1 111 291 (x_iload 2 (x_aload 0 (x_g1 111 276 (x_iconst 9 (x_iload 2 (x_imul (x_iconst 6 (x_iadd (x_iaload (x_iastore (x_aload 0 (x_g1 111 292 (x_iload 2 (x_iconst 0 (x_iastore (x_iinc 2 1 (x_goto 15 K))))))))))))))))))))) := ((xe_iload 2).trans (congrArg (x_iload 2) ((xe_iconst 12).trans (congrArg (x_iconst 12) ((xe_if_icmp .ge 52).trans (congrArg (x_if_icmp .ge 52 K) ((xe_aload 0).trans (congrArg (x_aload 0) ((xe_g1 (kk := 111) rfl tl_11_91).trans (congrArg (x_g1 111 291) ((xe_iload 2).trans (congrArg (x_iload 2) ((xe_aload 0).trans (congrArg (x_aload 0) ((xe_g1 (kk := 111) rfl tl_11_76).trans (congrArg (x_g1 111 276) ((xe_iconst 9).trans (congrArg (x_iconst 9) ((xe_iload 2).trans (congrArg (x_iload 2) ((xe_imul).trans (congrArg (x_imul) ((xe_iconst 6).trans (congrArg (x_iconst 6) ((xe_iadd).trans (congrArg (x_iadd) ((xe_iaload).trans (congrArg (x_iaload) ((xe_iastore).trans (congrArg (x_iastore) ((xe_aload 0).trans (congrArg (x_aload 0) ((xe_g1 (kk := 111) rfl tl_11_92).trans (congrArg (x_g1 111 292) ((xe_iload 2).trans (congrArg (x_iload 2) ((xe_iconst 0).trans (congrArg (x_iconst 0) ((xe_iastore).trans (congrArg (x_iastore) ((xe_iinc 2 1).trans (congrArg (x_iinc 2 1) (xe_goto 15)))))))))))))))))))))))))))))))))))))))))))
theorem bk_X11_countLeft_h_52 : ck_ fX11 none cX11_countLeft 52 [.aload 0, .tableswitch 0 11 10 #[], .iload 1, .iaload, .istore 2] 59 = true := qck_r (nn_ _) (by decide +kernel)
theorem bs_X11_countLeft_h_52 {P : Zt → Option Zv → Prop} (K : Int → Zl → List Zv → Zt → Prop) : sx_ K P [.aload 0, .tableswitch 0 11 10 #[], .iload 1, .iaload, .istore 2] 59 = x_aload 0 (x_g1 111 210 (x_iload 1 (x_iaload (x_istore 2 (K 59))))) := ((xe_aload 0).trans (congrArg (x_aload 0) ((xe_g1 (kk := 111) rfl tl_11_10).trans (congrArg (x_g1 111 210) ((xe_iload 1).trans (congrArg (x_iload 1) ((xe_iaload).trans (congrArg (x_iaload) ((xe_istore 2).trans (congrArg (x_istore 2) xe_nil))))))))))
theorem bk_X11_countLeft_h_0 : ck_ fX11 none cX11_countLeft 0 [.aload 0, .iconst 0, .tableswitch 1 11 80 #[], .aload 0, .iload 1, .iconst 999] 10 = true := qck_r (nn_ _) (by decide +kernel)
theorem bs_X11_countLeft_h_0 {P : Zt → Option Zv → Prop} (K : Int → Zl → List Zv → Zt → Prop) : sx_ K P [.aload 0, .iconst 0, .tableswitch 1 11 80 #[], .aload 0, .iload 1, .iconst 999] 10 = x_aload 0 (x_iconst 0 (x_p 111 80 0 1 (x_aload 0 (x_iload 1 (x_iconst 999 (K 10)))))) := ((xe_aload 0).trans (congrArg (x_aload 0) ((xe_iconst 0).trans (congrArg (x_iconst 0) ((xe_p (kk := 111) rfl tl_11_80).trans (congrArg (x_p 111 80 0 1) ((xe_aload 0).trans (congrArg (x_aload 0) ((xe_iload 1).trans (congrArg (x_iload 1) ((xe_iconst 999).trans (congrArg (x_iconst 999) xe_nil))))))))))))
theorem bk_X11_countLeft_h_13 : ck_ fX11 none cX11_countLeft 13 [.iconst 0, .istore 2] 15 = true := qck_r (nn_ _) (by decide +kernel)
theorem bs_X11_countLeft_h_13 {P : Zt → Option Zv → Prop} (K : Int → Zl → List Zv → Zt → Prop) : sx_ K P [.iconst 0, .istore 2] 15 = x_iconst 0 (x_istore 2 (K 15)) := ((xe_iconst 0).trans (congrArg (x_iconst 0) ((xe_istore 2).trans (congrArg (x_istore 2) xe_nil))))
abbrev po_X11_countLeft_h (T : Zt) (c : Int) : Zt → Option Zv → Prop := fun T' r => r = none ∧ fr_ [(276, []), (291, []), (292, []), (111, [80, 82, 83])] T T' ∧ ((∀ v, 0 ≤ v → v < 12 → T' 291 0 v = pr7_ T c v) ∧ (∀ v, 0 ≤ v → v < 12 → T' 292 0 v = lf7_ T c v (T 211 0 c).toNat) ∧ LB_ T' 1000 ∧ PB6_ T' ∧ T' 111 0 80 = 0)
set_option maxHeartbeats 4000000 in
theorem ct_X11_countLeft_h {T : Zt} {c : Int} (h1 : 0 ≤ c ∧ c < 4) (hml : ML_ T) (hsc : SC_ T) (hyb : YB_ T) (hsu : T 111 0 80 = 0) : Ct_ yX11_countLeft zX11_countLeft T [vR 111 0, vI c] (po_X11_countLeft_h T c) := by
  refine ct_of pn_11 rfl rfl (Nat.le_of_ble_eq_true rfl) (fun hT hav => ?_)
  have hr_c : -2147483648 ≤ c ∧ c ≤ 2147483647 := hav (vI c) (List.mem_cons_of_mem _ List.mem_cons_self)
  have hz : zX11_countLeft.2.2.2.1 = some .boolean → ∀ (T' : Zt) (x : Int), po_X11_countLeft_h T c T' (some (vI x)) → 0 ≤ x ∧ x ≤ 1 := fun h => by cases h
  have hmc := hml c (by omega) (by omega)
  have hb_29 : 0 ≤ T 111 0 29 ∧ T 111 0 29 ≤ 400 := bd_f hT 111 29 tl_11_29 0
  have hfo : 0 ≤ T 210 0 c ∧ T 210 0 c ≤ 400 := bd_a hT 210 (by decide +kernel : ta_ 210 = some (1, some 4, 0, 400)) 0 (by omega)
  have hmo : 0 ≤ T 211 0 c ∧ T 211 0 c ≤ 400 := bd_a hT 211 (by decide +kernel : ta_ 211 = some (1, some 4, 0, 400)) 0 (by omega)
  show J_ zX11_countLeft T (po_X11_countLeft_h T c) 0 0 0 [some (vR 111 0), some (vI c), none] [] T
  have c_59 : ∀ (nn : Nat) (m : Int) (T2 : Zt), ((400 - m).toNat) ≤ nn → (fr_ [(276, []), (291, []), (292, []), (111, [80, 82, 83])] T T2) → (T 210 0 c ≤ m ∧ m ≤ T 210 0 c + T 211 0 c) → (PB6_ T2) → (LB_ T2 (2 * (m - T 210 0 c))) → (∀ v, 0 ≤ v → v < 12 → T2 291 0 v = pr7_ T c v) → (∀ v, 0 ≤ v → v < 12 → T2 292 0 v = lf7_ T c v (m - T 210 0 c).toNat) → (T2 111 0 80 = 0) → J_ zX11_countLeft T (po_X11_countLeft_h T c) 0 0 59 [some (vR 111 0), some (vI c), some (vI m)] [] T2 := by
    intro nn
    induction nn using Nat.strongRecOn with
    | _ nn ih_59 =>
      intro m T2 hm_59 hf_59 i2 pb2 lb2 po2 lo2 su2
      replace hm_59 := fun (_ : Unit) => hm_59
      refine j_blx (F := fX11) tb_X11 (nn_ _) bk_X11_countLeft_h_59 bs_X11_countLeft_h_59 hz (fun K hK => ?_)
      refine ix_i (by omega) ?_
      intro b1 b1b
      have e2 : T2 210 0 c = T 210 0 c := hf_59 210 0 c rfl
      rw [e2] at b1 b1b ⊢
      refine ix_i (by omega) ?_
      intro b3 b3b
      have e4 : T2 211 0 c = T 211 0 c := hf_59 211 0 c rfl
      rw [e4] at b3 b3b ⊢
      refine rg_i (by omega) ?_
      refine And.intro (fun c5 => ?_) (fun c5 => ?_)
      · refine hK 136 _ [] T2 ?_
        refine j_blx (F := fX11) tb_X11 (nn_ _) bk_X11_countLeft_h_136 bs_X11_countLeft_h_136 hz (fun K hK => ?_)
        refine (show po_X11_countLeft_h T c T2 (none) from ?_)
        have ek : m - T 210 0 c = T 211 0 c := by omega
        rw [ek] at lo2
        exact ⟨rfl, fr_t (fr_0 _ _) (fr_s hf_59 rfl), po2, lo2, lb_m lb2 (by omega), pb2, su2⟩
      · refine ix_i (by omega) ?_
        intro b6 b6b
        have e7 : T2 232 0 m = T 232 0 m := hf_59 232 0 m rfl
        rw [e7] at b6 b6b ⊢
        refine ix_i (by omega) ?_
        intro b8 b8b
        have t9 : 0 ≤ T2 292 0 (T 232 0 m) ∧ T2 292 0 (T 232 0 m) ≤ 2 * (m - T 210 0 c) := (lb2) (T 232 0 m) (by omega) (by omega)
        refine hK 90 _ [vI m, vR 111 0, vI (T2 292 0 (T 232 0 m)), vI (T 232 0 m), vR 292 0] T2 ?_
        refine j_callV (y := yX11_isLeft) (Yc := zX11_isLeft) (rest := [vI (T2 292 0 (T 232 0 m)), vI (T 232 0 m), vR 292 0]) [vI m] (ct_X11_isLeft (T := T2) (by omega)) cl_X11_538 (qd_c (by decide +kernel)) (nn_ _) rfl (rf_of rfl) (Nat.le_of_ble_eq_true rfl) (Nat.le_of_ble_eq_true rfl) (Nat.le_of_ble_eq_true rfl) rfl ?_
        rintro _ _ ⟨rfl, x10, rfl, hx10⟩
        have e11 : T2 235 0 m = T 235 0 m := hf_59 235 0 m rfl
        show J_ zX11_countLeft T (po_X11_countLeft_h T c) 0 0 93 _ [vI x10, vI (T2 292 0 (T 232 0 m)), vI (T 232 0 m), vR 292 0] T2
        refine j_blx (F := fX11) tb_X11 (nn_ _) bk_X11_countLeft_h_93 bs_X11_countLeft_h_93 hz (fun K hK => ?_)
        refine And.intro (fun c12 => ?_) (fun c12 => ?_)
        · replace hx10 := hx10.resolve_left (fun z => absurd (c12.symm.trans z.1) (by decide))
          clear c12
          refine hK 100 _ [vI (T2 292 0 (T 232 0 m)), vI (T 232 0 m), vR 292 0] T2 ?_
          refine j_blx (F := fX11) tb_X11 (nn_ _) bk_X11_countLeft_h_100 bs_X11_countLeft_h_100 hz (fun K hK => ?_)
          refine rg_i (by omega) ?_
          refine iy_i (by omega) (by omega) ?_
          refine x_nm (fun U13 hU13 => ?_)
          have e14 := up_f hU13
          refine ix_i (by omega) ?_
          intro b15 b15b
          have e16 : U13 233 0 m = T 233 0 m := (up_k hU13 (by exact Nat.ne_of_beq_eq_false rfl) 0 m).trans (hf_59 233 0 m rfl)
          rw [e16] at b15 b15b ⊢
          refine ix_i (by omega) ?_
          intro b17 b17b
          have t18 : 0 ≤ U13 292 0 (T 233 0 m) ∧ U13 292 0 (T 233 0 m) ≤ 2 * (m - T 210 0 c) + 1 := (lb_u (lb2) hU13 (by omega)) (T 233 0 m) (by omega) (by omega)
          refine hK 117 _ [vI m, vR 111 0, vI (U13 292 0 (T 233 0 m)), vI (T 233 0 m), vR 292 0] U13 ?_
          refine j_callV (y := yX11_isLeft) (Yc := zX11_isLeft) (rest := [vI (U13 292 0 (T 233 0 m)), vI (T 233 0 m), vR 292 0]) [vI m] (ct_X11_isLeft (T := U13) (by omega)) cl_X11_538 (qd_c (by decide +kernel)) (nn_ _) rfl (rf_of rfl) (Nat.le_of_ble_eq_true rfl) (Nat.le_of_ble_eq_true rfl) (Nat.le_of_ble_eq_true rfl) rfl ?_
          rintro _ _ ⟨rfl, x19, rfl, hx19⟩
          have e20 : U13 235 0 m = T 235 0 m := (up_k hU13 (by exact Nat.ne_of_beq_eq_false rfl) 0 m).trans (hf_59 235 0 m rfl)
          show J_ zX11_countLeft T (po_X11_countLeft_h T c) 0 0 120 _ [vI x19, vI (U13 292 0 (T 233 0 m)), vI (T 233 0 m), vR 292 0] U13
          refine j_blx (F := fX11) tb_X11 (nn_ _) bk_X11_countLeft_h_120 bs_X11_countLeft_h_120 hz (fun K hK => ?_)
          refine And.intro (fun c21 => ?_) (fun c21 => ?_)
          · replace hx19 := hx19.resolve_left (fun z => absurd (c21.symm.trans z.1) (by decide))
            clear c21
            refine hK 127 _ [vI (U13 292 0 (T 233 0 m)), vI (T 233 0 m), vR 292 0] U13 ?_
            refine j_blx (F := fX11) tb_X11 (nn_ _) bk_X11_countLeft_h_127 bs_X11_countLeft_h_127 hz (fun K hK => ?_)
            refine rg_i (by omega) ?_
            refine iy_i (by omega) (by omega) ?_
            refine x_nm (fun U22 hU22 => ?_)
            have e23 := up_f hU22
            refine rg_i (by omega) ?_
            refine hK 59 [some (vR 111 0), some (vI c), some (vI (m + 1))] [] U22 ?_
            have e24 : U22 111 0 80 = T2 111 0 80 := (up_k hU22 (by exact Nat.ne_of_beq_eq_false rfl) 0 80).trans (up_k hU13 (by exact Nat.ne_of_beq_eq_false rfl) 0 80)
            refine ih_59 _ ?_ (m + 1) U22 (Nat.le_refl _) ?_ ?_ ?_ ?_ ?_ ?_ ?_
            · have hm_59 := hm_59 (); omega
            · exact fr_u (fr_u (fr_t (fr_0 _ _) (fr_s hf_59 rfl)) hU13 rfl) hU22 rfl
            · omega
            · exact PB6__f (ws := [(292, [])]) pb2 (fr_u (fr_u (fr_0 _ _) hU13 rfl) hU22 rfl) ⟨fun _ => rfl, trivial⟩
            · exact lb_m (lb_u (lb_u (lb2) hU13 (by omega)) hU22 (by omega)) (by omega)
            · exact fun v a b => ((up_k hU22 (by exact Nat.ne_of_beq_eq_false rfl) 0 v).trans (up_k hU13 (by exact Nat.ne_of_beq_eq_false rfl) 0 v)).trans (po2 v a b)
            · have ke : m + 1 - T 210 0 c = (m - T 210 0 c) + 1 := by omega
              have km : T 210 0 c + (m - T 210 0 c) = m := by omega
              intro v a b
              have ga := gl7_u (f := 0) (g := 0) hU13 hU22 rfl rfl v
              rw [ga, ke, lf7_s (by omega), km, lo2 v a b]
              rw [cz_f (by omega)]
              have z1 : (if v = T 232 0 m then (0 : Int) else 0) = 0 := by
                by_cases z : v = T 232 0 m
                · rw [if_pos z]
                · rw [if_neg z]
              have z2 : (if v = T 233 0 m then (0 : Int) else 0) = 0 := by
                by_cases z : v = T 233 0 m
                · rw [if_pos z]
                · rw [if_neg z]
              omega
            · exact ((up_k hU22 (by exact Nat.ne_of_beq_eq_false rfl) 0 80).trans (up_k hU13 (by exact Nat.ne_of_beq_eq_false rfl) 0 80)).trans su2
          · replace hx19 := hx19.resolve_right (fun z => c21 z.1)
            clear c21
            refine hK 128 [some (vR 111 0), some (vI c), some (vI m)] [vI 1, vI (U13 292 0 (T 233 0 m)), vI (T 233 0 m), vR 292 0] U13 ?_
            refine j_blx (F := fX11) tb_X11 (nn_ _) bk_X11_countLeft_h_128 bs_X11_countLeft_h_128 hz (fun K hK => ?_)
            refine rg_i (by omega) ?_
            refine iy_i (by omega) (by omega) ?_
            refine x_nm (fun U25 hU25 => ?_)
            have e26 := up_f hU25
            refine rg_i (by omega) ?_
            refine hK 59 [some (vR 111 0), some (vI c), some (vI (m + 1))] [] U25 ?_
            have e27 : U25 111 0 80 = T2 111 0 80 := (up_k hU25 (by exact Nat.ne_of_beq_eq_false rfl) 0 80).trans (up_k hU13 (by exact Nat.ne_of_beq_eq_false rfl) 0 80)
            refine ih_59 _ ?_ (m + 1) U25 (Nat.le_refl _) ?_ ?_ ?_ ?_ ?_ ?_ ?_
            · have hm_59 := hm_59 (); omega
            · exact fr_u (fr_u (fr_t (fr_0 _ _) (fr_s hf_59 rfl)) hU13 rfl) hU25 rfl
            · omega
            · exact PB6__f (ws := [(292, [])]) pb2 (fr_u (fr_u (fr_0 _ _) hU13 rfl) hU25 rfl) ⟨fun _ => rfl, trivial⟩
            · exact lb_m (lb_u (lb_u (lb2) hU13 (by omega)) hU25 (by omega)) (by omega)
            · exact fun v a b => ((up_k hU25 (by exact Nat.ne_of_beq_eq_false rfl) 0 v).trans (up_k hU13 (by exact Nat.ne_of_beq_eq_false rfl) 0 v)).trans (po2 v a b)
            · have ke : m + 1 - T 210 0 c = (m - T 210 0 c) + 1 := by omega
              have km : T 210 0 c + (m - T 210 0 c) = m := by omega
              intro v a b
              have ga := gl7_u (f := 0) (g := 1) hU13 hU25 rfl rfl v
              rw [ga, ke, lf7_s (by omega), km, lo2 v a b]
              exfalso; omega
            · exact ((up_k hU25 (by exact Nat.ne_of_beq_eq_false rfl) 0 80).trans (up_k hU13 (by exact Nat.ne_of_beq_eq_false rfl) 0 80)).trans su2
        · replace hx10 := hx10.resolve_right (fun z => c12 z.1)
          clear c12
          refine hK 101 _ [vI 1, vI (T2 292 0 (T 232 0 m)), vI (T 232 0 m), vR 292 0] T2 ?_
          refine j_blx (F := fX11) tb_X11 (nn_ _) bk_X11_countLeft_h_101 bs_X11_countLeft_h_101 hz (fun K hK => ?_)
          refine rg_i (by omega) ?_
          refine iy_i (by omega) (by omega) ?_
          refine x_nm (fun U28 hU28 => ?_)
          have e29 := up_f hU28
          refine ix_i (by omega) ?_
          intro b30 b30b
          have e31 : U28 233 0 m = T 233 0 m := (up_k hU28 (by exact Nat.ne_of_beq_eq_false rfl) 0 m).trans (hf_59 233 0 m rfl)
          rw [e31] at b30 b30b ⊢
          refine ix_i (by omega) ?_
          intro b32 b32b
          have t33 : 0 ≤ U28 292 0 (T 233 0 m) ∧ U28 292 0 (T 233 0 m) ≤ 2 * (m - T 210 0 c) + 1 := (lb_u (lb2) hU28 (by omega)) (T 233 0 m) (by omega) (by omega)
          refine hK 117 _ [vI m, vR 111 0, vI (U28 292 0 (T 233 0 m)), vI (T 233 0 m), vR 292 0] U28 ?_
          refine j_callV (y := yX11_isLeft) (Yc := zX11_isLeft) (rest := [vI (U28 292 0 (T 233 0 m)), vI (T 233 0 m), vR 292 0]) [vI m] (ct_X11_isLeft (T := U28) (by omega)) cl_X11_538 (qd_c (by decide +kernel)) (nn_ _) rfl (rf_of rfl) (Nat.le_of_ble_eq_true rfl) (Nat.le_of_ble_eq_true rfl) (Nat.le_of_ble_eq_true rfl) rfl ?_
          rintro _ _ ⟨rfl, x34, rfl, hx34⟩
          have e35 : U28 235 0 m = T 235 0 m := (up_k hU28 (by exact Nat.ne_of_beq_eq_false rfl) 0 m).trans (hf_59 235 0 m rfl)
          show J_ zX11_countLeft T (po_X11_countLeft_h T c) 0 0 120 _ [vI x34, vI (U28 292 0 (T 233 0 m)), vI (T 233 0 m), vR 292 0] U28
          refine j_blx (F := fX11) tb_X11 (nn_ _) bk_X11_countLeft_h_120 bs_X11_countLeft_h_120 hz (fun K hK => ?_)
          refine And.intro (fun c36 => ?_) (fun c36 => ?_)
          · replace hx34 := hx34.resolve_left (fun z => absurd (c36.symm.trans z.1) (by decide))
            clear c36
            refine hK 127 _ [vI (U28 292 0 (T 233 0 m)), vI (T 233 0 m), vR 292 0] U28 ?_
            refine j_blx (F := fX11) tb_X11 (nn_ _) bk_X11_countLeft_h_127 bs_X11_countLeft_h_127 hz (fun K hK => ?_)
            refine rg_i (by omega) ?_
            refine iy_i (by omega) (by omega) ?_
            refine x_nm (fun U37 hU37 => ?_)
            have e38 := up_f hU37
            refine rg_i (by omega) ?_
            refine hK 59 [some (vR 111 0), some (vI c), some (vI (m + 1))] [] U37 ?_
            have e39 : U37 111 0 80 = T2 111 0 80 := (up_k hU37 (by exact Nat.ne_of_beq_eq_false rfl) 0 80).trans (up_k hU28 (by exact Nat.ne_of_beq_eq_false rfl) 0 80)
            refine ih_59 _ ?_ (m + 1) U37 (Nat.le_refl _) ?_ ?_ ?_ ?_ ?_ ?_ ?_
            · have hm_59 := hm_59 (); omega
            · exact fr_u (fr_u (fr_t (fr_0 _ _) (fr_s hf_59 rfl)) hU28 rfl) hU37 rfl
            · omega
            · exact PB6__f (ws := [(292, [])]) pb2 (fr_u (fr_u (fr_0 _ _) hU28 rfl) hU37 rfl) ⟨fun _ => rfl, trivial⟩
            · exact lb_m (lb_u (lb_u (lb2) hU28 (by omega)) hU37 (by omega)) (by omega)
            · exact fun v a b => ((up_k hU37 (by exact Nat.ne_of_beq_eq_false rfl) 0 v).trans (up_k hU28 (by exact Nat.ne_of_beq_eq_false rfl) 0 v)).trans (po2 v a b)
            · have ke : m + 1 - T 210 0 c = (m - T 210 0 c) + 1 := by omega
              have km : T 210 0 c + (m - T 210 0 c) = m := by omega
              intro v a b
              have ga := gl7_u (f := 1) (g := 0) hU28 hU37 rfl rfl v
              rw [ga, ke, lf7_s (by omega), km, lo2 v a b]
              exfalso; omega
            · exact ((up_k hU37 (by exact Nat.ne_of_beq_eq_false rfl) 0 80).trans (up_k hU28 (by exact Nat.ne_of_beq_eq_false rfl) 0 80)).trans su2
          · replace hx34 := hx34.resolve_right (fun z => c36 z.1)
            clear c36
            refine hK 128 [some (vR 111 0), some (vI c), some (vI m)] [vI 1, vI (U28 292 0 (T 233 0 m)), vI (T 233 0 m), vR 292 0] U28 ?_
            refine j_blx (F := fX11) tb_X11 (nn_ _) bk_X11_countLeft_h_128 bs_X11_countLeft_h_128 hz (fun K hK => ?_)
            refine rg_i (by omega) ?_
            refine iy_i (by omega) (by omega) ?_
            refine x_nm (fun U40 hU40 => ?_)
            have e41 := up_f hU40
            refine rg_i (by omega) ?_
            refine hK 59 [some (vR 111 0), some (vI c), some (vI (m + 1))] [] U40 ?_
            have e42 : U40 111 0 80 = T2 111 0 80 := (up_k hU40 (by exact Nat.ne_of_beq_eq_false rfl) 0 80).trans (up_k hU28 (by exact Nat.ne_of_beq_eq_false rfl) 0 80)
            refine ih_59 _ ?_ (m + 1) U40 (Nat.le_refl _) ?_ ?_ ?_ ?_ ?_ ?_ ?_
            · have hm_59 := hm_59 (); omega
            · exact fr_u (fr_u (fr_t (fr_0 _ _) (fr_s hf_59 rfl)) hU28 rfl) hU40 rfl
            · omega
            · exact PB6__f (ws := [(292, [])]) pb2 (fr_u (fr_u (fr_0 _ _) hU28 rfl) hU40 rfl) ⟨fun _ => rfl, trivial⟩
            · exact lb_m (lb_u (lb_u (lb2) hU28 (by omega)) hU40 (by omega)) (by omega)
            · exact fun v a b => ((up_k hU40 (by exact Nat.ne_of_beq_eq_false rfl) 0 v).trans (up_k hU28 (by exact Nat.ne_of_beq_eq_false rfl) 0 v)).trans (po2 v a b)
            · have ke : m + 1 - T 210 0 c = (m - T 210 0 c) + 1 := by omega
              have km : T 210 0 c + (m - T 210 0 c) = m := by omega
              intro v a b
              have ga := gl7_u (f := 1) (g := 1) hU28 hU40 rfl rfl v
              rw [ga, ke, lf7_s (by omega), km, lo2 v a b]
              rw [cz_t (by omega)]
              omega
            · exact ((up_k hU40 (by exact Nat.ne_of_beq_eq_false rfl) 0 80).trans (up_k hU28 (by exact Nat.ne_of_beq_eq_false rfl) 0 80)).trans su2
  have c_15 : ∀ (nn : Nat) (i : Int) (T1 : Zt), ((12 - i).toNat) ≤ nn → (fr_ [(276, []), (291, []), (292, []), (111, [80, 82, 83])] T T1) → (0 ≤ i ∧ i ≤ 12) → (TB_ T1 150000000) → (∀ x, 0 ≤ x → x < 12 → T1 276 0 (9 * x + 6) = pr7_ T c x) → (∀ k, 0 ≤ k → k < i → T1 291 0 k = pr7_ T c k) → (∀ k, 0 ≤ k → k < i → T1 292 0 k = 0) → (∀ k, 0 ≤ k → k < i → -7500000 ≤ T1 291 0 k ∧ T1 291 0 k ≤ 7500000) → (T1 111 0 80 = 0) → J_ zX11_countLeft T (po_X11_countLeft_h T c) 0 0 15 [some (vR 111 0), some (vI c), some (vI i)] [] T1 := by
    intro nn
    induction nn using Nat.strongRecOn with
    | _ nn ih_15 =>
      intro i T1 hm_15 hf_15 i1 tb1 t1 p1 l1 pb1 su1
      replace hm_15 := fun (_ : Unit) => hm_15
      refine j_blx (F := fX11) tb_X11 (nn_ _) bk_X11_countLeft_h_15 bs_X11_countLeft_h_15 hz (fun K hK => ?_)
      refine And.intro (fun c43 => ?_) (fun c43 => ?_)
      · refine hK 52 _ [] T1 ?_
        refine j_blx (F := fX11) tb_X11 (nn_ _) bk_X11_countLeft_h_52 bs_X11_countLeft_h_52 hz (fun K hK => ?_)
        refine ix_i (by omega) ?_
        intro b44 b44b
        have e45 : T1 210 0 c = T 210 0 c := hf_15 210 0 c rfl
        rw [e45] at b44 b44b ⊢
        refine hK 59 [some (vR 111 0), some (vI c), some (vI (T 210 0 c))] [] T1 ?_
        refine c_59 _ (T 210 0 c) T1 (Nat.le_refl _) ?_ ?_ ?_ ?_ ?_ ?_ ?_
        · exact fr_t (fr_0 _ _) (fr_s hf_15 rfl)
        · omega
        · exact fun k a b => pb1 k a (by omega)
        · exact fun k a b => by have := l1 k a (by omega); omega
        · exact fun v a b => p1 v a (by omega)
        · intro v a b
          rw [l1 v a (by omega), show (T 210 0 c - T 210 0 c).toNat = 0 by omega]
          rfl
        · exact su1
      · refine rg_i (by omega) ?_
        refine rg_i (by omega) ?_
        refine ix_i (by omega) ?_
        intro b46 b46b
        refine iy_i (by omega) (by omega) ?_
        refine x_nm (fun U47 hU47 => ?_)
        have e48 := up_f hU47
        refine iy_i (by omega) (by omega) ?_
        refine x_nm (fun U49 hU49 => ?_)
        have e50 := up_f hU49
        refine rg_i (by omega) ?_
        refine hK 15 [some (vR 111 0), some (vI c), some (vI (i + 1))] [] U49 ?_
        have e51 : U49 111 0 80 = T1 111 0 80 := (up_k hU49 (by exact Nat.ne_of_beq_eq_false rfl) 0 80).trans (up_k hU47 (by exact Nat.ne_of_beq_eq_false rfl) 0 80)
        refine ih_15 _ ?_ (i + 1) U49 (Nat.le_refl _) ?_ ?_ ?_ ?_ ?_ ?_ ?_ ?_
        · have hm_15 := hm_15 (); omega
        · exact fr_u (fr_u (fr_t (fr_0 _ _) (fr_s hf_15 rfl)) hU47 rfl) hU49 rfl
        · omega
        · exact tb_f tb1 (fun j => (up_k hU49 (by exact Nat.ne_of_beq_eq_false rfl) 0 j).trans (up_k hU47 (by exact Nat.ne_of_beq_eq_false rfl) 0 j))
        · exact fun x a b => ((up_k hU49 (by exact Nat.ne_of_beq_eq_false rfl) 0 (9 * x + 6)).trans (up_k hU47 (by exact Nat.ne_of_beq_eq_false rfl) 0 (9 * x + 6))).trans (t1 x a b)
        · intro j a b
          by_cases z : j = i
          · rw [z, show U49 291 0 i = U47 291 0 i from up_k hU49 (by exact Nat.ne_of_beq_eq_false rfl) 0 i, up_f hU47]
            exact t1 i (by omega) (by omega)
          · rw [(up_k hU49 (by exact Nat.ne_of_beq_eq_false rfl) 0 j).trans (up_g hU47 (by omega))]; exact p1 j a (by omega)
        · intro j a b
          by_cases z : j = i
          · rw [z, show U49 292 0 i = U49 292 0 i from rfl, up_f hU49]
          · rw [(up_g hU49 (by omega)).trans (up_k hU47 (by exact Nat.ne_of_beq_eq_false rfl) 0 j)]; exact l1 j a (by omega)
        · intro j a b
          by_cases z : j = i
          · have e9 : U49 291 0 j = T1 276 0 ((9 * i) + 6) := by rw [z]; exact (up_k hU49 (by exact Nat.ne_of_beq_eq_false rfl) 0 i).trans (up_f hU47)
            have := tb1 (9 * i + 6) (by omega) (by omega)
            omega
          · rw [(up_k hU49 (by exact Nat.ne_of_beq_eq_false rfl) 0 j).trans (up_g hU47 (by omega))]; exact pb1 j a (by omega)
        · exact ((up_k hU49 (by exact Nat.ne_of_beq_eq_false rfl) 0 80).trans (up_k hU47 (by exact Nat.ne_of_beq_eq_false rfl) 0 80)).trans su1
  refine j_blx (F := fX11) tb_X11 (nn_ _) bk_X11_countLeft_h_0 bs_X11_countLeft_h_0 hz (fun K hK => ?_)
  refine bd_i (by omega) ?_
  refine x_nm (fun U52 hU52 => ?_)
  have e53 := up_f hU52
  refine hK 10 _ [vI 999, vI c, vR 111 0] U52 ?_
  refine j_callV (y := yX11_tellAll) (Yc := zX11_tellAll) (rest := []) [vI c, vI 999] (ct_X11_tellAll_e (T := U52) (by omega) (ML__f (ws := [(111, [80])]) hml (fr_u (fr_0 _ _) hU52 rfl) ⟨fun _ => rfl, fun _ => rfl, rfl, trivial⟩) (SC__f (ws := [(111, [80])]) hsc (fr_u (fr_0 _ _) hU52 rfl) ⟨fun _ => rfl, fun _ => rfl, trivial⟩) (YB__f (ws := [(111, [80])]) hyb (fr_u (fr_0 _ _) hU52 rfl) ⟨fun _ => rfl, trivial⟩)) cl_X11_514 (qd_c (by decide +kernel)) (nn_ _) rfl (rf_of rfl) (Nat.le_of_ble_eq_true rfl) (Nat.le_of_ble_eq_true rfl) (Nat.le_of_ble_eq_true rfl) rfl ?_
  rintro U54 _ ⟨rfl, fU54, qU54, tU54⟩
  show J_ zX11_countLeft T (po_X11_countLeft_h T c) 0 0 13 _ [] U54
  refine j_blx (F := fX11) tb_X11 (nn_ _) bk_X11_countLeft_h_13 bs_X11_countLeft_h_13 hz (fun K hK => ?_)
  refine hK 15 [some (vR 111 0), some (vI c), some (vI 0)] [] U54 ?_
  have e55 : U54 111 0 80 = 0 := (fU54 111 0 80 rfl).trans (up_f hU52)
  refine c_15 _ 0 U54 (Nat.le_refl _) ?_ ?_ ?_ ?_ ?_ ?_ ?_ ?_
  · exact fr_t (fr_u (fr_0 _ _) hU52 rfl) (fr_s fU54 rfl)
  · omega
  · exact qU54
  · have e0 := up7_i hU52 hsu
    have g := tU54
    rw [e0] at g
    intro x a b
    have y := g x 6 a b (by decide) (by decide)
    rw [cz_t rfl] at y
    exact y
  · intro j a b; omega
  · intro j a b; omega
  · intro j a b; omega
  · exact (fU54 111 0 80 rfl).trans (up_f hU52)
