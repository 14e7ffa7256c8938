-- who can be first: the slack of sets, exactly, words
/-- the least set that is short -/
def CU7_ (o : Int) (l : List (Nat × Nat)) (f : Nat → Int) (x : Int) : Prop := (1 ≤ x ∧ x < 4096) ∧ an_ x o = x ∧ vs_ f l x.toNat < 0 ∧ ∀ t, 0 ≤ t → t < x → an_ t o = t → 0 ≤ vs_ f l t.toNat
/-- the slack is that of caps f; no set is short -/
def SX7_ (T : Zt) (o : Int) (l : List (Nat × Nat)) (f : Nat → Int) : Prop := ∀ s : Int, 0 ≤ s → s < 4096 → an_ s o = s → T 296 0 s = vs_ f l s.toNat ∧ 0 ≤ T 296 0 s ∧ T 296 0 s ≤ 1000000000
theorem cu7_u {o : Int} {l : List (Nat × Nat)} {f : Nat → Int} {x y : Int} (a : CU7_ o l f x) (b : CU7_ o l f y) : x = y := by
  obtain ⟨a1, a2, a3, a4⟩ := a
  obtain ⟨b1, b2, b3, b4⟩ := b
  rcases Int.lt_trichotomy x y with z | z | z
  · have := b4 x (by omega) z a2
    omega
  · exact z
  · have := a4 y (by omega) z b2
    omega
theorem sx7_l {s o : Nat} (ho : o ≤ 4095) (h : s &&& o = s) : s ≤ 4095 := by
  have y : s &&& o ≤ o := Nat.and_le_right
  omega
theorem sx7_e {T T1 : Zt} {o : Int} {l : List (Nat × Nat)} {f : Nat → Int} (h : SX7_ T o l f) (e : ∀ j, T1 296 0 j = T 296 0 j) : SX7_ T1 o l f := fun s a b c => by rw [e]; exact h s a b c
theorem sx7_v {T : Zt} {o : Int} {l : List (Nat × Nat)} {f : Nat → Int} (h : SX7_ T o l f) : SVE_ T o l := ⟨f, h⟩
/-- a way that goes can be chosen, one that doesn't can't -/
theorem sx7_w {T : Zt} {o a b w : Int} {l : List (Nat × Nat)} {f : Nat → Int} (ho : 0 ≤ o ∧ o ≤ 4095) (h : SX7_ T o ((a.toNat, b.toNat) :: l) f) (hl : ∀ p ∈ l, p.1 < 12 ∧ p.2 < 12) (ha : 0 ≤ a ∧ a < 12) (hb : 0 ≤ b ∧ b < 12) (ok : OKW_ T o a b w 4096) : fe7_ o.toNat l (fw2_ f a.toNat b.toNat w) := v_fe7 l _ hl (fun s hs => by
  have bd := sx7_l (o := o.toNat) (by omega) hs
  have ha2 := (an_z (s := (s : Int)) ho (by omega)).mpr (by rw [Int.toNat_natCast]; exact hs)
  have y := h (s : Int) (by omega) (by omega) ha2
  rw [Int.toNat_natCast] at y
  rw [vs_s (by omega) (by omega)]
  by_cases z : s = 0
  · rw [z, ch_0]
    rw [z] at y
    omega
  · have k := ok (s : Int) (by omega) (by omega) ha2
    rw [Int.toNat_natCast] at k
    omega)
theorem sx7_n {T : Zt} {o a b u : Int} {l : List (Nat × Nat)} {f : Nat → Int} (ho : 0 ≤ o ∧ o ≤ 4095) (h : SX7_ T o ((a.toNat, b.toNat) :: l) f) (hl : ∀ p ∈ l, p.1 < 12 ∧ p.2 < 12) (ha : 0 ≤ a ∧ a < 12) (hb : 0 ≤ b ∧ b < 12) (no : NW_ T o a b u) : ¬ fe7_ o.toNat l (fw2_ f a.toNat b.toNat u) := fun q => by
  obtain ⟨s, p1, p2, p3, p4⟩ := no
  have y := fe7_v l _ hl q s.toNat ((an_z ho (by omega)).mp p3)
  rw [vs_s (by omega) (by omega)] at y
  have k := (h s (by omega) p2 p3).1
  omega
theorem sx7_s {T T1 : Zt} {o a b w : Int} {l : List (Nat × Nat)} {f : Nat → Int} (h : SX7_ T o ((a.toNat, b.toNat) :: l) f) (ha : 0 ≤ a ∧ a < 12) (hb : 0 ≤ b ∧ b < 12) (hw : 0 ≤ w ∧ w ≤ 2) (ok : OKW_ T o a b w 4096) (up : ∀ s, 0 ≤ s → s < 4096 → an_ s o = s → T1 296 0 s = T 296 0 s + ch_ s.toNat a.toNat b.toNat w) : SX7_ T1 o l (fw2_ f a.toNat b.toNat w) := fun s s0 s1 s2 => by
  have k := h s s0 s1 s2
  have c := ch_b s.toNat a.toNat b.toNat hw
  rw [up s s0 s1 s2, vs_s (by omega) (by omega)]
  by_cases z : s = 0
  · have e0 : s.toNat = 0 := by omega
    rw [e0, ch_0]
    rw [e0] at k
    omega
  · have y := ok s (by omega) s1 s2
    omega
/-- what was settled of the open matches, in their order -/
def wl7_ (T U : Zt) (cl : Int) : Nat → Int → List Int
  | 0, _ => []
  | n + 1, m => (if (T 235 0 m = 0 ∨ T 235 0 m = 1) ∧ T 232 0 m ≠ cl ∧ T 233 0 m ≠ cl ∧ T 232 0 m ≠ T 233 0 m then [U 289 0 m] else []) ++ wl7_ T U cl n (m + 1)
theorem wl7_s (T U : Zt) (cl : Int) : ∀ (n : Nat) (m : Int), wl7_ T U cl (n + 1) m = wl7_ T U cl n m ++ (if (T 235 0 (m + n) = 0 ∨ T 235 0 (m + n) = 1) ∧ T 232 0 (m + n) ≠ cl ∧ T 233 0 (m + n) ≠ cl ∧ T 232 0 (m + n) ≠ T 233 0 (m + n) then [U 289 0 (m + n)] else [])
  | 0, m => by simp [wl7_]
  | n + 1, m => by
      have i := wl7_s T U cl n (m + 1)
      rw [show m + 1 + (n : Int) = m + ((n + 1 : Nat) : Int) by omega] at i
      show _ ++ wl7_ T U cl (n + 1) (m + 1) = (_ ++ wl7_ T U cl n (m + 1)) ++ _
      rw [i, List.append_assoc]
theorem wl7_e {T U V : Zt} {cl : Int} : ∀ (n : Nat) (m : Int), (∀ j, m ≤ j → j < m + (n : Int) → V 289 0 j = U 289 0 j) → wl7_ T V cl n m = wl7_ T U cl n m
  | 0, _, _ => rfl
  | n + 1, m, h => by
    show (if _ then [V 289 0 m] else []) ++ wl7_ T V cl n (m + 1) = (if _ then [U 289 0 m] else []) ++ wl7_ T U cl n (m + 1)
    rw [h m (by omega) (by omega), wl7_e n (m + 1) (fun j a b => h j (by omega) (by omega))]
/-- the first ways so far: whatever comes behind -/
def LC7_ (T U : Zt) (o : Nat) (cl fo m : Int) (L l : List (Nat × Nat)) (f0 f : Nat → Int) : Prop := ∀ us, LX7_ o l f us → LX7_ o L f0 (wl7_ T U cl (m - fo).toNat fo ++ us)
theorem lc7_0 {T U : Zt} {o : Nat} {cl fo : Int} {L : List (Nat × Nat)} {f : Nat → Int} : LC7_ T U o cl fo fo L L f f := fun us h => by
  rw [show (fo - fo).toNat = 0 by omega]
  exact h
/-- a match that is not open -/
theorem lc7_n {T U V : Zt} {o : Nat} {cl fo m : Int} {L l : List (Nat × Nat)} {f0 f : Nat → Int} (h : LC7_ T U o cl fo m L l f0 f) (hm : fo ≤ m) (c : ¬ ((T 235 0 m = 0 ∨ T 235 0 m = 1) ∧ T 232 0 m ≠ cl ∧ T 233 0 m ≠ cl ∧ T 232 0 m ≠ T 233 0 m)) (e : ∀ j, fo ≤ j → j < m → V 289 0 j = U 289 0 j) : LC7_ T V o cl fo (m + 1) L l f0 f := fun us g => by
  rw [show (m + 1 - fo).toNat = (m - fo).toNat + 1 by omega, wl7_s, show fo + (((m - fo).toNat : Nat) : Int) = m by omega, if_neg c, List.append_nil, wl7_e (U := U) _ _ (fun j a b => e j a (by omega))]
  exact h us g
/-- a match that was settled -/
theorem lc7_s {T U V : Zt} {o : Nat} {cl fo m w : Int} {L l : List (Nat × Nat)} {f0 f : Nat → Int} (h : LC7_ T U o cl fo m L (((T 232 0 m).toNat, (T 233 0 m).toNat) :: l) f0 f) (hm : fo ≤ m) (c : (T 235 0 m = 0 ∨ T 235 0 m = 1) ∧ T 232 0 m ≠ cl ∧ T 233 0 m ≠ cl ∧ T 232 0 m ≠ T 233 0 m) (e : ∀ j, fo ≤ j → j < m → V 289 0 j = U 289 0 j) (ew : V 289 0 m = w) (hw : 0 ≤ w ∧ w ≤ 2) (ok : fe7_ o l (fw2_ f (T 232 0 m).toNat (T 233 0 m).toNat w)) (no : ∀ u, 0 ≤ u → u < w → ¬ fe7_ o l (fw2_ f (T 232 0 m).toNat (T 233 0 m).toNat u)) : LC7_ T V o cl fo (m + 1) L l f0 (fw2_ f (T 232 0 m).toNat (T 233 0 m).toNat w) := fun us g => by
  rw [show (m + 1 - fo).toNat = (m - fo).toNat + 1 by omega, wl7_s, show fo + (((m - fo).toNat : Nat) : Int) = m by omega, if_pos c, wl7_e (U := U) _ _ (fun j a b => e j a (by omega)), ew, List.append_assoc]
  exact h (w :: us) ⟨w, us, rfl, hw, ok, no, g⟩
/-- how many open matches -/
theorem plf_c (T : Zt) (cl : Int) (n : Nat) (m : Int) : ((plf_ T cl (n + 1) m).length : Int) = ((plf_ T cl n m).length : Int) + (if (T 235 0 (m + n) = 0 ∨ T 235 0 (m + n) = 1) ∧ T 232 0 (m + n) ≠ cl ∧ T 233 0 (m + n) ≠ cl ∧ T 232 0 (m + n) ≠ T 233 0 (m + n) then 1 else 0) := by
  rw [plf_s, List.length_append]
  split
  · rw [List.length_cons, List.length_nil]
    omega
  · rw [List.length_nil]
    omega
theorem vs7_s {f : Nat → Int} {l : List (Nat × Nat)} {k : Nat} (hk : k < 12) : vs_ f l (2 ^ k) ≤ f k := by
  have e := ed_b (2 ^ k) l
  unfold vs_
  rw [sp_17, if_pos hk]
  omega
theorem sx7_p {T : Zt} {o : Int} (ho : 0 ≤ o ∧ o ≤ 4095) {l : List (Nat × Nat)} {f : Nat → Int} (h : SX7_ T o l f) {k : Nat} (hk : k < 12) (hb : o.toNat.testBit k = true) : 0 ≤ f k := by
  have e : 2 ^ k &&& o.toNat = 2 ^ k := by
    apply Nat.eq_of_testBit_eq
    intro j
    rw [Nat.testBit_and, Nat.testBit_two_pow]
    by_cases z : k = j
    · rw [← z, hb]; simp
    · simp [z]
  have b := sx7_l (o := o.toNat) (by omega) e
  have y := h ((2 ^ k : Nat) : Int) (by omega) (by omega) ((an_z ho (by omega)).mpr (by rw [Int.toNat_natCast]; exact e))
  rw [Int.toNat_natCast] at y
  have z := vs7_s (f := f) (l := l) hk
  omega
theorem fw7_g {f : Nat → Int} {a b : Nat} {n : Int} {k : Nat} (h : 2 * (n + 1) ≤ f k) : 2 * n ≤ fw2_ f a b 0 k := by
  unfold fw2_
  split <;> split <;> omega
/-- how many parts a club may still take -/
def cp7_ (T : Zt) (c j : Int) : Int := if T 111 0 95 - T 291 0 j - T 205 0 (23 * c + 3) * T 292 0 j < 0 then -1 else if T 205 0 (23 * c + 1) - T 205 0 (23 * c + 2) = 0 then 1000 else (T 111 0 95 - T 291 0 j - T 205 0 (23 * c + 3) * T 292 0 j) / (T 205 0 (23 * c + 1) - T 205 0 (23 * c + 2))
/-- the club's own matches are won; nothing else is told -/
def OW7_ (T U : Zt) (cl fo m : Int) : Prop := (∀ j, fo ≤ j → j < m → (T 235 0 j = 0 ∨ T 235 0 j = 1) → (T 232 0 j = cl → U 289 0 j = 0) ∧ (T 232 0 j ≠ cl → T 233 0 j = cl → U 289 0 j = 2)) ∧ ∀ j, ¬ ((fo ≤ j ∧ j < m) ∧ (T 235 0 j = 0 ∨ T 235 0 j = 1)) → U 289 0 j = T 289 0 j
theorem ow7_n {T U V : Zt} {cl fo m : Int} (h : OW7_ T U cl fo m) (n : ¬ (T 235 0 m = 0 ∨ T 235 0 m = 1)) (e : ∀ j, V 289 0 j = U 289 0 j) : OW7_ T V cl fo (m + 1) := by
  refine ⟨fun j a b c => ?_, fun j a => ?_⟩
  · rw [e]
    exact h.1 j a (by rcases (by omega : j < m ∨ j = m) with z | z; exact z; exact absurd (z ▸ c) n) c
  · rw [e]
    exact h.2 j (fun z => a ⟨⟨z.1.1, by omega⟩, z.2⟩)
theorem ow7_s {T U V : Zt} {cl fo m w : Int} (h : OW7_ T U cl fo m) (hm : fo ≤ m) (l : T 235 0 m = 0 ∨ T 235 0 m = 1) (e : ∀ j, j ≠ m → V 289 0 j = U 289 0 j) (ew : V 289 0 m = w) (g : (T 232 0 m = cl → w = 0) ∧ (T 232 0 m ≠ cl → T 233 0 m = cl → w = 2)) : OW7_ T V cl fo (m + 1) := by
  refine ⟨fun j a b c => ?_, fun j a => ?_⟩
  · by_cases z : j = m
    · rw [z, ew]
      exact g
    · rw [e j z]
      exact h.1 j a (by omega) c
  · by_cases z : j = m
    · exact absurd ⟨⟨by omega, by omega⟩, z ▸ l⟩ a
    · rw [e j z]
      exact h.2 j (fun q => a ⟨⟨q.1.1, by omega⟩, q.2⟩)
/-- what the reference finds, where win and loss are two draws -/
def RE7_ (T T' : Zt) (c cl o x : Int) : Prop := ∃ f0 : Nat → Int, (∀ k : Nat, k < 12 → f0 k = cp7_ T c (k : Int)) ∧ ((x = 2 ∧ 40 < ((plf_ T cl (T 211 0 c).toNat (T 210 0 c)).length : Int) ∧ T' 111 0 90 = T 111 0 90) ∨ (((plf_ T cl (T 211 0 c).toNat (T 210 0 c)).length : Int) ≤ 40 ∧ ((x = 0 ∧ CU7_ o (plf_ T cl (T 211 0 c).toNat (T 210 0 c)) f0 (T' 111 0 90)) ∨ (x = 1 ∧ T' 111 0 90 = 0 ∧ LX7_ o.toNat (plf_ T cl (T 211 0 c).toNat (T 210 0 c)) f0 (wl7_ T T' cl (T 211 0 c).toNat (T 210 0 c)) ∧ OW7_ T T' cl (T 210 0 c) (T 210 0 c + T 211 0 c) ∧ ∀ k : Nat, k < 12 → o.toNat.testBit k = true → 0 ≤ f0 k))))
theorem bk_X11_laySlack_e_76 : ck_ fX11 (some .int) cX11_laySlack 76 [.iload 6, .iconst 12, .if_icmp .ge 123, .iload 5, .iload 3, .iload 6, .ishr, .iconst 1, .iand, .iconst 1, .if_icmp .ne 113, .iconst 2, .aload 0, .tableswitch 0 11 94 #[], .iconst 12, .iload 4, .imul, .iload 6, .iadd, .iaload, .imul, .goto 114] 113 = true := qck_r (nn_ _) (by decide +kernel)
theorem bs_X11_laySlack_e_76 {P : Zt → Option Zv → Prop} (K : Int → Zl → List Zv → Zt → Prop) : sx_ K P [.iload 6, .iconst 12, .if_icmp .ge 123, .iload 5, .iload 3, .iload 6, .ishr, .iconst 1, .iand, .iconst 1, .if_icmp .ne 113, .iconst 2, .aload 0, .tableswitch 0 11 94 #[], .iconst 12, .iload 4, .imul, .iload 6, .iadd, .iaload, .imul, .goto 114] 113 = x_iload 6 (x_iconst 12 (x_if_icmp .ge 123 K (x_iload 5 (x_iload 3 (x_iload 6 (x_ishr (x_iconst 1 (x_iand (x_iconst 1 (x_if_icmp .ne 113 K (x_iconst 2 (x_aload 0 (x_g1 111 294 (x_iconst 12 (x_iload 4 (x_imul (x_iload 6 (x_iadd (x_iaload (x_imul (x_goto 114 K))))))))))))))))))))) := ((xe_iload 6).trans (congrArg (x_iload 6) ((xe_iconst 12).trans (congrArg (x_iconst 12) ((xe_if_icmp .ge 123).trans (congrArg (x_if_icmp .ge 123 K) ((xe_iload 5).trans (congrArg (x_iload 5) ((xe_iload 3).trans (congrArg (x_iload 3) ((xe_iload 6).trans (congrArg (x_iload 6) ((xe_ishr).trans (congrArg (x_ishr) ((xe_iconst 1).trans (congrArg (x_iconst 1) ((xe_iand).trans (congrArg (x_iand) ((xe_iconst 1).trans (congrArg (x_iconst 1) ((xe_if_icmp .ne 113).trans (congrArg (x_if_icmp .ne 113 K) ((xe_iconst 2).trans (congrArg (x_iconst 2) ((xe_aload 0).trans (congrArg (x_aload 0) ((xe_g1 (kk := 111) rfl tl_11_94).trans (congrArg (x_g1 111 294) ((xe_iconst 12).trans (congrArg (x_iconst 12) ((xe_iload 4).trans (congrArg (x_iload 4) ((xe_imul).trans (congrArg (x_imul) ((xe_iload 6).trans (congrArg (x_iload 6) ((xe_iadd).trans (congrArg (x_iadd) ((xe_iaload).trans (congrArg (x_iaload) ((xe_imul).trans (congrArg (x_imul) (xe_goto 114)))))))))))))))))))))))))))))))))))))))))))
theorem bk_X11_laySlack_e_123 : ck_ fX11 (some .int) cX11_laySlack 123 [.aload 0, .tableswitch 0 11 96 #[], .iload 3, .iload 5, .iastore, .iload 2, .ifCond .ne 144, .iload 5, .ifCond .ge 144, .iload 3, .goto 145] 144 = true := qck_r (nn_ _) (by decide +kernel)
theorem bs_X11_laySlack_e_123 {P : Zt → Option Zv → Prop} (K : Int → Zl → List Zv → Zt → Prop) : sx_ K P [.aload 0, .tableswitch 0 11 96 #[], .iload 3, .iload 5, .iastore, .iload 2, .ifCond .ne 144, .iload 5, .ifCond .ge 144, .iload 3, .goto 145] 144 = x_aload 0 (x_g1 111 296 (x_iload 3 (x_iload 5 (x_iastore (x_iload 2 (x_ifCond .ne 144 K (x_iload 5 (x_ifCond .ge 144 K (x_iload 3 (x_goto 145 K)))))))))) := ((xe_aload 0).trans (congrArg (x_aload 0) ((xe_g1 (kk := 111) rfl tl_11_96).trans (congrArg (x_g1 111 296) ((xe_iload 3).trans (congrArg (x_iload 3) ((xe_iload 5).trans (congrArg (x_iload 5) ((xe_iastore).trans (congrArg (x_iastore) ((xe_iload 2).trans (congrArg (x_iload 2) ((xe_ifCond .ne 144).trans (congrArg (x_ifCond .ne 144 K) ((xe_iload 5).trans (congrArg (x_iload 5) ((xe_ifCond .ge 144).trans (congrArg (x_ifCond .ge 144 K) ((xe_iload 3).trans (congrArg (x_iload 3) (xe_goto 145)))))))))))))))))))))
theorem bk_X11_laySlack_e_144 : ck_ fX11 (some .int) cX11_laySlack 144 [.iload 2, .istore 2, .iinc 3 1, .goto 11] 152 = true := qck_r (nn_ _) (by decide +kernel)
theorem bs_X11_laySlack_e_144 {P : Zt → Option Zv → Prop} (K : Int → Zl → List Zv → Zt → Prop) : sx_ K P [.iload 2, .istore 2, .iinc 3 1, .goto 11] 152 = x_iload 2 (x_istore 2 (x_iinc 3 1 (x_goto 11 K))) := ((xe_iload 2).trans (congrArg (x_iload 2) ((xe_istore 2).trans (congrArg (x_istore 2) ((xe_iinc 3 1).trans (congrArg (x_iinc 3 1) (xe_goto 11)))))))
theorem bk_X11_laySlack_e_145 : ck_ fX11 (some .int) cX11_laySlack 145 [.istore 2, .iinc 3 1, .goto 11] 152 = true := qck_r (nn_ _) (by decide +kernel)
theorem bs_X11_laySlack_e_145 {P : Zt → Option Zv → Prop} (K : Int → Zl → List Zv → Zt → Prop) : sx_ K P [.istore 2, .iinc 3 1, .goto 11] 152 = x_istore 2 (x_iinc 3 1 (x_goto 11 K)) := ((xe_istore 2).trans (congrArg (x_istore 2) ((xe_iinc 3 1).trans (congrArg (x_iinc 3 1) (xe_goto 11)))))
theorem bk_X11_laySlack_e_113 : ck_ fX11 (some .int) cX11_laySlack 113 [.iconst 0, .isub, .istore 5, .iinc 6 1, .goto 76] 123 = true := qck_r (nn_ _) (by decide +kernel)
theorem bs_X11_laySlack_e_113 {P : Zt → Option Zv → Prop} (K : Int → Zl → List Zv → Zt → Prop) : sx_ K P [.iconst 0, .isub, .istore 5, .iinc 6 1, .goto 76] 123 = x_iconst 0 (x_isub (x_istore 5 (x_iinc 6 1 (x_goto 76 K)))) := ((xe_iconst 0).trans (congrArg (x_iconst 0) ((xe_isub).trans (congrArg (x_isub) ((xe_istore 5).trans (congrArg (x_istore 5) ((xe_iinc 6 1).trans (congrArg (x_iinc 6 1) (xe_goto 76)))))))))
theorem bk_X11_laySlack_e_114 : ck_ fX11 (some .int) cX11_laySlack 114 [.isub, .istore 5, .iinc 6 1, .goto 76] 123 = true := qck_r (nn_ _) (by decide +kernel)
theorem bs_X11_laySlack_e_114 {P : Zt → Option Zv → Prop} (K : Int → Zl → List Zv → Zt → Prop) : sx_ K P [.isub, .istore 5, .iinc 6 1, .goto 76] 123 = x_isub (x_istore 5 (x_iinc 6 1 (x_goto 76 K))) := ((xe_isub).trans (congrArg (x_isub) ((xe_istore 5).trans (congrArg (x_istore 5) ((xe_iinc 6 1).trans (congrArg (x_iinc 6 1) (xe_goto 76)))))))
theorem bk_X11_laySlack_e_35 : ck_ fX11 (some .int) cX11_laySlack 35 [.iload 3, .iload 4, .ishr, .iconst 1, .iand, .ifCond .ne 50, .iinc 4 1, .goto 35] 50 = true := qck_r (nn_ _) (by decide +kernel)
theorem bs_X11_laySlack_e_35 {P : Zt → Option Zv → Prop} (K : Int → Zl → List Zv → Zt → Prop) : sx_ K P [.iload 3, .iload 4, .ishr, .iconst 1, .iand, .ifCond .ne 50, .iinc 4 1, .goto 35] 50 = x_iload 3 (x_iload 4 (x_ishr (x_iconst 1 (x_iand (x_ifCond .ne 50 K (x_iinc 4 1 (x_goto 35 K))))))) := ((xe_iload 3).trans (congrArg (x_iload 3) ((xe_iload 4).trans (congrArg (x_iload 4) ((xe_ishr).trans (congrArg (x_ishr) ((xe_iconst 1).trans (congrArg (x_iconst 1) ((xe_iand).trans (congrArg (x_iand) ((xe_ifCond .ne 50).trans (congrArg (x_ifCond .ne 50 K) ((xe_iinc 4 1).trans (congrArg (x_iinc 4 1) (xe_goto 35)))))))))))))))
theorem bk_X11_laySlack_e_50 : ck_ fX11 (some .int) cX11_laySlack 50 [.aload 0, .tableswitch 0 11 96 #[], .iload 3, .iload 3, .iconst 1, .isub, .iand, .iaload, .aload 0, .tableswitch 0 11 93 #[], .iload 4, .iaload, .iadd, .istore 5, .iload 4, .iconst 1, .iadd, .istore 6] 76 = true := qck_r (nn_ _) (by decide +kernel)
theorem bs_X11_laySlack_e_50 {P : Zt → Option Zv → Prop} (K : Int → Zl → List Zv → Zt → Prop) : sx_ K P [.aload 0, .tableswitch 0 11 96 #[], .iload 3, .iload 3, .iconst 1, .isub, .iand, .iaload, .aload 0, .tableswitch 0 11 93 #[], .iload 4, .iaload, .iadd, .istore 5, .iload 4, .iconst 1, .iadd, .istore 6] 76 = x_aload 0 (x_g1 111 296 (x_iload 3 (x_iload 3 (x_iconst 1 (x_isub (x_iand (x_iaload (x_aload 0 (x_g1 111 293 (x_iload 4 (x_iaload (x_iadd (x_istore 5 (x_iload 4 (x_iconst 1 (x_iadd (x_istore 6 (K 76)))))))))))))))))) := ((xe_aload 0).trans (congrArg (x_aload 0) ((xe_g1 (kk := 111) rfl tl_11_96).trans (congrArg (x_g1 111 296) ((xe_iload 3).trans (congrArg (x_iload 3) ((xe_iload 3).trans (congrArg (x_iload 3) ((xe_iconst 1).trans (congrArg (x_iconst 1) ((xe_isub).trans (congrArg (x_isub) ((xe_iand).trans (congrArg (x_iand) ((xe_iaload).trans (congrArg (x_iaload) ((xe_aload 0).trans (congrArg (x_aload 0) ((xe_g1 (kk := 111) rfl tl_11_93).trans (congrArg (x_g1 111 293) ((xe_iload 4).trans (congrArg (x_iload 4) ((xe_iaload).trans (congrArg (x_iaload) ((xe_iadd).trans (congrArg (x_iadd) ((xe_istore 5).trans (congrArg (x_istore 5) ((xe_iload 4).trans (congrArg (x_iload 4) ((xe_iconst 1).trans (congrArg (x_iconst 1) ((xe_iadd).trans (congrArg (x_iadd) ((xe_istore 6).trans (congrArg (x_istore 6) xe_nil))))))))))))))))))))))))))))))))))))
theorem bk_X11_laySlack_e_11 : ck_ fX11 (some .int) cX11_laySlack 11 [.iload 3, .iconst 4096, .if_icmp .ge 152, .aload 0, .tableswitch 0 11 96 #[], .iload 3, .iconst 0, .iastore, .iload 3, .iload 1, .iand, .iload 3, .if_icmp .ne 146, .iconst 0, .istore 4] 35 = true := qck_r (nn_ _) (by decide +kernel)
theorem bs_X11_laySlack_e_11 {P : Zt → Option Zv → Prop} (K : Int → Zl → List Zv → Zt → Prop) : sx_ K P [.iload 3, .iconst 4096, .if_icmp .ge 152, .aload 0, .tableswitch 0 11 96 #[], .iload 3, .iconst 0, .iastore, .iload 3, .iload 1, .iand, .iload 3, .if_icmp .ne 146, .iconst 0, .istore 4] 35 = x_iload 3 (x_iconst 4096 (x_if_icmp .ge 152 K (x_aload 0 (x_g1 111 296 (x_iload 3 (x_iconst 0 (x_iastore (x_iload 3 (x_iload 1 (x_iand (x_iload 3 (x_if_icmp .ne 146 K (x_iconst 0 (x_istore 4 (K 35))))))))))))))) := ((xe_iload 3).trans (congrArg (x_iload 3) ((xe_iconst 4096).trans (congrArg (x_iconst 4096) ((xe_if_icmp .ge 152).trans (congrArg (x_if_icmp .ge 152 K) ((xe_aload 0).trans (congrArg (x_aload 0) ((xe_g1 (kk := 111) rfl tl_11_96).trans (congrArg (x_g1 111 296) ((xe_iload 3).trans (congrArg (x_iload 3) ((xe_iconst 0).trans (congrArg (x_iconst 0) ((xe_iastore).trans (congrArg (x_iastore) ((xe_iload 3).trans (congrArg (x_iload 3) ((xe_iload 1).trans (congrArg (x_iload 1) ((xe_iand).trans (congrArg (x_iand) ((xe_iload 3).trans (congrArg (x_iload 3) ((xe_if_icmp .ne 146).trans (congrArg (x_if_icmp .ne 146 K) ((xe_iconst 0).trans (congrArg (x_iconst 0) ((xe_istore 4).trans (congrArg (x_istore 4) xe_nil))))))))))))))))))))))))))))))
theorem bk_X11_laySlack_e_152 : ck_ fX11 (some .int) cX11_laySlack 152 [.iload 2, .ireturn] 154 = true := qck_r (nn_ _) (by decide +kernel)
theorem bs_X11_laySlack_e_152 {P : Zt → Option Zv → Prop} (K : Int → Zl → List Zv → Zt → Prop) : sx_ K P [.iload 2, .ireturn] 154 = x_iload 2 (x_ireturn P) := ((xe_iload 2).trans (congrArg (x_iload 2) (xe_ireturn)))
theorem bk_X11_laySlack_e_146 : ck_ fX11 (some .int) cX11_laySlack 146 [.iinc 3 1, .goto 11] 152 = true := qck_r (nn_ _) (by decide +kernel)
theorem bs_X11_laySlack_e_146 {P : Zt → Option Zv → Prop} (K : Int → Zl → List Zv → Zt → Prop) : sx_ K P [.iinc 3 1, .goto 11] 152 = x_iinc 3 1 (x_goto 11 K) := ((xe_iinc 3 1).trans (congrArg (x_iinc 3 1) (xe_goto 11)))
theorem bk_X11_laySlack_e_0 : ck_ fX11 (some .int) cX11_laySlack 0 [.aload 0, .tableswitch 0 11 96 #[], .iconst 0, .iconst 0, .iastore, .iconst 0, .istore 2, .iconst 1, .istore 3] 11 = true := qck_r (nn_ _) (by decide +kernel)
theorem bs_X11_laySlack_e_0 {P : Zt → Option Zv → Prop} (K : Int → Zl → List Zv → Zt → Prop) : sx_ K P [.aload 0, .tableswitch 0 11 96 #[], .iconst 0, .iconst 0, .iastore, .iconst 0, .istore 2, .iconst 1, .istore 3] 11 = x_aload 0 (x_g1 111 296 (x_iconst 0 (x_iconst 0 (x_iastore (x_iconst 0 (x_istore 2 (x_iconst 1 (x_istore 3 (K 11))))))))) := ((xe_aload 0).trans (congrArg (x_aload 0) ((xe_g1 (kk := 111) rfl tl_11_96).trans (congrArg (x_g1 111 296) ((xe_iconst 0).trans (congrArg (x_iconst 0) ((xe_iconst 0).trans (congrArg (x_iconst 0) ((xe_iastore).trans (congrArg (x_iastore) ((xe_iconst 0).trans (congrArg (x_iconst 0) ((xe_istore 2).trans (congrArg (x_istore 2) ((xe_iconst 1).trans (congrArg (x_iconst 1) ((xe_istore 3).trans (congrArg (x_istore 3) xe_nil))))))))))))))))))
abbrev po_X11_laySlack_e (T : Zt) (l : List (Nat × Nat)) (o : Int) : Zt → Option Zv → Prop := fun T' r => ∃ x : Int, r = some (vI x) ∧ fr_ [(296, [])] T T' ∧ ((x = 0 ∧ SX7_ T' o l (fun k : Nat => T 293 0 (k : Int))) ∨ CU7_ o l (fun k : Nat => T 293 0 (k : Int)) x)
set_option maxHeartbeats 4000000 in
theorem ct_X11_laySlack_e {T : Zt} {l : List (Nat × Nat)} {o : Int} (hO : 0 ≤ o ∧ o ≤ 4095) (hl : ∀ p ∈ l, p.1 ≠ p.2 ∧ p.1 < 12 ∧ p.2 < 12) (hln : (l.length : Int) ≤ 400) (hbw : BW_ T l) (hsp : ∀ k : Int, 0 ≤ k → k < 12 → -20000000 ≤ T 293 0 k ∧ T 293 0 k ≤ 20000000) : Ct_ yX11_laySlack zX11_laySlack T [vR 111 0, vI o] (po_X11_laySlack_e T l o) := by
  refine ct_of pn_11 rfl rfl (Nat.le_of_ble_eq_true rfl) (fun hT hav => ?_)
  have hr_o : -2147483648 ≤ o ∧ o ≤ 2147483647 := hav (vI o) (List.mem_cons_of_mem _ List.mem_cons_self)
  have hz : zX11_laySlack.2.2.2.1 = some .boolean → ∀ (T' : Zt) (x : Int), po_X11_laySlack_e T l o T' (some (vI x)) → 0 ≤ x ∧ x ≤ 1 := fun h => by cases h
  show J_ zX11_laySlack T (po_X11_laySlack_e T l o) 0 0 0 [some (vR 111 0), some (vI o), none, none, none, none, none] [] T
  have c_11 : ∀ (nn : Nat) (cu : Int) (s : Int) (T1 : Zt), ((4096 - s).toNat) ≤ nn → (fr_ [(296, [])] T T1) → (1 ≤ s ∧ s ≤ 4096 ∧ 0 ≤ cu ∧ cu ≤ 4095) → (SV_ T1 o s l (fun k : Nat => T 293 0 (k : Int))) → (cu = 0 → ∀ t, 0 ≤ t → t < s → an_ t o = t → 0 ≤ T1 296 0 t) → (cu ≠ 0 → ((1 ≤ cu ∧ cu < s) ∧ an_ cu o = cu ∧ vs_ (fun k : Nat => T 293 0 (k : Int)) l cu.toNat < 0 ∧ ∀ t, 0 ≤ t → t < cu → an_ t o = t → 0 ≤ vs_ (fun k : Nat => T 293 0 (k : Int)) l t.toNat)) → J_ zX11_laySlack T (po_X11_laySlack_e T l o) 0 0 11 [some (vR 111 0), some (vI o), some (vI cu), some (vI s), none, none, none] [] T1 := by
    intro nn
    induction nn using Nat.strongRecOn with
    | _ nn ih_11 =>
      intro cu s T1 hm_11 hf_11 i1 sv1 nn1 cu1
      replace hm_11 := fun (_ : Unit) => hm_11
      have c_35 : ∀ (nn : Nat) (lo : Int) (T2 : Zt), ((12 - lo).toNat) ≤ nn → (fr_ [(296, [])] T1 T2) → (0 ≤ lo ∧ s < 4096) → (an_ s o = s) → (∀ j, j ≠ s → T2 296 0 j = T1 296 0 j) → (∀ j, 0 ≤ j → j < lo → an_ (sr_ s j) 1 = 0) → J_ zX11_laySlack T (po_X11_laySlack_e T l o) 0 0 35 [some (vR 111 0), some (vI o), some (vI cu), some (vI s), some (vI lo), none, none] [] T2 := by
        intro nn
        induction nn using Nat.strongRecOn with
        | _ nn ih_35 =>
          intro lo T2 hm_35 hf_35 j1 hsub e2 lo1
          replace hm_35 := fun (_ : Unit) => hm_35
          have hl12 := lo_lt (by omega) (by omega) lo1
          have c_76 : ∀ (nn : Nat) (u : Int) (k : Int), ((12 - k).toNat) ≤ nn → (lo + 1 ≤ k ∧ k ≤ 12) → (an_ (sr_ s lo) 1 ≠ 0) → (u = vs_ (fun k : Nat => T 293 0 (k : Int)) l (s.toNat &&& (s.toNat - 1)) + T 293 0 lo - 2 * su_ (fun k => cb_ lo.toNat k l) s.toNat (lo.toNat + 1) k.toNat) → J_ zX11_laySlack T (po_X11_laySlack_e T l o) 0 0 76 [some (vR 111 0), some (vI o), some (vI cu), some (vI s), some (vI lo), some (vI u), some (vI k)] [] T2 := by
            intro nn
            induction nn using Nat.strongRecOn with
            | _ nn ih_76 =>
              intro u k hm_76 k1 nz sm
              replace hm_76 := fun (_ : Unit) => hm_76
              have ha1 := an_1 (s := s) (by omega)
              have hb1 := bt_n (x := s) (k := lo) (by omega) (by omega)
              have hb2 := bt_01 s.toNat lo.toNat
              have hlow := vs_low (f := (fun k : Nat => T 293 0 (k : Int))) (l := l) (s := s.toNat) (lo := lo.toNat) (by omega) (fun j hj => by have := lo1 (j : Int) (by omega) (by omega); rw [bt_n (by omega) (by omega), Int.toNat_natCast] at this; exact this) (by omega) hl
              have hvb := vs_b (f := (fun k : Nat => T 293 0 (k : Int))) (l := l) (F := 20000000) (by decide) (fun k hk => hsp (k : Int) (by omega) (by omega)) (s.toNat &&& (s.toNat - 1))
              have hva := (e2 (an_ s (s - 1)) (by omega)).trans (sv1 (an_ s (s - 1)) (by omega) (by omega) (an_2 hO (by omega) hsub))
              rw [show (an_ s (s - 1)).toNat = s.toNat &&& (s.toNat - 1) by omega] at hva
              rw [show ((lo.toNat : Nat) : Int) = lo by omega] at hlow
              have hs9 := hsp lo (by omega) (by omega)
              refine j_blx (F := fX11) tb_X11 (nn_ _) bk_X11_laySlack_e_76 bs_X11_laySlack_e_76 hz (fun K hK => ?_)
              refine And.intro (fun c1 => ?_) (fun c1 => ?_)
              · have hsum : u = vs_ (fun k : Nat => T 293 0 (k : Int)) l (s.toNat &&& (s.toNat - 1)) + T 293 0 lo - 2 * su_ (fun k => cb_ lo.toNat k l) s.toNat (lo.toNat + 1) 12 := by rw [sm, show k = 12 by omega]; rfl
                have hvb2 := vs_b (f := (fun k : Nat => T 293 0 (k : Int))) (l := l) (F := 20000000) (by decide) (fun k hk => hsp (k : Int) (by omega) (by omega)) s.toNat
                refine hK 123 _ [] T2 ?_
                refine j_blx (F := fX11) tb_X11 (nn_ _) bk_X11_laySlack_e_123 bs_X11_laySlack_e_123 hz (fun K hK => ?_)
                refine iy_i (by omega) (by omega) ?_
                refine x_nm (fun U2 hU2 => ?_)
                have e3 := up_f hU2
                refine And.intro (fun c4 => ?_) (fun c4 => ?_)
                · refine hK 144 _ [] U2 ?_
                  refine j_blx (F := fX11) tb_X11 (nn_ _) bk_X11_laySlack_e_144 bs_X11_laySlack_e_144 hz (fun K hK => ?_)
                  refine rg_i (by omega) ?_
                  refine hK 11 [some (vR 111 0), some (vI o), some (vI cu), some (vI (s + 1)), some (vI lo), some (vI u), some (vI k)] [] U2 ?_
                  refine j_drq [some (vR 111 0), some (vI o), some (vI cu), some (vI (s + 1)), none, none, none] (drq_s (drq_s (drq_s (drq_s (drq_n (drq_n (drq_n drq_0))))))) ?_
                  refine ih_11 _ ?_ cu (s + 1) U2 (Nat.le_refl _) ?_ ?_ ?_ ?_ ?_
                  · have hm_11 := hm_11 (); omega
                  · exact fr_u (fr_t (fr_t (fr_0 _ _) (fr_s hf_11 rfl)) (fr_s hf_35 rfl)) hU2 rfl
                  · omega
                  · intro t a b d
                    by_cases z : t = s
                    · rw [z, up_f hU2, hsum]
                      exact hlow.symm
                    · exact (up_g hU2 (fun q => z q.2.2)).trans ((e2 t z).trans (sv1 t a (by omega) d))
                  · intro h9 t a b d
                    by_cases z : t = s
                    · rw [z, up_f hU2]; omega
                    · rw [up_g hU2 (fun q => z q.2.2), e2 t z]; exact nn1 (by omega) t a (by omega) d
                  · intro z
                    have y := cu1 z
                    exact ⟨⟨y.1.1, by omega⟩, y.2⟩
                · refine And.intro (fun c5 => ?_) (fun c5 => ?_)
                  · refine hK 144 [some (vR 111 0), some (vI o), some (vI cu), some (vI s), some (vI lo), some (vI u), some (vI k)] [] U2 ?_
                    refine j_blx (F := fX11) tb_X11 (nn_ _) bk_X11_laySlack_e_144 bs_X11_laySlack_e_144 hz (fun K hK => ?_)
                    refine rg_i (by omega) ?_
                    refine hK 11 [some (vR 111 0), some (vI o), some (vI cu), some (vI (s + 1)), some (vI lo), some (vI u), some (vI k)] [] U2 ?_
                    refine j_drq [some (vR 111 0), some (vI o), some (vI cu), some (vI (s + 1)), none, none, none] (drq_s (drq_s (drq_s (drq_s (drq_n (drq_n (drq_n drq_0))))))) ?_
                    refine ih_11 _ ?_ cu (s + 1) U2 (Nat.le_refl _) ?_ ?_ ?_ ?_ ?_
                    · have hm_11 := hm_11 (); omega
                    · exact fr_u (fr_t (fr_t (fr_0 _ _) (fr_s hf_11 rfl)) (fr_s hf_35 rfl)) hU2 rfl
                    · omega
                    · intro t a b d
                      by_cases z : t = s
                      · rw [z, up_f hU2, hsum]
                        exact hlow.symm
                      · exact (up_g hU2 (fun q => z q.2.2)).trans ((e2 t z).trans (sv1 t a (by omega) d))
                    · intro h9 t a b d
                      by_cases z : t = s
                      · rw [z, up_f hU2]; omega
                      · rw [up_g hU2 (fun q => z q.2.2), e2 t z]; exact nn1 (by omega) t a (by omega) d
                    · intro z
                      have y := cu1 z
                      exact ⟨⟨y.1.1, by omega⟩, y.2⟩
                  · refine hK 145 [some (vR 111 0), some (vI o), some (vI cu), some (vI s), some (vI lo), some (vI u), some (vI k)] [vI s] U2 ?_
                    refine j_blx (F := fX11) tb_X11 (nn_ _) bk_X11_laySlack_e_145 bs_X11_laySlack_e_145 hz (fun K hK => ?_)
                    refine rg_i (by omega) ?_
                    refine hK 11 [some (vR 111 0), some (vI o), some (vI s), some (vI (s + 1)), some (vI lo), some (vI u), some (vI k)] [] U2 ?_
                    refine j_drq [some (vR 111 0), some (vI o), some (vI s), some (vI (s + 1)), none, none, none] (drq_s (drq_s (drq_s (drq_s (drq_n (drq_n (drq_n drq_0))))))) ?_
                    refine ih_11 _ ?_ s (s + 1) U2 (Nat.le_refl _) ?_ ?_ ?_ ?_ ?_
                    · have hm_11 := hm_11 (); omega
                    · exact fr_u (fr_t (fr_t (fr_0 _ _) (fr_s hf_11 rfl)) (fr_s hf_35 rfl)) hU2 rfl
                    · omega
                    · intro t a b d
                      by_cases z : t = s
                      · rw [z, up_f hU2, hsum]
                        exact hlow.symm
                      · exact (up_g hU2 (fun q => z q.2.2)).trans ((e2 t z).trans (sv1 t a (by omega) d))
                    · intro h9 t a b d
                      by_cases z : t = s
                      · rw [z, up_f hU2]; omega
                      · rw [up_g hU2 (fun q => z q.2.2), e2 t z]; exact nn1 (by omega) t a (by omega) d
                    · intro _
                      refine ⟨⟨by omega, by omega⟩, hsub, by rw [hlow, ← hsum]; omega, fun t a b d => ?_⟩
                      have y1 := sv1 t a b d
                      have y2 := nn1 (by omega) t a b d
                      rw [← y1]; exact y2
              · have hbk := bt_n (x := s) (k := k) (by omega) (by omega)
                have hb3 := bt_01 s.toNat k.toNat
                rw [← hbk] at hb3
                have hwb := hbw lo k (by omega) (by omega) (by omega) (by omega) (by omega)
                have hcb := cb_b lo.toNat k.toNat l
                have hsu := su_b (g := fun k => cb_ lo.toNat k l) (s := s.toNat) (lo := lo.toNat + 1) (B := 400) (by decide) (fun k => by have := cb_b lo.toNat k l; omega) k.toNat
                have hkt : ((k.toNat : Nat) : Int) * 400 ≤ 4800 := by omega
                intro w6 w6b
                intro w7 w7b
                refine And.intro (fun c8 => ?_) (fun c8 => ?_)
                · refine hK 113 _ [vI u] T2 ?_
                  refine j_blx (F := fX11) tb_X11 (nn_ _) bk_X11_laySlack_e_113 bs_X11_laySlack_e_113 hz (fun K hK => ?_)
                  refine rg_i (by omega) ?_
                  refine rg_i (by omega) ?_
                  refine hK 76 [some (vR 111 0), some (vI o), some (vI cu), some (vI s), some (vI lo), some (vI (u - 0)), some (vI (k + 1))] [] T2 ?_
                  refine ih_76 _ ?_ (u - 0) (k + 1) (Nat.le_refl _) ?_ ?_ ?_
                  · have hm_76 := hm_76 (); omega
                  · omega
                  · first
                    | exact nz
                    | omega
                  · rw [show (k + 1).toNat = k.toNat + 1 by omega]
                    show _ = _ - 2 * (su_ _ _ _ _ + _)
                    rw [if_pos (by omega), ← hbk]
                    dsimp only
                    first
                    | (rw [hcm, hwb]; omega)
                    | (rw [show an_ (sr_ s k) 1 = 0 by omega]; omega)
                · have hcm : an_ (sr_ s k) 1 = 1 := by omega
                  refine rg_i (by omega) ?_
                  refine rg_i (by omega) ?_
                  refine ix_i (by omega) ?_
                  intro b9 b9b
                  have e10 : T2 294 0 ((12 * lo) + k) = T 294 0 ((12 * lo) + k) := (hf_35 294 0 ((12 * lo) + k) rfl).trans (hf_11 294 0 ((12 * lo) + k) rfl)
                  rw [e10] at b9 b9b ⊢
                  refine rg_i (by omega) ?_
                  refine hK 114 [some (vR 111 0), some (vI o), some (vI cu), some (vI s), some (vI lo), some (vI u), some (vI k)] [vI (2 * (T 294 0 ((12 * lo) + k))), vI u] T2 ?_
                  refine j_blx (F := fX11) tb_X11 (nn_ _) bk_X11_laySlack_e_114 bs_X11_laySlack_e_114 hz (fun K hK => ?_)
                  refine rg_i (by omega) ?_
                  refine rg_i (by omega) ?_
                  refine hK 76 [some (vR 111 0), some (vI o), some (vI cu), some (vI s), some (vI lo), some (vI (u - (2 * (T 294 0 ((12 * lo) + k))))), some (vI (k + 1))] [] T2 ?_
                  refine ih_76 _ ?_ (u - (2 * (T 294 0 ((12 * lo) + k)))) (k + 1) (Nat.le_refl _) ?_ ?_ ?_
                  · have hm_76 := hm_76 (); omega
                  · omega
                  · first
                    | exact nz
                    | omega
                  · rw [show (k + 1).toNat = k.toNat + 1 by omega]
                    show _ = _ - 2 * (su_ _ _ _ _ + _)
                    rw [if_pos (by omega), ← hbk]
                    dsimp only
                    first
                    | (rw [hcm, hwb]; omega)
                    | (rw [show an_ (sr_ s k) 1 = 0 by omega]; omega)
          refine j_blx (F := fX11) tb_X11 (nn_ _) bk_X11_laySlack_e_35 bs_X11_laySlack_e_35 hz (fun K hK => ?_)
          intro w11 w11b
          intro w12 w12b
          refine And.intro (fun c13 => ?_) (fun c13 => ?_)
          · refine hK 50 _ [] T2 ?_
            have ha1 := an_1 (s := s) (by omega)
            have hb1 := bt_n (x := s) (k := lo) (by omega) (by omega)
            have hb2 := bt_01 s.toNat lo.toNat
            have hlow := vs_low (f := (fun k : Nat => T 293 0 (k : Int))) (l := l) (s := s.toNat) (lo := lo.toNat) (by omega) (fun j hj => by have := lo1 (j : Int) (by omega) (by omega); rw [bt_n (by omega) (by omega), Int.toNat_natCast] at this; exact this) (by omega) hl
            have hvb := vs_b (f := (fun k : Nat => T 293 0 (k : Int))) (l := l) (F := 20000000) (by decide) (fun k hk => hsp (k : Int) (by omega) (by omega)) (s.toNat &&& (s.toNat - 1))
            have hva := (e2 (an_ s (s - 1)) (by omega)).trans (sv1 (an_ s (s - 1)) (by omega) (by omega) (an_2 hO (by omega) hsub))
            rw [show (an_ s (s - 1)).toNat = s.toNat &&& (s.toNat - 1) by omega] at hva
            rw [show ((lo.toNat : Nat) : Int) = lo by omega] at hlow
            have hs9 := hsp lo (by omega) (by omega)
            refine j_blx (F := fX11) tb_X11 (nn_ _) bk_X11_laySlack_e_50 bs_X11_laySlack_e_50 hz (fun K hK => ?_)
            refine rg_i (by omega) ?_
            intro w14 w14b
            refine ix_i (by omega) ?_
            intro b15 b15b
            refine ix_i (by omega) ?_
            intro b16 b16b
            have e17 : T2 293 0 lo = T 293 0 lo := (hf_35 293 0 lo rfl).trans (hf_11 293 0 lo rfl)
            rw [e17] at b16 b16b ⊢
            refine rg_i (by omega) ?_
            refine rg_i (by omega) ?_
            refine hK 76 [some (vR 111 0), some (vI o), some (vI cu), some (vI s), some (vI lo), some (vI ((T2 296 0 (an_ s (s - 1))) + (T 293 0 lo))), some (vI (lo + 1))] [] T2 ?_
            refine c_76 _ ((T2 296 0 (an_ s (s - 1))) + (T 293 0 lo)) (lo + 1) (Nat.le_refl _) ?_ ?_ ?_
            · omega
            · first
              | exact nz
              | omega
            · rw [su_n _ (by omega), hva]; omega
          · refine rg_i (by omega) ?_
            refine hK 35 [some (vR 111 0), some (vI o), some (vI cu), some (vI s), some (vI (lo + 1)), none, none] [] T2 ?_
            refine ih_35 _ ?_ (lo + 1) T2 (Nat.le_refl _) ?_ ?_ ?_ ?_ ?_
            · have hm_35 := hm_35 (); omega
            · exact fr_t (fr_0 _ _) (fr_s hf_35 rfl)
            · omega
            · first
              | exact hsub
              | omega
            · exact e2
            · intro j a b
              by_cases z : j = lo
              · rw [z]; omega
              · exact lo1 j a (by omega)
      refine j_blx (F := fX11) tb_X11 (nn_ _) bk_X11_laySlack_e_11 bs_X11_laySlack_e_11 hz (fun K hK => ?_)
      refine And.intro (fun c18 => ?_) (fun c18 => ?_)
      · refine hK 152 _ [] T1 ?_
        refine j_blx (F := fX11) tb_X11 (nn_ _) bk_X11_laySlack_e_152 bs_X11_laySlack_e_152 hz (fun K hK => ?_)
        refine (show po_X11_laySlack_e T l o T1 (some (vI cu)) from ?_)
        refine ⟨_, rfl, fr_t (fr_0 _ _) (fr_s hf_11 rfl), ?_⟩
        by_cases z : cu = 0
        · refine Or.inl ⟨z, fun t a b d => ⟨sv1 t a (by omega) d, nn1 z t a (by omega) d, ?_⟩⟩
          rw [sv1 t a (by omega) d]
          have hvb := vs_b (f := (fun k : Nat => T 293 0 (k : Int))) (l := l) (F := 20000000) (by decide) (fun k hk => hsp (k : Int) (by omega) (by omega)) t.toNat
          omega
        · have y := cu1 z
          exact Or.inr ⟨⟨y.1.1, by omega⟩, y.2⟩
      · refine iy_i (by omega) (by omega) ?_
        refine x_nm (fun U19 hU19 => ?_)
        have e20 := up_f hU19
        intro w21 w21b
        refine And.intro (fun c22 => ?_) (fun c22 => ?_)
        · refine hK 146 _ [] U19 ?_
          refine j_blx (F := fX11) tb_X11 (nn_ _) bk_X11_laySlack_e_146 bs_X11_laySlack_e_146 hz (fun K hK => ?_)
          refine rg_i (by omega) ?_
          refine hK 11 [some (vR 111 0), some (vI o), some (vI cu), some (vI (s + 1)), none, none, none] [] U19 ?_
          refine ih_11 _ ?_ cu (s + 1) U19 (Nat.le_refl _) ?_ ?_ ?_ ?_ ?_
          · have hm_11 := hm_11 (); omega
          · exact fr_u (fr_t (fr_0 _ _) (fr_s hf_11 rfl)) hU19 rfl
          · omega
          · intro t a b d
            by_cases z : t = s
            · exact absurd (z ▸ d) (by omega)
            · exact (up_g hU19 (fun q => z q.2.2)).trans (sv1 t a (by omega) d)
          · intro h9 t a b d
            by_cases z : t = s
            · exact absurd (z ▸ d) (by omega)
            · rw [up_g hU19 (fun q => z q.2.2)]; exact nn1 h9 t a (by omega) d
          · intro z
            have y := cu1 z
            exact ⟨⟨y.1.1, by omega⟩, y.2⟩
        · refine hK 35 [some (vR 111 0), some (vI o), some (vI cu), some (vI s), some (vI 0), none, none] [] U19 ?_
          refine c_35 _ 0 U19 (Nat.le_refl _) ?_ ?_ ?_ ?_ ?_
          · exact fr_u (fr_0 _ _) hU19 rfl
          · omega
          · first
            | exact hsub
            | omega
          · exact fun j hj => up_g hU19 (fun q => hj q.2.2)
          · intro j a b; omega
  refine j_blx (F := fX11) tb_X11 (nn_ _) bk_X11_laySlack_e_0 bs_X11_laySlack_e_0 hz (fun K hK => ?_)
  refine iy_i (by omega) (by omega) ?_
  refine x_nm (fun U23 hU23 => ?_)
  have e24 := up_f hU23
  refine hK 11 [some (vR 111 0), some (vI o), some (vI 0), some (vI 1), none, none, none] [] U23 ?_
  refine c_11 _ 0 1 U23 (Nat.le_refl _) ?_ ?_ ?_ ?_ ?_
  · exact fr_u (fr_0 _ _) hU23 rfl
  · omega
  · intro t a b _
    rw [show t = 0 by omega]
    exact (up_f hU23).trans (vs_0 _ _).symm
  · intro _ t a b _
    rw [show t = 0 by omega, up_f hU23]; decide
  · intro z; exact absurd rfl z
/-- the way that goes first -/
def PX7_ (T : Zt) (o a b ev g w : Int) : Prop := (g = 0 ∧ (ev = 0 ∨ w = -1) ∧ -1 ≤ w ∧ ∀ u, 0 ≤ u → u ≤ w → NW_ T o a b u) ∨ (g = 1 ∧ 0 ≤ w ∧ w ≤ 2 ∧ (ev = 0 → OKW_ T o a b w 4096 ∧ ∀ u, 0 ≤ u → u < w → NW_ T o a b u) ∧ (ev ≠ 0 → w = 0))
theorem px7_p {T : Zt} {o a b ev g w : Int} (h : PX7_ T o a b ev g w) : PW_ T o a b ev g w := h.imp id (fun z => ⟨z.1, z.2.1, z.2.2.1, fun e => (z.2.2.2.1 e).1⟩)
theorem px7_0 {T : Zt} {o a b ev w g : Int} (h : PX7_ T o a b ev g w) (hg : g = 0) : ev = 0 ∨ w = -1 := by
  rcases h with ⟨_, h, _⟩ | ⟨h, _⟩
  · exact h
  · omega
theorem px7_1 {T : Zt} {o a b ev w g : Int} (h : PX7_ T o a b ev g w) (hg : g ≠ 0) : 0 ≤ w ∧ w ≤ 2 ∧ (ev = 0 → OKW_ T o a b w 4096 ∧ ∀ u, 0 ≤ u → u < w → NW_ T o a b u) ∧ (ev ≠ 0 → w = 0) := by
  rcases h with ⟨h, _⟩ | ⟨_, h⟩
  · exact absurd h hg
  · exact h
theorem bk_X11_settle_e_20 : ck_ fX11 (some .int) cX11_settle 20 [.iload 7, .iconst 4096, .if_icmp .ge 80, .iload 6, .ifCond .eq 80, .iload 4, .ifCond .ne 80, .iload 7, .iload 1, .iand, .iload 7, .if_icmp .ne 67, .aload 0, .tableswitch 0 11 96 #[], .iload 7, .iaload, .iload 7, .iload 2, .iload 3, .iload 5] 60 = true := qck_r (nn_ _) (by decide +kernel)
theorem bs_X11_settle_e_20 {P : Zt → Option Zv → Prop} (K : Int → Zl → List Zv → Zt → Prop) : sx_ K P [.iload 7, .iconst 4096, .if_icmp .ge 80, .iload 6, .ifCond .eq 80, .iload 4, .ifCond .ne 80, .iload 7, .iload 1, .iand, .iload 7, .if_icmp .ne 67, .aload 0, .tableswitch 0 11 96 #[], .iload 7, .iaload, .iload 7, .iload 2, .iload 3, .iload 5] 60 = x_iload 7 (x_iconst 4096 (x_if_icmp .ge 80 K (x_iload 6 (x_ifCond .eq 80 K (x_iload 4 (x_ifCond .ne 80 K (x_iload 7 (x_iload 1 (x_iand (x_iload 7 (x_if_icmp .ne 67 K (x_aload 0 (x_g1 111 296 (x_iload 7 (x_iaload (x_iload 7 (x_iload 2 (x_iload 3 (x_iload 5 (K 60)))))))))))))))))))) := ((xe_iload 7).trans (congrArg (x_iload 7) ((xe_iconst 4096).trans (congrArg (x_iconst 4096) ((xe_if_icmp .ge 80).trans (congrArg (x_if_icmp .ge 80 K) ((xe_iload 6).trans (congrArg (x_iload 6) ((xe_ifCond .eq 80).trans (congrArg (x_ifCond .eq 80 K) ((xe_iload 4).trans (congrArg (x_iload 4) ((xe_ifCond .ne 80).trans (congrArg (x_ifCond .ne 80 K) ((xe_iload 7).trans (congrArg (x_iload 7) ((xe_iload 1).trans (congrArg (x_iload 1) ((xe_iand).trans (congrArg (x_iand) ((xe_iload 7).trans (congrArg (x_iload 7) ((xe_if_icmp .ne 67).trans (congrArg (x_if_icmp .ne 67 K) ((xe_aload 0).trans (congrArg (x_aload 0) ((xe_g1 (kk := 111) rfl tl_11_96).trans (congrArg (x_g1 111 296) ((xe_iload 7).trans (congrArg (x_iload 7) ((xe_iaload).trans (congrArg (x_iaload) ((xe_iload 7).trans (congrArg (x_iload 7) ((xe_iload 2).trans (congrArg (x_iload 2) ((xe_iload 3).trans (congrArg (x_iload 3) ((xe_iload 5).trans (congrArg (x_iload 5) xe_nil))))))))))))))))))))))))))))))))))))))))
theorem bk_X11_settle_e_80 : ck_ fX11 (some .int) cX11_settle 80 [.goto 6] 83 = true := qck_r (nn_ _) (by decide +kernel)
theorem bs_X11_settle_e_80 {P : Zt → Option Zv → Prop} (K : Int → Zl → List Zv → Zt → Prop) : sx_ K P [.goto 6] 83 = x_goto 6 K := (xe_goto 6)
theorem bk_X11_settle_e_67 : ck_ fX11 (some .int) cX11_settle 67 [.iconst 1, .goto 72] 71 = true := qck_r (nn_ _) (by decide +kernel)
theorem bs_X11_settle_e_67 {P : Zt → Option Zv → Prop} (K : Int → Zl → List Zv → Zt → Prop) : sx_ K P [.iconst 1, .goto 72] 71 = x_iconst 1 (x_goto 72 K) := ((xe_iconst 1).trans (congrArg (x_iconst 1) (xe_goto 72)))
theorem bk_X11_settle_e_72 : ck_ fX11 (some .int) cX11_settle 72 [.istore 6, .iinc 7 1, .goto 20] 80 = true := qck_r (nn_ _) (by decide +kernel)
theorem bs_X11_settle_e_72 {P : Zt → Option Zv → Prop} (K : Int → Zl → List Zv → Zt → Prop) : sx_ K P [.istore 6, .iinc 7 1, .goto 20] 80 = x_istore 6 (x_iinc 7 1 (x_goto 20 K)) := ((xe_istore 6).trans (congrArg (x_istore 6) ((xe_iinc 7 1).trans (congrArg (x_iinc 7 1) (xe_goto 20)))))
theorem bk_X11_settle_e_63 : ck_ fX11 (some .int) cX11_settle 63 [.iadd, .ifCond .lt 71, .iconst 1, .goto 72] 71 = true := qck_r (nn_ _) (by decide +kernel)
theorem bs_X11_settle_e_63 {P : Zt → Option Zv → Prop} (K : Int → Zl → List Zv → Zt → Prop) : sx_ K P [.iadd, .ifCond .lt 71, .iconst 1, .goto 72] 71 = x_iadd (x_ifCond .lt 71 K (x_iconst 1 (x_goto 72 K))) := ((xe_iadd).trans (congrArg (x_iadd) ((xe_ifCond .lt 71).trans (congrArg (x_ifCond .lt 71 K) ((xe_iconst 1).trans (congrArg (x_iconst 1) (xe_goto 72)))))))
theorem bk_X11_settle_e_71 : ck_ fX11 (some .int) cX11_settle 71 [.iconst 0, .istore 6, .iinc 7 1, .goto 20] 80 = true := qck_r (nn_ _) (by decide +kernel)
theorem bs_X11_settle_e_71 {P : Zt → Option Zv → Prop} (K : Int → Zl → List Zv → Zt → Prop) : sx_ K P [.iconst 0, .istore 6, .iinc 7 1, .goto 20] 80 = x_iconst 0 (x_istore 6 (x_iinc 7 1 (x_goto 20 K))) := ((xe_iconst 0).trans (congrArg (x_iconst 0) ((xe_istore 6).trans (congrArg (x_istore 6) ((xe_iinc 7 1).trans (congrArg (x_iinc 7 1) (xe_goto 20)))))))
theorem bk_X11_settle_e_86 : ck_ fX11 (some .int) cX11_settle 86 [.iload 7, .iconst 4096, .if_icmp .ge 137, .iload 4, .ifCond .ne 137, .aload 0, .tableswitch 0 11 96 #[], .iload 7, .dup2, .iaload, .iload 7, .iload 1, .iand, .iload 7, .if_icmp .ne 128, .iload 7, .iload 2, .iload 3, .iload 5] 122 = true := qck_r (nn_ _) (by decide +kernel)
theorem bs_X11_settle_e_86 {P : Zt → Option Zv → Prop} (K : Int → Zl → List Zv → Zt → Prop) : sx_ K P [.iload 7, .iconst 4096, .if_icmp .ge 137, .iload 4, .ifCond .ne 137, .aload 0, .tableswitch 0 11 96 #[], .iload 7, .dup2, .iaload, .iload 7, .iload 1, .iand, .iload 7, .if_icmp .ne 128, .iload 7, .iload 2, .iload 3, .iload 5] 122 = x_iload 7 (x_iconst 4096 (x_if_icmp .ge 137 K (x_iload 4 (x_ifCond .ne 137 K (x_aload 0 (x_g1 111 296 (x_iload 7 (x_dup2 (x_iaload (x_iload 7 (x_iload 1 (x_iand (x_iload 7 (x_if_icmp .ne 128 K (x_iload 7 (x_iload 2 (x_iload 3 (x_iload 5 (K 122))))))))))))))))))) := ((xe_iload 7).trans (congrArg (x_iload 7) ((xe_iconst 4096).trans (congrArg (x_iconst 4096) ((xe_if_icmp .ge 137).trans (congrArg (x_if_icmp .ge 137 K) ((xe_iload 4).trans (congrArg (x_iload 4) ((xe_ifCond .ne 137).trans (congrArg (x_ifCond .ne 137 K) ((xe_aload 0).trans (congrArg (x_aload 0) ((xe_g1 (kk := 111) rfl tl_11_96).trans (congrArg (x_g1 111 296) ((xe_iload 7).trans (congrArg (x_iload 7) ((xe_dup2).trans (congrArg (x_dup2) ((xe_iaload).trans (congrArg (x_iaload) ((xe_iload 7).trans (congrArg (x_iload 7) ((xe_iload 1).trans (congrArg (x_iload 1) ((xe_iand).trans (congrArg (x_iand) ((xe_iload 7).trans (congrArg (x_iload 7) ((xe_if_icmp .ne 128).trans (congrArg (x_if_icmp .ne 128 K) ((xe_iload 7).trans (congrArg (x_iload 7) ((xe_iload 2).trans (congrArg (x_iload 2) ((xe_iload 3).trans (congrArg (x_iload 3) ((xe_iload 5).trans (congrArg (x_iload 5) xe_nil))))))))))))))))))))))))))))))))))))))
theorem bk_X11_settle_e_137 : ck_ fX11 (some .int) cX11_settle 137 [.iload 5, .ireturn] 140 = true := qck_r (nn_ _) (by decide +kernel)
theorem bs_X11_settle_e_137 {P : Zt → Option Zv → Prop} (K : Int → Zl → List Zv → Zt → Prop) : sx_ K P [.iload 5, .ireturn] 140 = x_iload 5 (x_ireturn P) := ((xe_iload 5).trans (congrArg (x_iload 5) (xe_ireturn)))
theorem bk_X11_settle_e_128 : ck_ fX11 (some .int) cX11_settle 128 [.iconst 0, .iadd, .iastore, .iinc 7 1, .goto 86] 137 = true := qck_r (nn_ _) (by decide +kernel)
theorem bs_X11_settle_e_128 {P : Zt → Option Zv → Prop} (K : Int → Zl → List Zv → Zt → Prop) : sx_ K P [.iconst 0, .iadd, .iastore, .iinc 7 1, .goto 86] 137 = x_iconst 0 (x_iadd (x_iastore (x_iinc 7 1 (x_goto 86 K)))) := ((xe_iconst 0).trans (congrArg (x_iconst 0) ((xe_iadd).trans (congrArg (x_iadd) ((xe_iastore).trans (congrArg (x_iastore) ((xe_iinc 7 1).trans (congrArg (x_iinc 7 1) (xe_goto 86)))))))))
theorem bk_X11_settle_e_125 : ck_ fX11 (some .int) cX11_settle 125 [.goto 129] 128 = true := qck_r (nn_ _) (by decide +kernel)
theorem bs_X11_settle_e_125 {P : Zt → Option Zv → Prop} (K : Int → Zl → List Zv → Zt → Prop) : sx_ K P [.goto 129] 128 = x_goto 129 K := (xe_goto 129)
theorem bk_X11_settle_e_129 : ck_ fX11 (some .int) cX11_settle 129 [.iadd, .iastore, .iinc 7 1, .goto 86] 137 = true := qck_r (nn_ _) (by decide +kernel)
theorem bs_X11_settle_e_129 {P : Zt → Option Zv → Prop} (K : Int → Zl → List Zv → Zt → Prop) : sx_ K P [.iadd, .iastore, .iinc 7 1, .goto 86] 137 = x_iadd (x_iastore (x_iinc 7 1 (x_goto 86 K))) := ((xe_iadd).trans (congrArg (x_iadd) ((xe_iastore).trans (congrArg (x_iastore) ((xe_iinc 7 1).trans (congrArg (x_iinc 7 1) (xe_goto 86)))))))
theorem bk_X11_settle_e_6 : ck_ fX11 (some .int) cX11_settle 6 [.iload 6, .ifCond .ne 83, .iinc 5 1, .iconst 1, .istore 6, .iconst 1, .istore 7] 20 = true := qck_r (nn_ _) (by decide +kernel)
theorem bs_X11_settle_e_6 {P : Zt → Option Zv → Prop} (K : Int → Zl → List Zv → Zt → Prop) : sx_ K P [.iload 6, .ifCond .ne 83, .iinc 5 1, .iconst 1, .istore 6, .iconst 1, .istore 7] 20 = x_iload 6 (x_ifCond .ne 83 K (x_iinc 5 1 (x_iconst 1 (x_istore 6 (x_iconst 1 (x_istore 7 (K 20))))))) := ((xe_iload 6).trans (congrArg (x_iload 6) ((xe_ifCond .ne 83).trans (congrArg (x_ifCond .ne 83 K) ((xe_iinc 5 1).trans (congrArg (x_iinc 5 1) ((xe_iconst 1).trans (congrArg (x_iconst 1) ((xe_istore 6).trans (congrArg (x_istore 6) ((xe_iconst 1).trans (congrArg (x_iconst 1) ((xe_istore 7).trans (congrArg (x_istore 7) xe_nil))))))))))))))
theorem bk_X11_settle_e_83 : ck_ fX11 (some .int) cX11_settle 83 [.iconst 1, .istore 7] 86 = true := qck_r (nn_ _) (by decide +kernel)
theorem bs_X11_settle_e_83 {P : Zt → Option Zv → Prop} (K : Int → Zl → List Zv → Zt → Prop) : sx_ K P [.iconst 1, .istore 7] 86 = x_iconst 1 (x_istore 7 (K 86)) := ((xe_iconst 1).trans (congrArg (x_iconst 1) ((xe_istore 7).trans (congrArg (x_istore 7) xe_nil))))
theorem bk_X11_settle_e_0 : ck_ fX11 (some .int) cX11_settle 0 [.iconst (-1), .istore 5, .iconst 0, .istore 6] 6 = true := qck_r (nn_ _) (by decide +kernel)
theorem bs_X11_settle_e_0 {P : Zt → Option Zv → Prop} (K : Int → Zl → List Zv → Zt → Prop) : sx_ K P [.iconst (-1), .istore 5, .iconst 0, .istore 6] 6 = x_iconst (-1) (x_istore 5 (x_iconst 0 (x_istore 6 (K 6)))) := ((xe_iconst (-1)).trans (congrArg (x_iconst (-1)) ((xe_istore 5).trans (congrArg (x_istore 5) ((xe_iconst 0).trans (congrArg (x_iconst 0) ((xe_istore 6).trans (congrArg (x_istore 6) xe_nil))))))))
abbrev po_X11_settle_e (T : Zt) (l : List (Nat × Nat)) (o a b ev : Int) : Zt → Option Zv → Prop := fun T' r => ∃ x : Int, r = some (vI x) ∧ fr_ [(296, [])] T T' ∧ ((0 ≤ x ∧ x ≤ 2) ∧ (ev = 0 → OKW_ T o a b x 4096 ∧ (∀ u, 0 ≤ u → u < x → NW_ T o a b u) ∧ ∀ s, 0 ≤ s → s < 4096 → an_ s o = s → T' 296 0 s = T 296 0 s + ch_ s.toNat a.toNat b.toNat x) ∧ (ev ≠ 0 → x = 0))
set_option maxHeartbeats 4000000 in
theorem ct_X11_settle_e {T : Zt} {l : List (Nat × Nat)} {o a b ev : Int} (hO : 0 ≤ o ∧ o ≤ 4095) (ha : 0 ≤ a ∧ a < 12) (hb : 0 ≤ b ∧ b < 12) (hev : 0 ≤ ev ∧ ev ≤ 1) (hs : ev = 0 → SW_ T o a b l) (hd : a ≠ b) : Ct_ yX11_settle zX11_settle T [vR 111 0, vI o, vI a, vI b, vI ev] (po_X11_settle_e T l o a b ev) := by
  refine ct_of pn_11 rfl rfl (Nat.le_of_ble_eq_true rfl) (fun hT hav => ?_)
  have hr_o : -2147483648 ≤ o ∧ o ≤ 2147483647 := hav (vI o) (List.mem_cons_of_mem _ List.mem_cons_self)
  have hr_a : -2147483648 ≤ a ∧ a ≤ 2147483647 := hav (vI a) (List.mem_cons_of_mem _ (List.mem_cons_of_mem _ List.mem_cons_self))
  have hr_b : -2147483648 ≤ b ∧ b ≤ 2147483647 := hav (vI b) (List.mem_cons_of_mem _ (List.mem_cons_of_mem _ (List.mem_cons_of_mem _ List.mem_cons_self)))
  have hr_ev : -2147483648 ≤ ev ∧ ev ≤ 2147483647 := hav (vI ev) (List.mem_cons_of_mem _ (List.mem_cons_of_mem _ (List.mem_cons_of_mem _ (List.mem_cons_of_mem _ List.mem_cons_self))))
  have hz : zX11_settle.2.2.2.1 = some .boolean → ∀ (T' : Zt) (x : Int), po_X11_settle_e T l o a b ev T' (some (vI x)) → 0 ≤ x ∧ x ≤ 1 := fun h => by cases h
  show J_ zX11_settle T (po_X11_settle_e T l o a b ev) 0 0 0 [some (vR 111 0), some (vI o), some (vI a), some (vI b), some (vI ev), none, none, none] [] T
  have c_6 : ∀ (nn : Nat) (w : Int) (g : Int), ((3 - w).toNat) ≤ nn → (PX7_ T o a b ev g w) → J_ zX11_settle T (po_X11_settle_e T l o a b ev) 0 0 6 [some (vR 111 0), some (vI o), some (vI a), some (vI b), some (vI ev), some (vI w), some (vI g), none] [] T := by
    intro nn
    induction nn using Nat.strongRecOn with
    | _ nn ih_6 =>
      intro w g hm_6 hw
      replace hm_6 := fun (_ : Unit) => hm_6
      have c_20 : ∀ (nn : Nat) (g2 : Int) (s : Int), ((4096 - s).toNat) ≤ nn → (1 ≤ s ∧ s ≤ 4096 ∧ g = 0) → ((g2 = 1 ∧ OKW_ T o a b (w + 1) s) ∨ (g2 = 0 ∧ ev = 0 ∧ NW_ T o a b (w + 1))) → J_ zX11_settle T (po_X11_settle_e T l o a b ev) 0 0 20 [some (vR 111 0), some (vI o), some (vI a), some (vI b), some (vI ev), some (vI (w + 1)), some (vI g2), some (vI s)] [] T := by
        intro nn
        induction nn using Nat.strongRecOn with
        | _ nn ih_20 =>
          intro g2 s hm_20 j1 h20
          replace hm_20 := fun (_ : Unit) => hm_20
          have hw6 := pw_2 (px7_p (by rw [j1.2.2] at hw; exact hw)) hs hO
          refine j_blx (F := fX11) tb_X11 (nn_ _) bk_X11_settle_e_20 bs_X11_settle_e_20 hz (fun K hK => ?_)
          refine And.intro (fun c1 => ?_) (fun c1 => ?_)
          · refine hK 80 _ [] T ?_
            refine j_blx (F := fX11) tb_X11 (nn_ _) bk_X11_settle_e_80 bs_X11_settle_e_80 hz (fun K hK => ?_)
            refine hK 6 _ [] T ?_
            refine j_drq [some (vR 111 0), some (vI o), some (vI a), some (vI b), some (vI ev), some (vI (w + 1)), some (vI g2), none] (drq_s (drq_s (drq_s (drq_s (drq_s (drq_s (drq_s (drq_n drq_0)))))))) ?_
            refine ih_6 _ ?_ (w + 1) g2 (Nat.le_refl _) ?_
            · have hm_6 := hm_6 (); omega
            · have y9 := px7_0 hw (by omega)
              first
              | (rcases h20 with z | z
                 · exact absurd z.1 (by omega)
                 · exact Or.inl ⟨z.1, Or.inl z.2.1, by omega, fun u p q => by
                     by_cases y : u = w + 1
                     · rw [y]; exact z.2.2
                     · exact hw6.2.2 u p (by omega)⟩)
              | (rcases h20 with z | z
                 · exact Or.inr ⟨z.1, by omega, by omega, fun e9 => absurd e9 (by omega), fun e9 => by omega⟩
                 · exact absurd z.2.1 (by omega))
              | (rcases h20 with z | z
                 · exact Or.inr ⟨z.1, by omega, by omega, fun e9 => ⟨by rw [show (4096 : Int) = s by omega]; exact z.2, fun u p q => hw6.2.2 u p (by omega)⟩, fun e9 => by omega⟩
                 · exact Or.inl ⟨z.1, Or.inl z.2.1, by omega, fun u p q => by
                     by_cases y : u = w + 1
                     · rw [y]; exact z.2.2
                     · exact hw6.2.2 u p (by omega)⟩)
          · refine And.intro (fun c2 => ?_) (fun c2 => ?_)
            · refine hK 80 [some (vR 111 0), some (vI o), some (vI a), some (vI b), some (vI ev), some (vI (w + 1)), some (vI g2), some (vI s)] [] T ?_
              refine j_blx (F := fX11) tb_X11 (nn_ _) bk_X11_settle_e_80 bs_X11_settle_e_80 hz (fun K hK => ?_)
              refine hK 6 _ [] T ?_
              refine j_drq [some (vR 111 0), some (vI o), some (vI a), some (vI b), some (vI ev), some (vI (w + 1)), some (vI g2), none] (drq_s (drq_s (drq_s (drq_s (drq_s (drq_s (drq_s (drq_n drq_0)))))))) ?_
              refine ih_6 _ ?_ (w + 1) g2 (Nat.le_refl _) ?_
              · have hm_6 := hm_6 (); omega
              · have y9 := px7_0 hw (by omega)
                first
                | (rcases h20 with z | z
                   · exact absurd z.1 (by omega)
                   · exact Or.inl ⟨z.1, Or.inl z.2.1, by omega, fun u p q => by
                       by_cases y : u = w + 1
                       · rw [y]; exact z.2.2
                       · exact hw6.2.2 u p (by omega)⟩)
                | (rcases h20 with z | z
                   · exact Or.inr ⟨z.1, by omega, by omega, fun e9 => absurd e9 (by omega), fun e9 => by omega⟩
                   · exact absurd z.2.1 (by omega))
                | (rcases h20 with z | z
                   · exact Or.inr ⟨z.1, by omega, by omega, fun e9 => ⟨by rw [show (4096 : Int) = s by omega]; exact z.2, fun u p q => hw6.2.2 u p (by omega)⟩, fun e9 => by omega⟩
                   · exact Or.inl ⟨z.1, Or.inl z.2.1, by omega, fun u p q => by
                       by_cases y : u = w + 1
                       · rw [y]; exact z.2.2
                       · exact hw6.2.2 u p (by omega)⟩)
            · refine And.intro (fun c3 => ?_) (fun c3 => ?_)
              · refine hK 80 [some (vR 111 0), some (vI o), some (vI a), some (vI b), some (vI ev), some (vI (w + 1)), some (vI g2), some (vI s)] [] T ?_
                refine j_blx (F := fX11) tb_X11 (nn_ _) bk_X11_settle_e_80 bs_X11_settle_e_80 hz (fun K hK => ?_)
                refine hK 6 _ [] T ?_
                refine j_drq [some (vR 111 0), some (vI o), some (vI a), some (vI b), some (vI ev), some (vI (w + 1)), some (vI g2), none] (drq_s (drq_s (drq_s (drq_s (drq_s (drq_s (drq_s (drq_n drq_0)))))))) ?_
                refine ih_6 _ ?_ (w + 1) g2 (Nat.le_refl _) ?_
                · have hm_6 := hm_6 (); omega
                · have y9 := px7_0 hw (by omega)
                  first
                  | (rcases h20 with z | z
                     · exact absurd z.1 (by omega)
                     · exact Or.inl ⟨z.1, Or.inl z.2.1, by omega, fun u p q => by
                         by_cases y : u = w + 1
                         · rw [y]; exact z.2.2
                         · exact hw6.2.2 u p (by omega)⟩)
                  | (rcases h20 with z | z
                     · exact Or.inr ⟨z.1, by omega, by omega, fun e9 => absurd e9 (by omega), fun e9 => by omega⟩
                     · exact absurd z.2.1 (by omega))
                  | (rcases h20 with z | z
                     · exact Or.inr ⟨z.1, by omega, by omega, fun e9 => ⟨by rw [show (4096 : Int) = s by omega]; exact z.2, fun u p q => hw6.2.2 u p (by omega)⟩, fun e9 => by omega⟩
                     · exact Or.inl ⟨z.1, Or.inl z.2.1, by omega, fun u p q => by
                         by_cases y : u = w + 1
                         · rw [y]; exact z.2.2
                         · exact hw6.2.2 u p (by omega)⟩)
              · intro w4 w4b
                refine And.intro (fun c5 => ?_) (fun c5 => ?_)
                · refine hK 67 [some (vR 111 0), some (vI o), some (vI a), some (vI b), some (vI ev), some (vI (w + 1)), some (vI g2), some (vI s)] [] T ?_
                  refine j_blx (F := fX11) tb_X11 (nn_ _) bk_X11_settle_e_67 bs_X11_settle_e_67 hz (fun K hK => ?_)
                  refine hK 72 _ [vI 1] T ?_
                  refine j_blx (F := fX11) tb_X11 (nn_ _) bk_X11_settle_e_72 bs_X11_settle_e_72 hz (fun K hK => ?_)
                  refine rg_i (by omega) ?_
                  refine hK 20 [some (vR 111 0), some (vI o), some (vI a), some (vI b), some (vI ev), some (vI (w + 1)), some (vI 1), some (vI (s + 1))] [] T ?_
                  refine ih_20 _ ?_ 1 (s + 1) (Nat.le_refl _) ?_ ?_
                  · have hm_20 := hm_20 (); omega
                  · omega
                  · refine Or.inl ⟨rfl, fun t p q r => ?_⟩
                    by_cases z : t = s
                    · first
                      | (rw [z]; omega)
                      | exact absurd (z ▸ r) (by omega)
                    · rcases h20 with y | y
                      · exact y.2 t p (by omega) r
                      · omega
                · refine ix_i (by omega) ?_
                  intro b6 b6b
                  refine hK 60 [some (vR 111 0), some (vI o), some (vI a), some (vI b), some (vI ev), some (vI (w + 1)), some (vI g2), some (vI s)] [vI (w + 1), vI b, vI a, vI s, vI (T 296 0 s)] T ?_
                  have hb6 := sw_b (s := s) (hs (by omega)) (by omega) (by omega) (by omega)
                  have hc6 := ch_b s.toNat a.toNat b.toNat (w := w + 1) (by omega)
                  refine j_callS (y := yX11_changeOf) (Yc := zX11_changeOf) (rest := [vI (T 296 0 s)]) [vI s, vI a, vI b, vI (w + 1)] (ct_X11_changeOf (T := T) (by omega) (by omega) (by omega) (by omega)) cl_X11_541 (qd_c (by decide +kernel)) (nn_ _) rfl (rf_of rfl) (Nat.le_of_ble_eq_true rfl) (Nat.le_of_ble_eq_true rfl) (Nat.le_of_ble_eq_true rfl) rfl ?_
                  rintro _ _ ⟨rfl, rfl⟩
                  show J_ zX11_settle T (po_X11_settle_e T l o a b ev) 0 0 63 _ [vI (ch_ s.toNat a.toNat b.toNat (w + 1)), vI (T 296 0 s)] T
                  refine j_blx (F := fX11) tb_X11 (nn_ _) bk_X11_settle_e_63 bs_X11_settle_e_63 hz (fun K hK => ?_)
                  refine rg_i (by omega) ?_
                  refine And.intro (fun c7 => ?_) (fun c7 => ?_)
                  · refine hK 71 _ [] T ?_
                    refine j_blx (F := fX11) tb_X11 (nn_ _) bk_X11_settle_e_71 bs_X11_settle_e_71 hz (fun K hK => ?_)
                    refine rg_i (by omega) ?_
                    refine hK 20 [some (vR 111 0), some (vI o), some (vI a), some (vI b), some (vI ev), some (vI (w + 1)), some (vI 0), some (vI (s + 1))] [] T ?_
                    refine ih_20 _ ?_ 0 (s + 1) (Nat.le_refl _) ?_ ?_
                    · have hm_20 := hm_20 (); omega
                    · omega
                    · exact Or.inr ⟨rfl, by omega, s, by omega, by omega, by omega, by omega⟩
                  · refine hK 72 [some (vR 111 0), some (vI o), some (vI a), some (vI b), some (vI ev), some (vI (w + 1)), some (vI g2), some (vI s)] [vI 1] T ?_
                    refine j_blx (F := fX11) tb_X11 (nn_ _) bk_X11_settle_e_72 bs_X11_settle_e_72 hz (fun K hK => ?_)
                    refine rg_i (by omega) ?_
                    refine hK 20 [some (vR 111 0), some (vI o), some (vI a), some (vI b), some (vI ev), some (vI (w + 1)), some (vI 1), some (vI (s + 1))] [] T ?_
                    refine ih_20 _ ?_ 1 (s + 1) (Nat.le_refl _) ?_ ?_
                    · have hm_20 := hm_20 (); omega
                    · omega
                    · refine Or.inl ⟨rfl, fun t p q r => ?_⟩
                      by_cases z : t = s
                      · first
                        | (rw [z]; omega)
                        | exact absurd (z ▸ r) (by omega)
                      · rcases h20 with y | y
                        · exact y.2 t p (by omega) r
                        · omega
      have c_86 : ∀ (nn : Nat) (s : Int) (T1 : Zt), ((4096 - s).toNat) ≤ nn → (fr_ [(296, [])] T T1) → (1 ≤ s ∧ s ≤ 4096 ∧ g ≠ 0) → (∀ t, 1 ≤ t → t < s → an_ t o = t → T1 296 0 t = T 296 0 t + ch_ t.toNat a.toNat b.toNat w) → (∀ t, t < 1 ∨ s ≤ t → T1 296 0 t = T 296 0 t) → J_ zX11_settle T (po_X11_settle_e T l o a b ev) 0 0 86 [some (vR 111 0), some (vI o), some (vI a), some (vI b), some (vI ev), some (vI w), some (vI g), some (vI s)] [] T1 := by
        intro nn
        induction nn using Nat.strongRecOn with
        | _ nn ih_86 =>
          intro s T1 hm_86 hf_86 j1 u1 k1
          replace hm_86 := fun (_ : Unit) => hm_86
          have hw7 := px7_1 hw j1.2.2
          refine j_blx (F := fX11) tb_X11 (nn_ _) bk_X11_settle_e_86 bs_X11_settle_e_86 hz (fun K hK => ?_)
          refine And.intro (fun c8 => ?_) (fun c8 => ?_)
          · refine hK 137 _ [] T1 ?_
            refine j_blx (F := fX11) tb_X11 (nn_ _) bk_X11_settle_e_137 bs_X11_settle_e_137 hz (fun K hK => ?_)
            refine (show po_X11_settle_e T l o a b ev T1 (some (vI w)) from ?_)
            exact ⟨_, rfl, fr_t (fr_0 _ _) (fr_s hf_86 rfl), by omega, fun z => ⟨(hw7.2.2.1 z).1, (hw7.2.2.1 z).2, fun t p q r => by
              by_cases y : t = 0
              · rw [y, show Int.toNat 0 = 0 by rfl, ch_0, k1 0 (Or.inl (by decide))]; omega
              · exact u1 t (by omega) (by omega) r⟩, hw7.2.2.2⟩
          · refine And.intro (fun c9 => ?_) (fun c9 => ?_)
            · refine hK 137 _ [] T1 ?_
              refine j_blx (F := fX11) tb_X11 (nn_ _) bk_X11_settle_e_137 bs_X11_settle_e_137 hz (fun K hK => ?_)
              refine (show po_X11_settle_e T l o a b ev T1 (some (vI w)) from ?_)
              exact ⟨_, rfl, fr_t (fr_0 _ _) (fr_s hf_86 rfl), by omega, fun z => ⟨(hw7.2.2.1 z).1, (hw7.2.2.1 z).2, fun t p q r => by
                by_cases y : t = 0
                · rw [y, show Int.toNat 0 = 0 by rfl, ch_0, k1 0 (Or.inl (by decide))]; omega
                · exact u1 t (by omega) (by omega) r⟩, hw7.2.2.2⟩
            · refine ix_i (by omega) ?_
              intro b10 b10b
              have hk7 := k1 s (Or.inr (by omega))
              intro w11 w11b
              refine And.intro (fun c12 => ?_) (fun c12 => ?_)
              · refine hK 128 _ [vI (T1 296 0 s), vI s, vR 296 0] T1 ?_
                refine j_blx (F := fX11) tb_X11 (nn_ _) bk_X11_settle_e_128 bs_X11_settle_e_128 hz (fun K hK => ?_)
                refine rg_i (by omega) ?_
                refine iy_i (by omega) (by omega) ?_
                refine x_nm (fun U13 hU13 => ?_)
                have e14 := up_f hU13
                refine rg_i (by omega) ?_
                refine hK 86 [some (vR 111 0), some (vI o), some (vI a), some (vI b), some (vI ev), some (vI w), some (vI g), some (vI (s + 1))] [] U13 ?_
                refine ih_86 _ ?_ (s + 1) U13 (Nat.le_refl _) ?_ ?_ ?_ ?_
                · have hm_86 := hm_86 (); omega
                · exact fr_u (fr_t (fr_0 _ _) (fr_s hf_86 rfl)) hU13 rfl
                · omega
                · intro t p q r
                  by_cases z : t = s
                  · first
                    | (rw [z, up_f hU13]; omega)
                    | exact absurd (z ▸ r) (by omega)
                  · rw [up_g hU13 (fun q => z q.2.2)]; exact u1 t p (by omega) r
                · exact fun t p => (up_g hU13 (by omega)).trans (k1 t (by omega))
              · refine hK 122 [some (vR 111 0), some (vI o), some (vI a), some (vI b), some (vI ev), some (vI w), some (vI g), some (vI s)] [vI w, vI b, vI a, vI s, vI (T1 296 0 s), vI s, vR 296 0] T1 ?_
                have hb7 := sw_b (s := s) (hs (by omega)) (by omega) (by omega) (by omega)
                have hc7 := ch_b s.toNat a.toNat b.toNat (w := w) (by omega)
                refine j_callS (y := yX11_changeOf) (Yc := zX11_changeOf) (rest := [vI (T1 296 0 s), vI s, vR 296 0]) [vI s, vI a, vI b, vI w] (ct_X11_changeOf (T := T1) (by omega) (by omega) (by omega) (by omega)) cl_X11_541 (qd_c (by decide +kernel)) (nn_ _) rfl (rf_of rfl) (Nat.le_of_ble_eq_true rfl) (Nat.le_of_ble_eq_true rfl) (Nat.le_of_ble_eq_true rfl) rfl ?_
                rintro _ _ ⟨rfl, rfl⟩
                show J_ zX11_settle T (po_X11_settle_e T l o a b ev) 0 0 125 _ [vI (ch_ s.toNat a.toNat b.toNat w), vI (T1 296 0 s), vI s, vR 296 0] T1
                refine j_blx (F := fX11) tb_X11 (nn_ _) bk_X11_settle_e_125 bs_X11_settle_e_125 hz (fun K hK => ?_)
                refine hK 129 _ [vI (ch_ s.toNat a.toNat b.toNat w), vI (T1 296 0 s), vI s, vR 296 0] T1 ?_
                refine j_blx (F := fX11) tb_X11 (nn_ _) bk_X11_settle_e_129 bs_X11_settle_e_129 hz (fun K hK => ?_)
                refine rg_i (by omega) ?_
                refine iy_i (by omega) (by omega) ?_
                refine x_nm (fun U15 hU15 => ?_)
                have e16 := up_f hU15
                refine rg_i (by omega) ?_
                refine hK 86 [some (vR 111 0), some (vI o), some (vI a), some (vI b), some (vI ev), some (vI w), some (vI g), some (vI (s + 1))] [] U15 ?_
                refine ih_86 _ ?_ (s + 1) U15 (Nat.le_refl _) ?_ ?_ ?_ ?_
                · have hm_86 := hm_86 (); omega
                · exact fr_u (fr_t (fr_0 _ _) (fr_s hf_86 rfl)) hU15 rfl
                · omega
                · intro t p q r
                  by_cases z : t = s
                  · first
                    | (rw [z, up_f hU15]; omega)
                    | exact absurd (z ▸ r) (by omega)
                  · rw [up_g hU15 (fun q => z q.2.2)]; exact u1 t p (by omega) r
                · exact fun t p => (up_g hU15 (by omega)).trans (k1 t (by omega))
      refine j_blx (F := fX11) tb_X11 (nn_ _) bk_X11_settle_e_6 bs_X11_settle_e_6 hz (fun K hK => ?_)
      refine And.intro (fun c17 => ?_) (fun c17 => ?_)
      · have hw7 := px7_1 hw (by omega)
        refine hK 83 _ [] T ?_
        refine j_blx (F := fX11) tb_X11 (nn_ _) bk_X11_settle_e_83 bs_X11_settle_e_83 hz (fun K hK => ?_)
        refine hK 86 [some (vR 111 0), some (vI o), some (vI a), some (vI b), some (vI ev), some (vI w), some (vI g), some (vI 1)] [] T ?_
        refine c_86 _ 1 T (Nat.le_refl _) ?_ ?_ ?_ ?_
        · exact fr_0 _ _
        · omega
        · intro t p q; omega
        · exact fun _ _ => rfl
      · have hw6 := pw_2 (px7_p (by rw [show g = 0 by omega] at hw; exact hw)) hs hO
        refine rg_i (by omega) ?_
        refine hK 20 [some (vR 111 0), some (vI o), some (vI a), some (vI b), some (vI ev), some (vI (w + 1)), some (vI 1), some (vI 1)] [] T ?_
        refine c_20 _ 1 1 (Nat.le_refl _) ?_ ?_
        · omega
        · exact Or.inl ⟨rfl, fun t p q => by omega⟩
  refine j_blx (F := fX11) tb_X11 (nn_ _) bk_X11_settle_e_0 bs_X11_settle_e_0 hz (fun K hK => ?_)
  refine hK 6 [some (vR 111 0), some (vI o), some (vI a), some (vI b), some (vI ev), some (vI (-1)), some (vI 0), none] [] T ?_
  refine c_6 _ (-1) 0 (Nat.le_refl _) ?_
  · exact Or.inl ⟨rfl, Or.inr rfl, by decide, fun u a b => by omega⟩
theorem bk_X11_canEven_e_209 : ck_ fX11 (some .int) cX11_canEven 209 [.iload 6, .aload 0, .tableswitch 0 11 10 #[], .iload 1, .iaload, .aload 0, .tableswitch 0 11 11 #[], .iload 1, .iaload, .iadd, .if_icmp .ge 328, .aload 0, .tableswitch 0 11 32 #[], .iload 6, .iaload, .istore 7, .aload 0, .tableswitch 0 11 33 #[], .iload 6, .iaload, .istore 8, .aload 0, .iload 6] 248 = true := qck_r (nn_ _) (by decide +kernel)
theorem bs_X11_canEven_e_209 {P : Zt → Option Zv → Prop} (K : Int → Zl → List Zv → Zt → Prop) : sx_ K P [.iload 6, .aload 0, .tableswitch 0 11 10 #[], .iload 1, .iaload, .aload 0, .tableswitch 0 11 11 #[], .iload 1, .iaload, .iadd, .if_icmp .ge 328, .aload 0, .tableswitch 0 11 32 #[], .iload 6, .iaload, .istore 7, .aload 0, .tableswitch 0 11 33 #[], .iload 6, .iaload, .istore 8, .aload 0, .iload 6] 248 = x_iload 6 (x_aload 0 (x_g1 111 210 (x_iload 1 (x_iaload (x_aload 0 (x_g1 111 211 (x_iload 1 (x_iaload (x_iadd (x_if_icmp .ge 328 K (x_aload 0 (x_g1 111 232 (x_iload 6 (x_iaload (x_istore 7 (x_aload 0 (x_g1 111 233 (x_iload 6 (x_iaload (x_istore 8 (x_aload 0 (x_iload 6 (K 248))))))))))))))))))))))) := ((xe_iload 6).trans (congrArg (x_iload 6) ((xe_aload 0).trans (congrArg (x_aload 0) ((xe_g1 (kk := 111) rfl tl_11_10).trans (congrArg (x_g1 111 210) ((xe_iload 1).trans (congrArg (x_iload 1) ((xe_iaload).trans (congrArg (x_iaload) ((xe_aload 0).trans (congrArg (x_aload 0) ((xe_g1 (kk := 111) rfl tl_11_11).trans (congrArg (x_g1 111 211) ((xe_iload 1).trans (congrArg (x_iload 1) ((xe_iaload).trans (congrArg (x_iaload) ((xe_iadd).trans (congrArg (x_iadd) ((xe_if_icmp .ge 328).trans (congrArg (x_if_icmp .ge 328 K) ((xe_aload 0).trans (congrArg (x_aload 0) ((xe_g1 (kk := 111) rfl tl_11_32).trans (congrArg (x_g1 111 232) ((xe_iload 6).trans (congrArg (x_iload 6) ((xe_iaload).trans (congrArg (x_iaload) ((xe_istore 7).trans (congrArg (x_istore 7) ((xe_aload 0).trans (congrArg (x_aload 0) ((xe_g1 (kk := 111) rfl tl_11_33).trans (congrArg (x_g1 111 233) ((xe_iload 6).trans (congrArg (x_iload 6) ((xe_iaload).trans (congrArg (x_iaload) ((xe_istore 8).trans (congrArg (x_istore 8) ((xe_aload 0).trans (congrArg (x_aload 0) ((xe_iload 6).trans (congrArg (x_iload 6) xe_nil))))))))))))))))))))))))))))))))))))))))))))))
theorem bk_X11_canEven_e_328 : ck_ fX11 (some .int) cX11_canEven 328 [.iconst 1, .ireturn] 330 = true := qck_r (nn_ _) (by decide +kernel)
theorem bs_X11_canEven_e_328 {P : Zt → Option Zv → Prop} (K : Int → Zl → List Zv → Zt → Prop) : sx_ K P [.iconst 1, .ireturn] 330 = x_iconst 1 (x_ireturn P) := ((xe_iconst 1).trans (congrArg (x_iconst 1) (xe_ireturn)))
theorem bk_X11_canEven_e_251 : ck_ fX11 (some .int) cX11_canEven 251 [.ifCond .eq 287, .iload 7, .iload 2, .if_icmp .eq 266, .iload 8, .iload 2, .if_icmp .ne 287, .aload 0, .tableswitch 0 11 89 #[], .iload 6, .iload 7, .iload 2, .if_icmp .ne 282, .iconst 0, .goto 283] 282 = true := qck_r (nn_ _) (by decide +kernel)
theorem bs_X11_canEven_e_251 {P : Zt → Option Zv → Prop} (K : Int → Zl → List Zv → Zt → Prop) : sx_ K P [.ifCond .eq 287, .iload 7, .iload 2, .if_icmp .eq 266, .iload 8, .iload 2, .if_icmp .ne 287, .aload 0, .tableswitch 0 11 89 #[], .iload 6, .iload 7, .iload 2, .if_icmp .ne 282, .iconst 0, .goto 283] 282 = x_ifCond .eq 287 K (x_iload 7 (x_iload 2 (x_if_icmp .eq 266 K (x_iload 8 (x_iload 2 (x_if_icmp .ne 287 K (x_aload 0 (x_g1 111 289 (x_iload 6 (x_iload 7 (x_iload 2 (x_if_icmp .ne 282 K (x_iconst 0 (x_goto 283 K)))))))))))))) := ((xe_ifCond .eq 287).trans (congrArg (x_ifCond .eq 287 K) ((xe_iload 7).trans (congrArg (x_iload 7) ((xe_iload 2).trans (congrArg (x_iload 2) ((xe_if_icmp .eq 266).trans (congrArg (x_if_icmp .eq 266 K) ((xe_iload 8).trans (congrArg (x_iload 8) ((xe_iload 2).trans (congrArg (x_iload 2) ((xe_if_icmp .ne 287).trans (congrArg (x_if_icmp .ne 287 K) ((xe_aload 0).trans (congrArg (x_aload 0) ((xe_g1 (kk := 111) rfl tl_11_89).trans (congrArg (x_g1 111 289) ((xe_iload 6).trans (congrArg (x_iload 6) ((xe_iload 7).trans (congrArg (x_iload 7) ((xe_iload 2).trans (congrArg (x_iload 2) ((xe_if_icmp .ne 282).trans (congrArg (x_if_icmp .ne 282 K) ((xe_iconst 0).trans (congrArg (x_iconst 0) (xe_goto 283)))))))))))))))))))))))))))))
theorem bk_X11_canEven_e_287 : ck_ fX11 (some .int) cX11_canEven 287 [.aload 0, .iload 6] 290 = true := qck_r (nn_ _) (by decide +kernel)
theorem bs_X11_canEven_e_287 {P : Zt → Option Zv → Prop} (K : Int → Zl → List Zv → Zt → Prop) : sx_ K P [.aload 0, .iload 6] 290 = x_aload 0 (x_iload 6 (K 290)) := ((xe_aload 0).trans (congrArg (x_aload 0) ((xe_iload 6).trans (congrArg (x_iload 6) xe_nil))))
theorem bk_X11_canEven_e_293 : ck_ fX11 (some .int) cX11_canEven 293 [.ifCond .eq 322, .aload 0, .tableswitch 0 11 89 #[], .iload 6, .aload 0, .iload 3, .iload 7, .iload 8, .iload 5, .ifCond .ne 317, .iconst 1, .goto 318] 317 = true := qck_r (nn_ _) (by decide +kernel)
theorem bs_X11_canEven_e_293 {P : Zt → Option Zv → Prop} (K : Int → Zl → List Zv → Zt → Prop) : sx_ K P [.ifCond .eq 322, .aload 0, .tableswitch 0 11 89 #[], .iload 6, .aload 0, .iload 3, .iload 7, .iload 8, .iload 5, .ifCond .ne 317, .iconst 1, .goto 318] 317 = x_ifCond .eq 322 K (x_aload 0 (x_g1 111 289 (x_iload 6 (x_aload 0 (x_iload 3 (x_iload 7 (x_iload 8 (x_iload 5 (x_ifCond .ne 317 K (x_iconst 1 (x_goto 318 K))))))))))) := ((xe_ifCond .eq 322).trans (congrArg (x_ifCond .eq 322 K) ((xe_aload 0).trans (congrArg (x_aload 0) ((xe_g1 (kk := 111) rfl tl_11_89).trans (congrArg (x_g1 111 289) ((xe_iload 6).trans (congrArg (x_iload 6) ((xe_aload 0).trans (congrArg (x_aload 0) ((xe_iload 3).trans (congrArg (x_iload 3) ((xe_iload 7).trans (congrArg (x_iload 7) ((xe_iload 8).trans (congrArg (x_iload 8) ((xe_iload 5).trans (congrArg (x_iload 5) ((xe_ifCond .ne 317).trans (congrArg (x_ifCond .ne 317 K) ((xe_iconst 1).trans (congrArg (x_iconst 1) (xe_goto 318)))))))))))))))))))))))
theorem bk_X11_canEven_e_322 : ck_ fX11 (some .int) cX11_canEven 322 [.iinc 6 1, .goto 209] 328 = true := qck_r (nn_ _) (by decide +kernel)
theorem bs_X11_canEven_e_322 {P : Zt → Option Zv → Prop} (K : Int → Zl → List Zv → Zt → Prop) : sx_ K P [.iinc 6 1, .goto 209] 328 = x_iinc 6 1 (x_goto 209 K) := ((xe_iinc 6 1).trans (congrArg (x_iinc 6 1) (xe_goto 209)))
theorem bk_X11_canEven_e_317 : ck_ fX11 (some .int) cX11_canEven 317 [.iconst 0] 318 = true := qck_r (nn_ _) (by decide +kernel)
theorem bs_X11_canEven_e_317 {P : Zt → Option Zv → Prop} (K : Int → Zl → List Zv → Zt → Prop) : sx_ K P [.iconst 0] 318 = x_iconst 0 (K 318) := ((xe_iconst 0).trans (congrArg (x_iconst 0) xe_nil))
theorem bk_X11_canEven_e_321 : ck_ fX11 (some .int) cX11_canEven 321 [.iastore, .iinc 6 1, .goto 209] 328 = true := qck_r (nn_ _) (by decide +kernel)
theorem bs_X11_canEven_e_321 {P : Zt → Option Zv → Prop} (K : Int → Zl → List Zv → Zt → Prop) : sx_ K P [.iastore, .iinc 6 1, .goto 209] 328 = x_iastore (x_iinc 6 1 (x_goto 209 K)) := ((xe_iastore).trans (congrArg (x_iastore) ((xe_iinc 6 1).trans (congrArg (x_iinc 6 1) (xe_goto 209)))))
theorem bk_X11_canEven_e_266 : ck_ fX11 (some .int) cX11_canEven 266 [.aload 0, .tableswitch 0 11 89 #[], .iload 6, .iload 7, .iload 2, .if_icmp .ne 282, .iconst 0, .goto 283] 282 = true := qck_r (nn_ _) (by decide +kernel)
theorem bs_X11_canEven_e_266 {P : Zt → Option Zv → Prop} (K : Int → Zl → List Zv → Zt → Prop) : sx_ K P [.aload 0, .tableswitch 0 11 89 #[], .iload 6, .iload 7, .iload 2, .if_icmp .ne 282, .iconst 0, .goto 283] 282 = x_aload 0 (x_g1 111 289 (x_iload 6 (x_iload 7 (x_iload 2 (x_if_icmp .ne 282 K (x_iconst 0 (x_goto 283 K))))))) := ((xe_aload 0).trans (congrArg (x_aload 0) ((xe_g1 (kk := 111) rfl tl_11_89).trans (congrArg (x_g1 111 289) ((xe_iload 6).trans (congrArg (x_iload 6) ((xe_iload 7).trans (congrArg (x_iload 7) ((xe_iload 2).trans (congrArg (x_iload 2) ((xe_if_icmp .ne 282).trans (congrArg (x_if_icmp .ne 282 K) ((xe_iconst 0).trans (congrArg (x_iconst 0) (xe_goto 283)))))))))))))))
theorem bk_X11_canEven_e_282 : ck_ fX11 (some .int) cX11_canEven 282 [.iconst 2, .iastore, .goto 322] 287 = true := qck_r (nn_ _) (by decide +kernel)
theorem bs_X11_canEven_e_282 {P : Zt → Option Zv → Prop} (K : Int → Zl → List Zv → Zt → Prop) : sx_ K P [.iconst 2, .iastore, .goto 322] 287 = x_iconst 2 (x_iastore (x_goto 322 K)) := ((xe_iconst 2).trans (congrArg (x_iconst 2) ((xe_iastore).trans (congrArg (x_iastore) (xe_goto 322)))))
theorem bk_X11_canEven_e_283 : ck_ fX11 (some .int) cX11_canEven 283 [.iastore, .goto 322] 287 = true := qck_r (nn_ _) (by decide +kernel)
theorem bs_X11_canEven_e_283 {P : Zt → Option Zv → Prop} (K : Int → Zl → List Zv → Zt → Prop) : sx_ K P [.iastore, .goto 322] 287 = x_iastore (x_goto 322 K) := ((xe_iastore).trans (congrArg (x_iastore) (xe_goto 322)))
theorem bk_X11_canEven_e_103 : ck_ fX11 (some .int) cX11_canEven 103 [.iload 6, .iconst 12, .if_icmp .ge 177, .aload 0, .tableswitch 0 11 95 #[], .aload 0, .tableswitch 0 11 91 #[], .iload 6, .iaload, .isub, .aload 0, .iload 1, .iconst 3] 125 = true := qck_r (nn_ _) (by decide +kernel)
theorem bs_X11_canEven_e_103 {P : Zt → Option Zv → Prop} (K : Int → Zl → List Zv → Zt → Prop) : sx_ K P [.iload 6, .iconst 12, .if_icmp .ge 177, .aload 0, .tableswitch 0 11 95 #[], .aload 0, .tableswitch 0 11 91 #[], .iload 6, .iaload, .isub, .aload 0, .iload 1, .iconst 3] 125 = x_iload 6 (x_iconst 12 (x_if_icmp .ge 177 K (x_aload 0 (x_g0 111 95 (-2147483648) 2147483647 (x_aload 0 (x_g1 111 291 (x_iload 6 (x_iaload (x_isub (x_aload 0 (x_iload 1 (x_iconst 3 (K 125))))))))))))) := ((xe_iload 6).trans (congrArg (x_iload 6) ((xe_iconst 12).trans (congrArg (x_iconst 12) ((xe_if_icmp .ge 177).trans (congrArg (x_if_icmp .ge 177 K) ((xe_aload 0).trans (congrArg (x_aload 0) ((xe_g0 (kk := 111) rfl tl_11_95).trans (congrArg (x_g0 111 95 (-2147483648) 2147483647) ((xe_aload 0).trans (congrArg (x_aload 0) ((xe_g1 (kk := 111) rfl tl_11_91).trans (congrArg (x_g1 111 291) ((xe_iload 6).trans (congrArg (x_iload 6) ((xe_iaload).trans (congrArg (x_iaload) ((xe_isub).trans (congrArg (x_isub) ((xe_aload 0).trans (congrArg (x_aload 0) ((xe_iload 1).trans (congrArg (x_iload 1) ((xe_iconst 3).trans (congrArg (x_iconst 3) xe_nil))))))))))))))))))))))))))
theorem bk_X11_canEven_e_177 : ck_ fX11 (some .int) cX11_canEven 177 [.aload 0, .iload 1, .iload 2] 180 = true := qck_r (nn_ _) (by decide +kernel)
theorem bs_X11_canEven_e_177 {P : Zt → Option Zv → Prop} (K : Int → Zl → List Zv → Zt → Prop) : sx_ K P [.aload 0, .iload 1, .iload 2] 180 = x_aload 0 (x_iload 1 (x_iload 2 (K 180))) := ((xe_aload 0).trans (congrArg (x_aload 0) ((xe_iload 1).trans (congrArg (x_iload 1) ((xe_iload 2).trans (congrArg (x_iload 2) xe_nil))))))
theorem bk_X11_canEven_e_183 : ck_ fX11 (some .int) cX11_canEven 183 [.aload 0, .aload 0, .iload 3] 186 = true := qck_r (nn_ _) (by decide +kernel)
theorem bs_X11_canEven_e_183 {P : Zt → Option Zv → Prop} (K : Int → Zl → List Zv → Zt → Prop) : sx_ K P [.aload 0, .aload 0, .iload 3] 186 = x_aload 0 (x_aload 0 (x_iload 3 (K 186))) := ((xe_aload 0).trans (congrArg (x_aload 0) ((xe_aload 0).trans (congrArg (x_aload 0) ((xe_iload 3).trans (congrArg (x_iload 3) xe_nil))))))
theorem bk_X11_canEven_e_189 : ck_ fX11 (some .int) cX11_canEven 189 [.tableswitch 1 11 90 #[], .aload 0, .tableswitch 0 11 90 #[], .ifCond .eq 201, .iconst 0, .ireturn] 201 = true := qck_r (nn_ _) (by decide +kernel)
theorem bs_X11_canEven_e_189 {P : Zt → Option Zv → Prop} (K : Int → Zl → List Zv → Zt → Prop) : sx_ K P [.tableswitch 1 11 90 #[], .aload 0, .tableswitch 0 11 90 #[], .ifCond .eq 201, .iconst 0, .ireturn] 201 = x_p 111 90 0 4095 (x_aload 0 (x_g0 111 90 0 4095 (x_ifCond .eq 201 K (x_iconst 0 (x_ireturn P))))) := ((xe_p (kk := 111) rfl tl_11_90).trans (congrArg (x_p 111 90 0 4095) ((xe_aload 0).trans (congrArg (x_aload 0) ((xe_g0 (kk := 111) rfl tl_11_90).trans (congrArg (x_g0 111 90 0 4095) ((xe_ifCond .eq 201).trans (congrArg (x_ifCond .eq 201 K) ((xe_iconst 0).trans (congrArg (x_iconst 0) (xe_ireturn)))))))))))
theorem bk_X11_canEven_e_201 : ck_ fX11 (some .int) cX11_canEven 201 [.aload 0, .tableswitch 0 11 10 #[], .iload 1, .iaload, .istore 6] 209 = true := qck_r (nn_ _) (by decide +kernel)
theorem bs_X11_canEven_e_201 {P : Zt → Option Zv → Prop} (K : Int → Zl → List Zv → Zt → Prop) : sx_ K P [.aload 0, .tableswitch 0 11 10 #[], .iload 1, .iaload, .istore 6] 209 = x_aload 0 (x_g1 111 210 (x_iload 1 (x_iaload (x_istore 6 (K 209))))) := ((xe_aload 0).trans (congrArg (x_aload 0) ((xe_g1 (kk := 111) rfl tl_11_10).trans (congrArg (x_g1 111 210) ((xe_iload 1).trans (congrArg (x_iload 1) ((xe_iaload).trans (congrArg (x_iaload) ((xe_istore 6).trans (congrArg (x_istore 6) xe_nil))))))))))
theorem bk_X11_canEven_e_128 : ck_ fX11 (some .int) cX11_canEven 128 [.aload 0, .tableswitch 0 11 92 #[], .iload 6, .iaload, .imul, .isub, .istore 7, .aload 0, .tableswitch 0 11 93 #[], .iload 6, .iload 7, .ifCond .ge 154, .iconst (-1), .goto 170] 154 = true := qck_r (nn_ _) (by decide +kernel)
theorem bs_X11_canEven_e_128 {P : Zt → Option Zv → Prop} (K : Int → Zl → List Zv → Zt → Prop) : sx_ K P [.aload 0, .tableswitch 0 11 92 #[], .iload 6, .iaload, .imul, .isub, .istore 7, .aload 0, .tableswitch 0 11 93 #[], .iload 6, .iload 7, .ifCond .ge 154, .iconst (-1), .goto 170] 154 = x_aload 0 (x_g1 111 292 (x_iload 6 (x_iaload (x_imul (x_isub (x_istore 7 (x_aload 0 (x_g1 111 293 (x_iload 6 (x_iload 7 (x_ifCond .ge 154 K (x_iconst (-1) (x_goto 170 K))))))))))))) := ((xe_aload 0).trans (congrArg (x_aload 0) ((xe_g1 (kk := 111) rfl tl_11_92).trans (congrArg (x_g1 111 292) ((xe_iload 6).trans (congrArg (x_iload 6) ((xe_iaload).trans (congrArg (x_iaload) ((xe_imul).trans (congrArg (x_imul) ((xe_isub).trans (congrArg (x_isub) ((xe_istore 7).trans (congrArg (x_istore 7) ((xe_aload 0).trans (congrArg (x_aload 0) ((xe_g1 (kk := 111) rfl tl_11_93).trans (congrArg (x_g1 111 293) ((xe_iload 6).trans (congrArg (x_iload 6) ((xe_iload 7).trans (congrArg (x_iload 7) ((xe_ifCond .ge 154).trans (congrArg (x_ifCond .ge 154 K) ((xe_iconst (-1)).trans (congrArg (x_iconst (-1)) (xe_goto 170)))))))))))))))))))))))))))
theorem bk_X11_canEven_e_154 : ck_ fX11 (some .int) cX11_canEven 154 [.iload 5, .ifCond .ne 165, .iconst 1000, .goto 170] 165 = true := qck_r (nn_ _) (by decide +kernel)
theorem bs_X11_canEven_e_154 {P : Zt → Option Zv → Prop} (K : Int → Zl → List Zv → Zt → Prop) : sx_ K P [.iload 5, .ifCond .ne 165, .iconst 1000, .goto 170] 165 = x_iload 5 (x_ifCond .ne 165 K (x_iconst 1000 (x_goto 170 K))) := ((xe_iload 5).trans (congrArg (x_iload 5) ((xe_ifCond .ne 165).trans (congrArg (x_ifCond .ne 165 K) ((xe_iconst 1000).trans (congrArg (x_iconst 1000) (xe_goto 170)))))))
theorem bk_X11_canEven_e_165 : ck_ fX11 (some .int) cX11_canEven 165 [.iload 7, .iload 5, .idiv, .iastore, .iinc 6 1, .goto 103] 177 = true := qck_r (nn_ _) (by decide +kernel)
theorem bs_X11_canEven_e_165 {P : Zt → Option Zv → Prop} (K : Int → Zl → List Zv → Zt → Prop) : sx_ K P [.iload 7, .iload 5, .idiv, .iastore, .iinc 6 1, .goto 103] 177 = x_iload 7 (x_iload 5 (x_idiv (x_iastore (x_iinc 6 1 (x_goto 103 K))))) := ((xe_iload 7).trans (congrArg (x_iload 7) ((xe_iload 5).trans (congrArg (x_iload 5) ((xe_idiv).trans (congrArg (x_idiv) ((xe_iastore).trans (congrArg (x_iastore) ((xe_iinc 6 1).trans (congrArg (x_iinc 6 1) (xe_goto 103)))))))))))
theorem bk_X11_canEven_e_170 : ck_ fX11 (some .int) cX11_canEven 170 [.iastore, .iinc 6 1, .goto 103] 177 = true := qck_r (nn_ _) (by decide +kernel)
theorem bs_X11_canEven_e_170 {P : Zt → Option Zv → Prop} (K : Int → Zl → List Zv → Zt → Prop) : sx_ K P [.iastore, .iinc 6 1, .goto 103] 177 = x_iastore (x_iinc 6 1 (x_goto 103 K)) := ((xe_iastore).trans (congrArg (x_iastore) ((xe_iinc 6 1).trans (congrArg (x_iinc 6 1) (xe_goto 103)))))
theorem bk_X11_canEven_e_11 : ck_ fX11 (some .int) cX11_canEven 11 [.iload 5, .aload 0, .tableswitch 0 11 10 #[], .iload 1, .iaload, .aload 0, .tableswitch 0 11 11 #[], .iload 1, .iaload, .iadd, .if_icmp .ge 76, .iload 4, .aload 0, .iload 5] 34 = true := qck_r (nn_ _) (by decide +kernel)
theorem bs_X11_canEven_e_11 {P : Zt → Option Zv → Prop} (K : Int → Zl → List Zv → Zt → Prop) : sx_ K P [.iload 5, .aload 0, .tableswitch 0 11 10 #[], .iload 1, .iaload, .aload 0, .tableswitch 0 11 11 #[], .iload 1, .iaload, .iadd, .if_icmp .ge 76, .iload 4, .aload 0, .iload 5] 34 = x_iload 5 (x_aload 0 (x_g1 111 210 (x_iload 1 (x_iaload (x_aload 0 (x_g1 111 211 (x_iload 1 (x_iaload (x_iadd (x_if_icmp .ge 76 K (x_iload 4 (x_aload 0 (x_iload 5 (K 34)))))))))))))) := ((xe_iload 5).trans (congrArg (x_iload 5) ((xe_aload 0).trans (congrArg (x_aload 0) ((xe_g1 (kk := 111) rfl tl_11_10).trans (congrArg (x_g1 111 210) ((xe_iload 1).trans (congrArg (x_iload 1) ((xe_iaload).trans (congrArg (x_iaload) ((xe_aload 0).trans (congrArg (x_aload 0) ((xe_g1 (kk := 111) rfl tl_11_11).trans (congrArg (x_g1 111 211) ((xe_iload 1).trans (congrArg (x_iload 1) ((xe_iaload).trans (congrArg (x_iaload) ((xe_iadd).trans (congrArg (x_iadd) ((xe_if_icmp .ge 76).trans (congrArg (x_if_icmp .ge 76 K) ((xe_iload 4).trans (congrArg (x_iload 4) ((xe_aload 0).trans (congrArg (x_aload 0) ((xe_iload 5).trans (congrArg (x_iload 5) xe_nil))))))))))))))))))))))))))))
theorem bk_X11_canEven_e_76 : ck_ fX11 (some .int) cX11_canEven 76 [.iload 4, .iconst 40, .if_icmp .le 85, .iconst 2, .ireturn] 85 = true := qck_r (nn_ _) (by decide +kernel)
theorem bs_X11_canEven_e_76 {P : Zt → Option Zv → Prop} (K : Int → Zl → List Zv → Zt → Prop) : sx_ K P [.iload 4, .iconst 40, .if_icmp .le 85, .iconst 2, .ireturn] 85 = x_iload 4 (x_iconst 40 (x_if_icmp .le 85 K (x_iconst 2 (x_ireturn P)))) := ((xe_iload 4).trans (congrArg (x_iload 4) ((xe_iconst 40).trans (congrArg (x_iconst 40) ((xe_if_icmp .le 85).trans (congrArg (x_if_icmp .le 85 K) ((xe_iconst 2).trans (congrArg (x_iconst 2) (xe_ireturn)))))))))
theorem bk_X11_canEven_e_85 : ck_ fX11 (some .int) cX11_canEven 85 [.aload 0, .iload 1, .iconst 1] 88 = true := qck_r (nn_ _) (by decide +kernel)
theorem bs_X11_canEven_e_85 {P : Zt → Option Zv → Prop} (K : Int → Zl → List Zv → Zt → Prop) : sx_ K P [.aload 0, .iload 1, .iconst 1] 88 = x_aload 0 (x_iload 1 (x_iconst 1 (K 88))) := ((xe_aload 0).trans (congrArg (x_aload 0) ((xe_iload 1).trans (congrArg (x_iload 1) ((xe_iconst 1).trans (congrArg (x_iconst 1) xe_nil))))))
theorem bk_X11_canEven_e_91 : ck_ fX11 (some .int) cX11_canEven 91 [.aload 0, .iload 1, .iconst 2] 94 = true := qck_r (nn_ _) (by decide +kernel)
theorem bs_X11_canEven_e_91 {P : Zt → Option Zv → Prop} (K : Int → Zl → List Zv → Zt → Prop) : sx_ K P [.aload 0, .iload 1, .iconst 2] 94 = x_aload 0 (x_iload 1 (x_iconst 2 (K 94))) := ((xe_aload 0).trans (congrArg (x_aload 0) ((xe_iload 1).trans (congrArg (x_iload 1) ((xe_iconst 2).trans (congrArg (x_iconst 2) xe_nil))))))
theorem bk_X11_canEven_e_97 : ck_ fX11 (some .int) cX11_canEven 97 [.isub, .istore 5, .iconst 0, .istore 6] 103 = true := qck_r (nn_ _) (by decide +kernel)
theorem bs_X11_canEven_e_97 {P : Zt → Option Zv → Prop} (K : Int → Zl → List Zv → Zt → Prop) : sx_ K P [.isub, .istore 5, .iconst 0, .istore 6] 103 = x_isub (x_istore 5 (x_iconst 0 (x_istore 6 (K 103)))) := ((xe_isub).trans (congrArg (x_isub) ((xe_istore 5).trans (congrArg (x_istore 5) ((xe_iconst 0).trans (congrArg (x_iconst 0) ((xe_istore 6).trans (congrArg (x_istore 6) xe_nil))))))))
theorem bk_X11_canEven_e_37 : ck_ fX11 (some .int) cX11_canEven 37 [.ifCond .eq 66, .aload 0, .tableswitch 0 11 32 #[], .iload 5, .iaload, .iload 2, .if_icmp .eq 66, .aload 0, .tableswitch 0 11 33 #[], .iload 5, .iaload, .iload 2, .if_icmp .eq 66, .iconst 1, .goto 67] 66 = true := qck_r (nn_ _) (by decide +kernel)
theorem bs_X11_canEven_e_37 {P : Zt → Option Zv → Prop} (K : Int → Zl → List Zv → Zt → Prop) : sx_ K P [.ifCond .eq 66, .aload 0, .tableswitch 0 11 32 #[], .iload 5, .iaload, .iload 2, .if_icmp .eq 66, .aload 0, .tableswitch 0 11 33 #[], .iload 5, .iaload, .iload 2, .if_icmp .eq 66, .iconst 1, .goto 67] 66 = x_ifCond .eq 66 K (x_aload 0 (x_g1 111 232 (x_iload 5 (x_iaload (x_iload 2 (x_if_icmp .eq 66 K (x_aload 0 (x_g1 111 233 (x_iload 5 (x_iaload (x_iload 2 (x_if_icmp .eq 66 K (x_iconst 1 (x_goto 67 K)))))))))))))) := ((xe_ifCond .eq 66).trans (congrArg (x_ifCond .eq 66 K) ((xe_aload 0).trans (congrArg (x_aload 0) ((xe_g1 (kk := 111) rfl tl_11_32).trans (congrArg (x_g1 111 232) ((xe_iload 5).trans (congrArg (x_iload 5) ((xe_iaload).trans (congrArg (x_iaload) ((xe_iload 2).trans (congrArg (x_iload 2) ((xe_if_icmp .eq 66).trans (congrArg (x_if_icmp .eq 66 K) ((xe_aload 0).trans (congrArg (x_aload 0) ((xe_g1 (kk := 111) rfl tl_11_33).trans (congrArg (x_g1 111 233) ((xe_iload 5).trans (congrArg (x_iload 5) ((xe_iaload).trans (congrArg (x_iaload) ((xe_iload 2).trans (congrArg (x_iload 2) ((xe_if_icmp .eq 66).trans (congrArg (x_if_icmp .eq 66 K) ((xe_iconst 1).trans (congrArg (x_iconst 1) (xe_goto 67)))))))))))))))))))))))))))))
theorem bk_X11_canEven_e_66 : ck_ fX11 (some .int) cX11_canEven 66 [.iconst 0, .iadd, .istore 4, .iinc 5 1, .goto 11] 76 = true := qck_r (nn_ _) (by decide +kernel)
theorem bs_X11_canEven_e_66 {P : Zt → Option Zv → Prop} (K : Int → Zl → List Zv → Zt → Prop) : sx_ K P [.iconst 0, .iadd, .istore 4, .iinc 5 1, .goto 11] 76 = x_iconst 0 (x_iadd (x_istore 4 (x_iinc 5 1 (x_goto 11 K)))) := ((xe_iconst 0).trans (congrArg (x_iconst 0) ((xe_iadd).trans (congrArg (x_iadd) ((xe_istore 4).trans (congrArg (x_istore 4) ((xe_iinc 5 1).trans (congrArg (x_iinc 5 1) (xe_goto 11)))))))))
theorem bk_X11_canEven_e_67 : ck_ fX11 (some .int) cX11_canEven 67 [.iadd, .istore 4, .iinc 5 1, .goto 11] 76 = true := qck_r (nn_ _) (by decide +kernel)
theorem bs_X11_canEven_e_67 {P : Zt → Option Zv → Prop} (K : Int → Zl → List Zv → Zt → Prop) : sx_ K P [.iadd, .istore 4, .iinc 5 1, .goto 11] 76 = x_iadd (x_istore 4 (x_iinc 5 1 (x_goto 11 K))) := ((xe_iadd).trans (congrArg (x_iadd) ((xe_istore 4).trans (congrArg (x_istore 4) ((xe_iinc 5 1).trans (congrArg (x_iinc 5 1) (xe_goto 11)))))))
theorem bk_X11_canEven_e_0 : ck_ fX11 (some .int) cX11_canEven 0 [.iconst 0, .istore 4, .aload 0, .tableswitch 0 11 10 #[], .iload 1, .iaload, .istore 5] 11 = true := qck_r (nn_ _) (by decide +kernel)
theorem bs_X11_canEven_e_0 {P : Zt → Option Zv → Prop} (K : Int → Zl → List Zv → Zt → Prop) : sx_ K P [.iconst 0, .istore 4, .aload 0, .tableswitch 0 11 10 #[], .iload 1, .iaload, .istore 5] 11 = x_iconst 0 (x_istore 4 (x_aload 0 (x_g1 111 210 (x_iload 1 (x_iaload (x_istore 5 (K 11))))))) := ((xe_iconst 0).trans (congrArg (x_iconst 0) ((xe_istore 4).trans (congrArg (x_istore 4) ((xe_aload 0).trans (congrArg (x_aload 0) ((xe_g1 (kk := 111) rfl tl_11_10).trans (congrArg (x_g1 111 210) ((xe_iload 1).trans (congrArg (x_iload 1) ((xe_iaload).trans (congrArg (x_iaload) ((xe_istore 5).trans (congrArg (x_istore 5) xe_nil))))))))))))))
abbrev po_X11_canEven_e (T : Zt) (c cl o : Int) : Zt → Option Zv → Prop := fun T' r => ∃ x : Int, r = some (vI x) ∧ fr_ [(293, []), (294, []), (296, []), (289, []), (111, [90])] T T' ∧ ((0 ≤ x ∧ x ≤ 2) ∧ RE7_ T T' c cl o x)
set_option maxHeartbeats 4000000 in
theorem ct_X11_canEven_e {T : Zt} {c cl o : Int} (h1 : 0 ≤ c ∧ c < T 111 0 6) (hri : RI_ T) (hrw : RW_ T) (hml : ML_ T) (hO : 0 ≤ o ∧ o ≤ 4095) (hpb : PB6_ T) (hlb : LB_ T 1000) (hbe : -8000000 ≤ T 111 0 95 ∧ T 111 0 95 ≤ 8000000) (hna : ∀ j, T 210 0 c ≤ j → j < T 210 0 c + T 211 0 c → T 232 0 j ≠ T 233 0 j) : Ct_ yX11_canEven zX11_canEven T [vR 111 0, vI c, vI cl, vI o] (po_X11_canEven_e T c cl o) := by
  refine ct_of pn_11 rfl rfl (Nat.le_of_ble_eq_true rfl) (fun hT hav => ?_)
  have hr_c : -2147483648 ≤ c ∧ c ≤ 2147483647 := hav (vI c) (List.mem_cons_of_mem _ List.mem_cons_self)
  have hr_cl : -2147483648 ≤ cl ∧ cl ≤ 2147483647 := hav (vI cl) (List.mem_cons_of_mem _ (List.mem_cons_of_mem _ List.mem_cons_self))
  have hr_o : -2147483648 ≤ o ∧ o ≤ 2147483647 := hav (vI o) (List.mem_cons_of_mem _ (List.mem_cons_of_mem _ (List.mem_cons_of_mem _ List.mem_cons_self)))
  have hz : zX11_canEven.2.2.2.1 = some .boolean → ∀ (T' : Zt) (x : Int), po_X11_canEven_e T c cl o T' (some (vI x)) → 0 ≤ x ∧ x ≤ 1 := fun h => by cases h
  have hb_6 : 0 ≤ T 111 0 6 ∧ T 111 0 6 ≤ 4 := bd_f hT 111 6 tl_11_6 0
  have hmc := hml c (by omega) (by omega)
  have hb_29 : 0 ≤ T 111 0 29 ∧ T 111 0 29 ≤ 400 := bd_f hT 111 29 tl_11_29 0
  have hfo : 0 ≤ T 210 0 c ∧ T 210 0 c ≤ 400 := bd_a hT 210 (by decide +kernel : ta_ 210 = some (1, some 4, 0, 400)) 0 (by omega)
  have hmo : 0 ≤ T 211 0 c ∧ T 211 0 c ≤ 400 := bd_a hT 211 (by decide +kernel : ta_ 211 = some (1, some 4, 0, 400)) 0 (by omega)
  have hr1 : (0 : Int) ≤ T 205 0 (23 * c + 1) ∧ T 205 0 (23 * c + 1) ≤ (9 : Int) := hri c 1 (by omega) (by omega) (by omega) (by omega)
  have hr2 : (0 : Int) ≤ T 205 0 (23 * c + 2) ∧ T 205 0 (23 * c + 2) ≤ (9 : Int) := hri c 2 (by omega) (by omega) (by omega) (by omega)
  have hr3 : (0 : Int) ≤ T 205 0 (23 * c + 3) ∧ T 205 0 (23 * c + 3) ≤ (9 : Int) := hri c 3 (by omega) (by omega) (by omega) (by omega)
  have hrw1 := hrw c (by omega) (by omega)
  have hmh : ∀ j, T 210 0 c ≤ j → j < T 210 0 c + ((T 211 0 c).toNat : Int) → (0 ≤ T 232 0 j ∧ T 232 0 j ≤ 11) ∧ (0 ≤ T 233 0 j ∧ T 233 0 j ≤ 11) := by
    intro j a b
    have hu : 0 ≤ T 232 0 j ∧ T 232 0 j ≤ 11 := bd_a hT 232 (by decide +kernel : ta_ 232 = some (1, some 400, 0, 11)) 0 (by omega)
    have hv : 0 ≤ T 233 0 j ∧ T 233 0 j ≤ 11 := bd_a hT 233 (by decide +kernel : ta_ 233 = some (1, some 400, 0, 11)) 0 (by omega)
    exact ⟨hu, hv⟩
  show J_ zX11_canEven T (po_X11_canEven_e T c cl o) 0 0 0 [some (vR 111 0), some (vI c), some (vI cl), some (vI o), none, none, none, none, none] [] T
  have c_209 : ∀ (nn : Nat) (m : Int) (f0 : Nat → Int) (f2 : Nat → Int) (T2 : Zt), ((400 - m).toNat) ≤ nn → (fr_ [(293, []), (294, []), (296, []), (289, []), (111, [90])] T T2) → (T 210 0 c ≤ m ∧ m ≤ T 210 0 c + T 211 0 c) → (((plf_ T cl (T 211 0 c).toNat (T 210 0 c)).length : Int) ≤ 40) → (∀ k : Nat, k < 12 → f0 k = cp7_ T c (k : Int)) → (T2 111 0 90 = 0) → (T 205 0 (23 * c + 1) - T 205 0 (23 * c + 2) ≠ 0 → SX7_ T2 o (plf_ T cl (T 210 0 c + T 211 0 c - m).toNat (m)) f2) → (T 205 0 (23 * c + 1) - T 205 0 (23 * c + 2) = 0 → ∀ k : Nat, k < 12 → o.toNat.testBit k = true → 2 * ((plf_ T cl (T 210 0 c + T 211 0 c - m).toNat (m)).length : Int) ≤ f2 k) → (LC7_ T T2 o.toNat cl (T 210 0 c) m (plf_ T cl (T 211 0 c).toNat (T 210 0 c)) (plf_ T cl (T 210 0 c + T 211 0 c - m).toNat (m)) f0 f2) → (OW7_ T T2 cl (T 210 0 c) m) → (∀ k : Nat, k < 12 → o.toNat.testBit k = true → 0 ≤ f0 k) → J_ zX11_canEven T (po_X11_canEven_e T c cl o) 0 0 209 [some (vR 111 0), some (vI c), some (vI cl), some (vI o), none, some (vI (T 205 0 (23 * c + 1) - T 205 0 (23 * c + 2))), some (vI m), none, none] [] T2 := by
    intro nn
    induction nn using Nat.strongRecOn with
    | _ nn ih_209 =>
      intro m f0 f2 T2 hm_209 hf_209 i2 hl40 hf0 cb2 sx2 sb2 lx2 ow2 p02
      replace hm_209 := fun (_ : Unit) => hm_209
      have hmw := hf_209 235 0 m rfl
      refine j_blx (F := fX11) tb_X11 (nn_ _) bk_X11_canEven_e_209 bs_X11_canEven_e_209 hz (fun K hK => ?_)
      refine ix_i (by omega) ?_
      intro b1 b1b
      have e2 : T2 210 0 c = T 210 0 c := hf_209 210 0 c rfl
      rw [e2] at b1 b1b ⊢
      refine ix_i (by omega) ?_
      intro b3 b3b
      have e4 : T2 211 0 c = T 211 0 c := hf_209 211 0 c rfl
      rw [e4] at b3 b3b ⊢
      refine rg_i (by omega) ?_
      refine And.intro (fun c5 => ?_) (fun c5 => ?_)
      · refine hK 328 _ [] T2 ?_
        refine j_blx (F := fX11) tb_X11 (nn_ _) bk_X11_canEven_e_328 bs_X11_canEven_e_328 hz (fun K hK => ?_)
        refine (show po_X11_canEven_e T c cl o T2 (some (vI 1)) from ?_)
        have em : m = T 210 0 c + T 211 0 c := by omega
        rw [em] at lx2 ow2
        have h9 := lx2 [] (by rw [show (T 210 0 c + T 211 0 c - (T 210 0 c + T 211 0 c)).toNat = 0 by omega]; rfl)
        rw [List.append_nil, show T 210 0 c + T 211 0 c - T 210 0 c = T 211 0 c by omega] at h9
        exact ⟨_, rfl, fr_t (fr_0 _ _) (fr_s hf_209 rfl), by omega, f0, hf0, Or.inr ⟨hl40, Or.inr ⟨rfl, cb2, h9, ow2, p02⟩⟩⟩
      · have eR : (plf_ T cl (T 210 0 c + T 211 0 c - m).toNat (m)) = (if ((T 235 0 m = 0 ∨ T 235 0 m = 1) ∧ T 232 0 m ≠ cl ∧ T 233 0 m ≠ cl ∧ T 232 0 m ≠ T 233 0 m) then [((T 232 0 m).toNat, (T 233 0 m).toNat)] else []) ++ (plf_ T cl (T 210 0 c + T 211 0 c - (m + 1)).toNat ((m + 1))) := by
          rw [show (T 210 0 c + T 211 0 c - m).toNat = (T 210 0 c + T 211 0 c - (m + 1)).toNat + 1 by omega]; rfl
        have hnm := hna m (by omega) (by omega)
        have hln : ∀ p ∈ (plf_ T cl (T 210 0 c + T 211 0 c - (m + 1)).toNat ((m + 1))), p.1 < 12 ∧ p.2 < 12 := fun p hp => (plf_b _ _ (fun j a b => hmh j (by omega) (by omega)) p hp).2
        refine ix_i (by omega) ?_
        intro b6 b6b
        have e7 : T2 232 0 m = T 232 0 m := hf_209 232 0 m rfl
        rw [e7] at b6 b6b ⊢
        refine ix_i (by omega) ?_
        intro b8 b8b
        have e9 : T2 233 0 m = T 233 0 m := hf_209 233 0 m rfl
        rw [e9] at b8 b8b ⊢
        refine hK 248 [some (vR 111 0), some (vI c), some (vI cl), some (vI o), none, some (vI (T 205 0 (23 * c + 1) - T 205 0 (23 * c + 2))), some (vI m), some (vI (T 232 0 m)), some (vI (T 233 0 m))] [vI m, vR 111 0] T2 ?_
        refine j_callV (y := yX11_isLeft) (Yc := zX11_isLeft) (rest := []) [vI m] (ct_X11_isLeft (T := T2) (by omega)) cl_X11_538 (qd_c (by decide +kernel)) (nn_ _) rfl (rf_of rfl) (Nat.le_of_ble_eq_true rfl) (Nat.le_of_ble_eq_true rfl) (Nat.le_of_ble_eq_true rfl) rfl ?_
        rintro _ _ ⟨rfl, x10, rfl, hx10⟩
        show J_ zX11_canEven T (po_X11_canEven_e T c cl o) 0 0 251 _ [vI x10] T2
        refine j_blx (F := fX11) tb_X11 (nn_ _) bk_X11_canEven_e_251 bs_X11_canEven_e_251 hz (fun K hK => ?_)
        refine And.intro (fun c11 => ?_) (fun c11 => ?_)
        · replace hx10 := hx10.resolve_left (fun z => absurd (c11.symm.trans z.1) (by decide))
          clear c11
          refine hK 287 _ [] T2 ?_
          refine j_blx (F := fX11) tb_X11 (nn_ _) bk_X11_canEven_e_287 bs_X11_canEven_e_287 hz (fun K hK => ?_)
          refine hK 290 _ [vI m, vR 111 0] T2 ?_
          refine j_callV (y := yX11_isLeft) (Yc := zX11_isLeft) (rest := []) [vI m] (ct_X11_isLeft (T := T2) (by omega)) cl_X11_538 (qd_c (by decide +kernel)) (nn_ _) rfl (rf_of rfl) (Nat.le_of_ble_eq_true rfl) (Nat.le_of_ble_eq_true rfl) (Nat.le_of_ble_eq_true rfl) rfl ?_
          rintro _ _ ⟨rfl, x12, rfl, hx12⟩
          show J_ zX11_canEven T (po_X11_canEven_e T c cl o) 0 0 293 _ [vI x12] T2
          refine j_blx (F := fX11) tb_X11 (nn_ _) bk_X11_canEven_e_293 bs_X11_canEven_e_293 hz (fun K hK => ?_)
          refine And.intro (fun c13 => ?_) (fun c13 => ?_)
          · replace hx12 := hx12.resolve_left (fun z => absurd (c13.symm.trans z.1) (by decide))
            clear c13
            refine hK 322 _ [] T2 ?_
            refine j_blx (F := fX11) tb_X11 (nn_ _) bk_X11_canEven_e_322 bs_X11_canEven_e_322 hz (fun K hK => ?_)
            refine rg_i (by omega) ?_
            refine hK 209 [some (vR 111 0), some (vI c), some (vI cl), some (vI o), none, some (vI (T 205 0 (23 * c + 1) - T 205 0 (23 * c + 2))), some (vI (m + 1)), some (vI (T 232 0 m)), some (vI (T 233 0 m))] [] T2 ?_
            refine j_drq [some (vR 111 0), some (vI c), some (vI cl), some (vI o), none, some (vI (T 205 0 (23 * c + 1) - T 205 0 (23 * c + 2))), some (vI (m + 1)), none, none] (drq_s (drq_s (drq_s (drq_s (drq_n (drq_s (drq_s (drq_n (drq_n drq_0))))))))) ?_
            refine ih_209 _ ?_ (m + 1) f0 f2 T2 (Nat.le_refl _) ?_ ?_ ?_ ?_ ?_ ?_ ?_ ?_ ?_ ?_
            · have hm_209 := hm_209 (); omega
            · exact fr_t (fr_0 _ _) (fr_s hf_209 rfl)
            · omega
            · exact hl40
            · exact hf0
            · exact cb2
            · intro z
              have h9 := sx2 z
              rw [eR, if_neg (by omega), List.nil_append] at h9
              exact sx7_e h9 (fun j => rfl)
            · intro z k hk hb
              have y := sb2 z k hk hb
              rw [eR, if_neg (by omega), List.nil_append] at y
              exact y
            · have h9 := lx2
              rw [eR, if_neg (by omega), List.nil_append] at h9
              exact lc7_n h9 (by omega) (by omega) (fun _ _ _ => rfl)
            · exact ow7_n ow2 (by omega) (fun j => rfl)
            · exact p02
          · replace hx12 := hx12.resolve_right (fun z => c13 z.1)
            clear c13
            refine And.intro (fun c14 => ?_) (fun c14 => ?_)
            · refine hK 317 [some (vR 111 0), some (vI c), some (vI cl), some (vI o), none, some (vI (T 205 0 (23 * c + 1) - T 205 0 (23 * c + 2))), some (vI m), some (vI (T 232 0 m)), some (vI (T 233 0 m))] [vI (T 233 0 m), vI (T 232 0 m), vI o, vR 111 0, vI m, vR 289 0] T2 ?_
              refine j_blx (F := fX11) tb_X11 (nn_ _) bk_X11_canEven_e_317 bs_X11_canEven_e_317 hz (fun K hK => ?_)
              refine hK 318 _ [vI 0, vI (T 233 0 m), vI (T 232 0 m), vI o, vR 111 0, vI m, vR 289 0] T2 ?_
              refine j_callV (y := yX11_settle) (Yc := zX11_settle) (rest := [vI m, vR 289 0]) [vI o, vI (T 232 0 m), vI (T 233 0 m), vI 0] (ct_X11_settle_e (T := T2) (l := (plf_ T cl (T 210 0 c + T 211 0 c - (m + 1)).toNat ((m + 1)))) hO (by omega) (by omega) (by decide) (fun _ => ⟨fun ne => (by have h9 := sx2 (by omega); rw [eR, if_pos ⟨by omega, by omega, by omega, ne⟩] at h9; exact sx7_v (sx7_e h9 (fun _ => rfl))), fun eq => absurd eq (hna m (by omega) (by omega))⟩) (hna m (by omega) (by omega))) cl_X11_557 (qd_c (by decide +kernel)) (nn_ _) rfl (rf_of rfl) (Nat.le_of_ble_eq_true rfl) (Nat.le_of_ble_eq_true rfl) (Nat.le_of_ble_eq_true rfl) rfl ?_
              rintro U15 _ ⟨x16, rfl, fU15, qU15⟩
              have b17 := qU15.1
              show J_ zX11_canEven T (po_X11_canEven_e T c cl o) 0 0 321 _ [vI x16, vI m, vR 289 0] U15
              refine j_blx (F := fX11) tb_X11 (nn_ _) bk_X11_canEven_e_321 bs_X11_canEven_e_321 hz (fun K hK => ?_)
              refine iy_i (by omega) (by omega) ?_
              refine x_nm (fun U18 hU18 => ?_)
              have e19 := up_f hU18
              refine rg_i (by omega) ?_
              refine hK 209 [some (vR 111 0), some (vI c), some (vI cl), some (vI o), none, some (vI (T 205 0 (23 * c + 1) - T 205 0 (23 * c + 2))), some (vI (m + 1)), some (vI (T 232 0 m)), some (vI (T 233 0 m))] [] U18 ?_
              refine j_drq [some (vR 111 0), some (vI c), some (vI cl), some (vI o), none, some (vI (T 205 0 (23 * c + 1) - T 205 0 (23 * c + 2))), some (vI (m + 1)), none, none] (drq_s (drq_s (drq_s (drq_s (drq_n (drq_s (drq_s (drq_n (drq_n drq_0))))))))) ?_
              have e20 : U18 111 0 90 = T2 111 0 90 := (up_k hU18 (by exact Nat.ne_of_beq_eq_false rfl) 0 90).trans (fU15 111 0 90 rfl)
              refine ih_209 _ ?_ (m + 1) f0 (fw2_ f2 (T 232 0 m).toNat (T 233 0 m).toNat x16) U18 (Nat.le_refl _) ?_ ?_ ?_ ?_ ?_ ?_ ?_ ?_ ?_ ?_
              · have hm_209 := hm_209 (); omega
              · exact fr_u (fr_t (fr_t (fr_0 _ _) (fr_s hf_209 rfl)) (fr_s fU15 rfl)) hU18 rfl
              · omega
              · exact hl40
              · exact hf0
              · exact ((up_k hU18 (by exact Nat.ne_of_beq_eq_false rfl) 0 90).trans (fU15 111 0 90 rfl)).trans cb2
              · intro z
                have h9 := sx2 z
                rw [eR, if_pos (by omega)] at h9
                have h8 := sx7_e (T1 := T2) h9 (fun _ => rfl)
                have y := qU15.2.1 (by first | rfl | omega)
                exact sx7_e (sx7_s h8 (by omega) (by omega) qU15.1 y.1 y.2.2) (fun j => up_k hU18 (by exact Nat.ne_of_beq_eq_false rfl) 0 j)
              · intro z; omega
              · have g9 := sx2 (by omega)
                rw [eR, if_pos (by omega)] at g9
                have g8 := sx7_e (T1 := T2) g9 (fun _ => rfl)
                have y := qU15.2.1 (by first | rfl | omega)
                have h9 := lx2
                rw [eR, if_pos (by omega)] at h9
                exact lc7_s h9 (by omega) (by omega) (fun j a b => (up_g hU18 (fun q => by omega)).trans (fU15 289 0 j rfl)) (up_f hU18) qU15.1 (sx7_w hO g8 hln (by omega) (by omega) y.1) (fun u a b => sx7_n hO g8 hln (by omega) (by omega) (y.2.1 u a b))
              · exact ow7_s ow2 (by omega) (by omega) (fun j z => (up_g hU18 (fun q => z q.2.2)).trans (fU15 289 0 j rfl)) (up_f hU18) ⟨fun z => by omega, fun z1 z2 => by omega⟩
              · exact p02
            · refine hK 318 [some (vR 111 0), some (vI c), some (vI cl), some (vI o), none, some (vI (T 205 0 (23 * c + 1) - T 205 0 (23 * c + 2))), some (vI m), some (vI (T 232 0 m)), some (vI (T 233 0 m))] [vI 1, vI (T 233 0 m), vI (T 232 0 m), vI o, vR 111 0, vI m, vR 289 0] T2 ?_
              refine j_callV (y := yX11_settle) (Yc := zX11_settle) (rest := [vI m, vR 289 0]) [vI o, vI (T 232 0 m), vI (T 233 0 m), vI 1] (ct_X11_settle_e (T := T2) (l := (plf_ T cl (T 210 0 c + T 211 0 c - (m + 1)).toNat ((m + 1)))) hO (by omega) (by omega) (by decide) (fun z => absurd z (by decide)) (hna m (by omega) (by omega))) cl_X11_557 (qd_c (by decide +kernel)) (nn_ _) rfl (rf_of rfl) (Nat.le_of_ble_eq_true rfl) (Nat.le_of_ble_eq_true rfl) (Nat.le_of_ble_eq_true rfl) rfl ?_
              rintro U21 _ ⟨x22, rfl, fU21, qU21⟩
              have b23 := qU21.1
              show J_ zX11_canEven T (po_X11_canEven_e T c cl o) 0 0 321 _ [vI x22, vI m, vR 289 0] U21
              refine j_blx (F := fX11) tb_X11 (nn_ _) bk_X11_canEven_e_321 bs_X11_canEven_e_321 hz (fun K hK => ?_)
              refine iy_i (by omega) (by omega) ?_
              refine x_nm (fun U24 hU24 => ?_)
              have e25 := up_f hU24
              refine rg_i (by omega) ?_
              refine hK 209 [some (vR 111 0), some (vI c), some (vI cl), some (vI o), none, some (vI (T 205 0 (23 * c + 1) - T 205 0 (23 * c + 2))), some (vI (m + 1)), some (vI (T 232 0 m)), some (vI (T 233 0 m))] [] U24 ?_
              refine j_drq [some (vR 111 0), some (vI c), some (vI cl), some (vI o), none, some (vI (T 205 0 (23 * c + 1) - T 205 0 (23 * c + 2))), some (vI (m + 1)), none, none] (drq_s (drq_s (drq_s (drq_s (drq_n (drq_s (drq_s (drq_n (drq_n drq_0))))))))) ?_
              have e26 : U24 111 0 90 = T2 111 0 90 := (up_k hU24 (by exact Nat.ne_of_beq_eq_false rfl) 0 90).trans (fU21 111 0 90 rfl)
              refine ih_209 _ ?_ (m + 1) f0 (fw2_ f2 (T 232 0 m).toNat (T 233 0 m).toNat x22) U24 (Nat.le_refl _) ?_ ?_ ?_ ?_ ?_ ?_ ?_ ?_ ?_ ?_
              · have hm_209 := hm_209 (); omega
              · exact fr_u (fr_t (fr_t (fr_0 _ _) (fr_s hf_209 rfl)) (fr_s fU21 rfl)) hU24 rfl
              · omega
              · exact hl40
              · exact hf0
              · exact ((up_k hU24 (by exact Nat.ne_of_beq_eq_false rfl) 0 90).trans (fU21 111 0 90 rfl)).trans cb2
              · intro z; omega
              · intro z k hk hb
                have y := sb2 z k hk hb
                rw [eR, if_pos (by omega), List.length_append, List.length_cons, List.length_nil] at y
                rw [qU21.2.2 (by decide)]
                exact fw7_g (by omega)
              · have h9 := lx2
                rw [eR, if_pos (by omega)] at h9
                exact lc7_s h9 (by omega) (by omega) (fun j a b => (up_g hU24 (fun q => by omega)).trans (fU21 289 0 j rfl)) (up_f hU24) qU21.1 (fe7_g _ _ (fun k hk hb => by
                  have y := sb2 (by omega) k hk hb
                  rw [eR, if_pos (by omega), List.length_append, List.length_cons, List.length_nil] at y
                  rw [qU21.2.2 (by decide)]
                  exact fw7_g (by omega))) (fun u a b => absurd b (by rw [qU21.2.2 (by decide)]; omega))
              · exact ow7_s ow2 (by omega) (by omega) (fun j z => (up_g hU24 (fun q => z q.2.2)).trans (fU21 289 0 j rfl)) (up_f hU24) ⟨fun z => by omega, fun z1 z2 => by omega⟩
              · exact p02
        · replace hx10 := hx10.resolve_right (fun z => c11 z.1)
          clear c11
          refine And.intro (fun c27 => ?_) (fun c27 => ?_)
          · refine hK 266 _ [] T2 ?_
            refine j_blx (F := fX11) tb_X11 (nn_ _) bk_X11_canEven_e_266 bs_X11_canEven_e_266 hz (fun K hK => ?_)
            refine And.intro (fun c28 => ?_) (fun c28 => ?_)
            · refine hK 282 _ [vI m, vR 289 0] T2 ?_
              refine j_blx (F := fX11) tb_X11 (nn_ _) bk_X11_canEven_e_282 bs_X11_canEven_e_282 hz (fun K hK => ?_)
              refine iy_i (by omega) (by omega) ?_
              refine x_nm (fun U29 hU29 => ?_)
              have e30 := up_f hU29
              refine hK 322 _ [] U29 ?_
              refine j_blx (F := fX11) tb_X11 (nn_ _) bk_X11_canEven_e_322 bs_X11_canEven_e_322 hz (fun K hK => ?_)
              refine rg_i (by omega) ?_
              refine hK 209 [some (vR 111 0), some (vI c), some (vI cl), some (vI o), none, some (vI (T 205 0 (23 * c + 1) - T 205 0 (23 * c + 2))), some (vI (m + 1)), some (vI (T 232 0 m)), some (vI (T 233 0 m))] [] U29 ?_
              refine j_drq [some (vR 111 0), some (vI c), some (vI cl), some (vI o), none, some (vI (T 205 0 (23 * c + 1) - T 205 0 (23 * c + 2))), some (vI (m + 1)), none, none] (drq_s (drq_s (drq_s (drq_s (drq_n (drq_s (drq_s (drq_n (drq_n drq_0))))))))) ?_
              have e31 : U29 111 0 90 = T2 111 0 90 := up_k hU29 (by exact Nat.ne_of_beq_eq_false rfl) 0 90
              refine ih_209 _ ?_ (m + 1) f0 f2 U29 (Nat.le_refl _) ?_ ?_ ?_ ?_ ?_ ?_ ?_ ?_ ?_ ?_
              · have hm_209 := hm_209 (); omega
              · exact fr_u (fr_t (fr_0 _ _) (fr_s hf_209 rfl)) hU29 rfl
              · omega
              · exact hl40
              · exact hf0
              · exact (up_k hU29 (by exact Nat.ne_of_beq_eq_false rfl) 0 90).trans cb2
              · intro z
                have h9 := sx2 z
                rw [eR, if_neg (by omega), List.nil_append] at h9
                exact sx7_e h9 (fun j => up_k hU29 (by exact Nat.ne_of_beq_eq_false rfl) 0 j)
              · intro z k hk hb
                have y := sb2 z k hk hb
                rw [eR, if_neg (by omega), List.nil_append] at y
                exact y
              · have h9 := lx2
                rw [eR, if_neg (by omega), List.nil_append] at h9
                exact lc7_n h9 (by omega) (by omega) (fun j a b => (up_g hU29 (fun q => by omega)).trans (rfl))
              · exact ow7_s ow2 (by omega) (by omega) (fun j z => (up_g hU29 (fun q => z q.2.2)).trans (rfl)) (up_f hU29) ⟨fun z => by omega, fun z1 z2 => by omega⟩
              · exact p02
            · refine hK 283 [some (vR 111 0), some (vI c), some (vI cl), some (vI o), none, some (vI (T 205 0 (23 * c + 1) - T 205 0 (23 * c + 2))), some (vI m), some (vI (T 232 0 m)), some (vI (T 233 0 m))] [vI 0, vI m, vR 289 0] T2 ?_
              refine j_blx (F := fX11) tb_X11 (nn_ _) bk_X11_canEven_e_283 bs_X11_canEven_e_283 hz (fun K hK => ?_)
              refine iy_i (by omega) (by omega) ?_
              refine x_nm (fun U32 hU32 => ?_)
              have e33 := up_f hU32
              refine hK 322 _ [] U32 ?_
              refine j_blx (F := fX11) tb_X11 (nn_ _) bk_X11_canEven_e_322 bs_X11_canEven_e_322 hz (fun K hK => ?_)
              refine rg_i (by omega) ?_
              refine hK 209 [some (vR 111 0), some (vI c), some (vI cl), some (vI o), none, some (vI (T 205 0 (23 * c + 1) - T 205 0 (23 * c + 2))), some (vI (m + 1)), some (vI (T 232 0 m)), some (vI (T 233 0 m))] [] U32 ?_
              refine j_drq [some (vR 111 0), some (vI c), some (vI cl), some (vI o), none, some (vI (T 205 0 (23 * c + 1) - T 205 0 (23 * c + 2))), some (vI (m + 1)), none, none] (drq_s (drq_s (drq_s (drq_s (drq_n (drq_s (drq_s (drq_n (drq_n drq_0))))))))) ?_
              have e34 : U32 111 0 90 = T2 111 0 90 := up_k hU32 (by exact Nat.ne_of_beq_eq_false rfl) 0 90
              refine ih_209 _ ?_ (m + 1) f0 f2 U32 (Nat.le_refl _) ?_ ?_ ?_ ?_ ?_ ?_ ?_ ?_ ?_ ?_
              · have hm_209 := hm_209 (); omega
              · exact fr_u (fr_t (fr_0 _ _) (fr_s hf_209 rfl)) hU32 rfl
              · omega
              · exact hl40
              · exact hf0
              · exact (up_k hU32 (by exact Nat.ne_of_beq_eq_false rfl) 0 90).trans cb2
              · intro z
                have h9 := sx2 z
                rw [eR, if_neg (by omega), List.nil_append] at h9
                exact sx7_e h9 (fun j => up_k hU32 (by exact Nat.ne_of_beq_eq_false rfl) 0 j)
              · intro z k hk hb
                have y := sb2 z k hk hb
                rw [eR, if_neg (by omega), List.nil_append] at y
                exact y
              · have h9 := lx2
                rw [eR, if_neg (by omega), List.nil_append] at h9
                exact lc7_n h9 (by omega) (by omega) (fun j a b => (up_g hU32 (fun q => by omega)).trans (rfl))
              · exact ow7_s ow2 (by omega) (by omega) (fun j z => (up_g hU32 (fun q => z q.2.2)).trans (rfl)) (up_f hU32) ⟨fun z => by omega, fun z1 z2 => by omega⟩
              · exact p02
          · refine And.intro (fun c35 => ?_) (fun c35 => ?_)
            · refine hK 287 _ [] T2 ?_
              refine j_blx (F := fX11) tb_X11 (nn_ _) bk_X11_canEven_e_287 bs_X11_canEven_e_287 hz (fun K hK => ?_)
              refine hK 290 _ [vI m, vR 111 0] T2 ?_
              refine j_callV (y := yX11_isLeft) (Yc := zX11_isLeft) (rest := []) [vI m] (ct_X11_isLeft (T := T2) (by omega)) cl_X11_538 (qd_c (by decide +kernel)) (nn_ _) rfl (rf_of rfl) (Nat.le_of_ble_eq_true rfl) (Nat.le_of_ble_eq_true rfl) (Nat.le_of_ble_eq_true rfl) rfl ?_
              rintro _ _ ⟨rfl, x36, rfl, hx36⟩
              show J_ zX11_canEven T (po_X11_canEven_e T c cl o) 0 0 293 _ [vI x36] T2
              refine j_blx (F := fX11) tb_X11 (nn_ _) bk_X11_canEven_e_293 bs_X11_canEven_e_293 hz (fun K hK => ?_)
              refine And.intro (fun c37 => ?_) (fun c37 => ?_)
              · replace hx36 := hx36.resolve_left (fun z => absurd (c37.symm.trans z.1) (by decide))
                clear c37
                refine hK 322 _ [] T2 ?_
                refine j_blx (F := fX11) tb_X11 (nn_ _) bk_X11_canEven_e_322 bs_X11_canEven_e_322 hz (fun K hK => ?_)
                refine rg_i (by omega) ?_
                refine hK 209 [some (vR 111 0), some (vI c), some (vI cl), some (vI o), none, some (vI (T 205 0 (23 * c + 1) - T 205 0 (23 * c + 2))), some (vI (m + 1)), some (vI (T 232 0 m)), some (vI (T 233 0 m))] [] T2 ?_
                refine j_drq [some (vR 111 0), some (vI c), some (vI cl), some (vI o), none, some (vI (T 205 0 (23 * c + 1) - T 205 0 (23 * c + 2))), some (vI (m + 1)), none, none] (drq_s (drq_s (drq_s (drq_s (drq_n (drq_s (drq_s (drq_n (drq_n drq_0))))))))) ?_
                refine ih_209 _ ?_ (m + 1) f0 f2 T2 (Nat.le_refl _) ?_ ?_ ?_ ?_ ?_ ?_ ?_ ?_ ?_ ?_
                · have hm_209 := hm_209 (); omega
                · exact fr_t (fr_0 _ _) (fr_s hf_209 rfl)
                · omega
                · exact hl40
                · exact hf0
                · exact cb2
                · intro z
                  have h9 := sx2 z
                  rw [eR, if_neg (by omega), List.nil_append] at h9
                  exact sx7_e h9 (fun j => rfl)
                · intro z k hk hb
                  have y := sb2 z k hk hb
                  rw [eR, if_neg (by omega), List.nil_append] at y
                  exact y
                · have h9 := lx2
                  rw [eR, if_neg (by omega), List.nil_append] at h9
                  exact lc7_n h9 (by omega) (by omega) (fun _ _ _ => rfl)
                · exact ow7_n ow2 (by omega) (fun j => rfl)
                · exact p02
              · replace hx36 := hx36.resolve_right (fun z => c37 z.1)
                clear c37
                refine And.intro (fun c38 => ?_) (fun c38 => ?_)
                · refine hK 317 [some (vR 111 0), some (vI c), some (vI cl), some (vI o), none, some (vI (T 205 0 (23 * c + 1) - T 205 0 (23 * c + 2))), some (vI m), some (vI (T 232 0 m)), some (vI (T 233 0 m))] [vI (T 233 0 m), vI (T 232 0 m), vI o, vR 111 0, vI m, vR 289 0] T2 ?_
                  refine j_blx (F := fX11) tb_X11 (nn_ _) bk_X11_canEven_e_317 bs_X11_canEven_e_317 hz (fun K hK => ?_)
                  refine hK 318 _ [vI 0, vI (T 233 0 m), vI (T 232 0 m), vI o, vR 111 0, vI m, vR 289 0] T2 ?_
                  refine j_callV (y := yX11_settle) (Yc := zX11_settle) (rest := [vI m, vR 289 0]) [vI o, vI (T 232 0 m), vI (T 233 0 m), vI 0] (ct_X11_settle_e (T := T2) (l := (plf_ T cl (T 210 0 c + T 211 0 c - (m + 1)).toNat ((m + 1)))) hO (by omega) (by omega) (by decide) (fun _ => ⟨fun ne => (by have h9 := sx2 (by omega); rw [eR, if_pos ⟨by omega, by omega, by omega, ne⟩] at h9; exact sx7_v (sx7_e h9 (fun _ => rfl))), fun eq => absurd eq (hna m (by omega) (by omega))⟩) (hna m (by omega) (by omega))) cl_X11_557 (qd_c (by decide +kernel)) (nn_ _) rfl (rf_of rfl) (Nat.le_of_ble_eq_true rfl) (Nat.le_of_ble_eq_true rfl) (Nat.le_of_ble_eq_true rfl) rfl ?_
                  rintro U39 _ ⟨x40, rfl, fU39, qU39⟩
                  have b41 := qU39.1
                  show J_ zX11_canEven T (po_X11_canEven_e T c cl o) 0 0 321 _ [vI x40, vI m, vR 289 0] U39
                  refine j_blx (F := fX11) tb_X11 (nn_ _) bk_X11_canEven_e_321 bs_X11_canEven_e_321 hz (fun K hK => ?_)
                  refine iy_i (by omega) (by omega) ?_
                  refine x_nm (fun U42 hU42 => ?_)
                  have e43 := up_f hU42
                  refine rg_i (by omega) ?_
                  refine hK 209 [some (vR 111 0), some (vI c), some (vI cl), some (vI o), none, some (vI (T 205 0 (23 * c + 1) - T 205 0 (23 * c + 2))), some (vI (m + 1)), some (vI (T 232 0 m)), some (vI (T 233 0 m))] [] U42 ?_
                  refine j_drq [some (vR 111 0), some (vI c), some (vI cl), some (vI o), none, some (vI (T 205 0 (23 * c + 1) - T 205 0 (23 * c + 2))), some (vI (m + 1)), none, none] (drq_s (drq_s (drq_s (drq_s (drq_n (drq_s (drq_s (drq_n (drq_n drq_0))))))))) ?_
                  have e44 : U42 111 0 90 = T2 111 0 90 := (up_k hU42 (by exact Nat.ne_of_beq_eq_false rfl) 0 90).trans (fU39 111 0 90 rfl)
                  refine ih_209 _ ?_ (m + 1) f0 (fw2_ f2 (T 232 0 m).toNat (T 233 0 m).toNat x40) U42 (Nat.le_refl _) ?_ ?_ ?_ ?_ ?_ ?_ ?_ ?_ ?_ ?_
                  · have hm_209 := hm_209 (); omega
                  · exact fr_u (fr_t (fr_t (fr_0 _ _) (fr_s hf_209 rfl)) (fr_s fU39 rfl)) hU42 rfl
                  · omega
                  · exact hl40
                  · exact hf0
                  · exact ((up_k hU42 (by exact Nat.ne_of_beq_eq_false rfl) 0 90).trans (fU39 111 0 90 rfl)).trans cb2
                  · intro z
                    have h9 := sx2 z
                    rw [eR, if_pos (by omega)] at h9
                    have h8 := sx7_e (T1 := T2) h9 (fun _ => rfl)
                    have y := qU39.2.1 (by first | rfl | omega)
                    exact sx7_e (sx7_s h8 (by omega) (by omega) qU39.1 y.1 y.2.2) (fun j => up_k hU42 (by exact Nat.ne_of_beq_eq_false rfl) 0 j)
                  · intro z; omega
                  · have g9 := sx2 (by omega)
                    rw [eR, if_pos (by omega)] at g9
                    have g8 := sx7_e (T1 := T2) g9 (fun _ => rfl)
                    have y := qU39.2.1 (by first | rfl | omega)
                    have h9 := lx2
                    rw [eR, if_pos (by omega)] at h9
                    exact lc7_s h9 (by omega) (by omega) (fun j a b => (up_g hU42 (fun q => by omega)).trans (fU39 289 0 j rfl)) (up_f hU42) qU39.1 (sx7_w hO g8 hln (by omega) (by omega) y.1) (fun u a b => sx7_n hO g8 hln (by omega) (by omega) (y.2.1 u a b))
                  · exact ow7_s ow2 (by omega) (by omega) (fun j z => (up_g hU42 (fun q => z q.2.2)).trans (fU39 289 0 j rfl)) (up_f hU42) ⟨fun z => by omega, fun z1 z2 => by omega⟩
                  · exact p02
                · refine hK 318 [some (vR 111 0), some (vI c), some (vI cl), some (vI o), none, some (vI (T 205 0 (23 * c + 1) - T 205 0 (23 * c + 2))), some (vI m), some (vI (T 232 0 m)), some (vI (T 233 0 m))] [vI 1, vI (T 233 0 m), vI (T 232 0 m), vI o, vR 111 0, vI m, vR 289 0] T2 ?_
                  refine j_callV (y := yX11_settle) (Yc := zX11_settle) (rest := [vI m, vR 289 0]) [vI o, vI (T 232 0 m), vI (T 233 0 m), vI 1] (ct_X11_settle_e (T := T2) (l := (plf_ T cl (T 210 0 c + T 211 0 c - (m + 1)).toNat ((m + 1)))) hO (by omega) (by omega) (by decide) (fun z => absurd z (by decide)) (hna m (by omega) (by omega))) cl_X11_557 (qd_c (by decide +kernel)) (nn_ _) rfl (rf_of rfl) (Nat.le_of_ble_eq_true rfl) (Nat.le_of_ble_eq_true rfl) (Nat.le_of_ble_eq_true rfl) rfl ?_
                  rintro U45 _ ⟨x46, rfl, fU45, qU45⟩
                  have b47 := qU45.1
                  show J_ zX11_canEven T (po_X11_canEven_e T c cl o) 0 0 321 _ [vI x46, vI m, vR 289 0] U45
                  refine j_blx (F := fX11) tb_X11 (nn_ _) bk_X11_canEven_e_321 bs_X11_canEven_e_321 hz (fun K hK => ?_)
                  refine iy_i (by omega) (by omega) ?_
                  refine x_nm (fun U48 hU48 => ?_)
                  have e49 := up_f hU48
                  refine rg_i (by omega) ?_
                  refine hK 209 [some (vR 111 0), some (vI c), some (vI cl), some (vI o), none, some (vI (T 205 0 (23 * c + 1) - T 205 0 (23 * c + 2))), some (vI (m + 1)), some (vI (T 232 0 m)), some (vI (T 233 0 m))] [] U48 ?_
                  refine j_drq [some (vR 111 0), some (vI c), some (vI cl), some (vI o), none, some (vI (T 205 0 (23 * c + 1) - T 205 0 (23 * c + 2))), some (vI (m + 1)), none, none] (drq_s (drq_s (drq_s (drq_s (drq_n (drq_s (drq_s (drq_n (drq_n drq_0))))))))) ?_
                  have e50 : U48 111 0 90 = T2 111 0 90 := (up_k hU48 (by exact Nat.ne_of_beq_eq_false rfl) 0 90).trans (fU45 111 0 90 rfl)
                  refine ih_209 _ ?_ (m + 1) f0 (fw2_ f2 (T 232 0 m).toNat (T 233 0 m).toNat x46) U48 (Nat.le_refl _) ?_ ?_ ?_ ?_ ?_ ?_ ?_ ?_ ?_ ?_
                  · have hm_209 := hm_209 (); omega
                  · exact fr_u (fr_t (fr_t (fr_0 _ _) (fr_s hf_209 rfl)) (fr_s fU45 rfl)) hU48 rfl
                  · omega
                  · exact hl40
                  · exact hf0
                  · exact ((up_k hU48 (by exact Nat.ne_of_beq_eq_false rfl) 0 90).trans (fU45 111 0 90 rfl)).trans cb2
                  · intro z; omega
                  · intro z k hk hb
                    have y := sb2 z k hk hb
                    rw [eR, if_pos (by omega), List.length_append, List.length_cons, List.length_nil] at y
                    rw [qU45.2.2 (by decide)]
                    exact fw7_g (by omega)
                  · have h9 := lx2
                    rw [eR, if_pos (by omega)] at h9
                    exact lc7_s h9 (by omega) (by omega) (fun j a b => (up_g hU48 (fun q => by omega)).trans (fU45 289 0 j rfl)) (up_f hU48) qU45.1 (fe7_g _ _ (fun k hk hb => by
                      have y := sb2 (by omega) k hk hb
                      rw [eR, if_pos (by omega), List.length_append, List.length_cons, List.length_nil] at y
                      rw [qU45.2.2 (by decide)]
                      exact fw7_g (by omega))) (fun u a b => absurd b (by rw [qU45.2.2 (by decide)]; omega))
                  · exact ow7_s ow2 (by omega) (by omega) (fun j z => (up_g hU48 (fun q => z q.2.2)).trans (fU45 289 0 j rfl)) (up_f hU48) ⟨fun z => by omega, fun z1 z2 => by omega⟩
                  · exact p02
            · refine And.intro (fun c51 => ?_) (fun c51 => ?_)
              · refine hK 282 _ [vI m, vR 289 0] T2 ?_
                refine j_blx (F := fX11) tb_X11 (nn_ _) bk_X11_canEven_e_282 bs_X11_canEven_e_282 hz (fun K hK => ?_)
                refine iy_i (by omega) (by omega) ?_
                refine x_nm (fun U52 hU52 => ?_)
                have e53 := up_f hU52
                refine hK 322 _ [] U52 ?_
                refine j_blx (F := fX11) tb_X11 (nn_ _) bk_X11_canEven_e_322 bs_X11_canEven_e_322 hz (fun K hK => ?_)
                refine rg_i (by omega) ?_
                refine hK 209 [some (vR 111 0), some (vI c), some (vI cl), some (vI o), none, some (vI (T 205 0 (23 * c + 1) - T 205 0 (23 * c + 2))), some (vI (m + 1)), some (vI (T 232 0 m)), some (vI (T 233 0 m))] [] U52 ?_
                refine j_drq [some (vR 111 0), some (vI c), some (vI cl), some (vI o), none, some (vI (T 205 0 (23 * c + 1) - T 205 0 (23 * c + 2))), some (vI (m + 1)), none, none] (drq_s (drq_s (drq_s (drq_s (drq_n (drq_s (drq_s (drq_n (drq_n drq_0))))))))) ?_
                have e54 : U52 111 0 90 = T2 111 0 90 := up_k hU52 (by exact Nat.ne_of_beq_eq_false rfl) 0 90
                refine ih_209 _ ?_ (m + 1) f0 f2 U52 (Nat.le_refl _) ?_ ?_ ?_ ?_ ?_ ?_ ?_ ?_ ?_ ?_
                · have hm_209 := hm_209 (); omega
                · exact fr_u (fr_t (fr_0 _ _) (fr_s hf_209 rfl)) hU52 rfl
                · omega
                · exact hl40
                · exact hf0
                · exact (up_k hU52 (by exact Nat.ne_of_beq_eq_false rfl) 0 90).trans cb2
                · intro z
                  have h9 := sx2 z
                  rw [eR, if_neg (by omega), List.nil_append] at h9
                  exact sx7_e h9 (fun j => up_k hU52 (by exact Nat.ne_of_beq_eq_false rfl) 0 j)
                · intro z k hk hb
                  have y := sb2 z k hk hb
                  rw [eR, if_neg (by omega), List.nil_append] at y
                  exact y
                · have h9 := lx2
                  rw [eR, if_neg (by omega), List.nil_append] at h9
                  exact lc7_n h9 (by omega) (by omega) (fun j a b => (up_g hU52 (fun q => by omega)).trans (rfl))
                · exact ow7_s ow2 (by omega) (by omega) (fun j z => (up_g hU52 (fun q => z q.2.2)).trans (rfl)) (up_f hU52) ⟨fun z => by omega, fun z1 z2 => by omega⟩
                · exact p02
              · refine hK 283 [some (vR 111 0), some (vI c), some (vI cl), some (vI o), none, some (vI (T 205 0 (23 * c + 1) - T 205 0 (23 * c + 2))), some (vI m), some (vI (T 232 0 m)), some (vI (T 233 0 m))] [vI 0, vI m, vR 289 0] T2 ?_
                refine j_blx (F := fX11) tb_X11 (nn_ _) bk_X11_canEven_e_283 bs_X11_canEven_e_283 hz (fun K hK => ?_)
                refine iy_i (by omega) (by omega) ?_
                refine x_nm (fun U55 hU55 => ?_)
                have e56 := up_f hU55
                refine hK 322 _ [] U55 ?_
                refine j_blx (F := fX11) tb_X11 (nn_ _) bk_X11_canEven_e_322 bs_X11_canEven_e_322 hz (fun K hK => ?_)
                refine rg_i (by omega) ?_
                refine hK 209 [some (vR 111 0), some (vI c), some (vI cl), some (vI o), none, some (vI (T 205 0 (23 * c + 1) - T 205 0 (23 * c + 2))), some (vI (m + 1)), some (vI (T 232 0 m)), some (vI (T 233 0 m))] [] U55 ?_
                refine j_drq [some (vR 111 0), some (vI c), some (vI cl), some (vI o), none, some (vI (T 205 0 (23 * c + 1) - T 205 0 (23 * c + 2))), some (vI (m + 1)), none, none] (drq_s (drq_s (drq_s (drq_s (drq_n (drq_s (drq_s (drq_n (drq_n drq_0))))))))) ?_
                have e57 : U55 111 0 90 = T2 111 0 90 := up_k hU55 (by exact Nat.ne_of_beq_eq_false rfl) 0 90
                refine ih_209 _ ?_ (m + 1) f0 f2 U55 (Nat.le_refl _) ?_ ?_ ?_ ?_ ?_ ?_ ?_ ?_ ?_ ?_
                · have hm_209 := hm_209 (); omega
                · exact fr_u (fr_t (fr_0 _ _) (fr_s hf_209 rfl)) hU55 rfl
                · omega
                · exact hl40
                · exact hf0
                · exact (up_k hU55 (by exact Nat.ne_of_beq_eq_false rfl) 0 90).trans cb2
                · intro z
                  have h9 := sx2 z
                  rw [eR, if_neg (by omega), List.nil_append] at h9
                  exact sx7_e h9 (fun j => up_k hU55 (by exact Nat.ne_of_beq_eq_false rfl) 0 j)
                · intro z k hk hb
                  have y := sb2 z k hk hb
                  rw [eR, if_neg (by omega), List.nil_append] at y
                  exact y
                · have h9 := lx2
                  rw [eR, if_neg (by omega), List.nil_append] at h9
                  exact lc7_n h9 (by omega) (by omega) (fun j a b => (up_g hU55 (fun q => by omega)).trans (rfl))
                · exact ow7_s ow2 (by omega) (by omega) (fun j z => (up_g hU55 (fun q => z q.2.2)).trans (rfl)) (up_f hU55) ⟨fun z => by omega, fun z1 z2 => by omega⟩
                · exact p02
  have c_103 : ∀ (nn : Nat) (k : Int) (T1 : Zt), ((12 - k).toNat) ≤ nn → (fr_ [(293, [])] T T1) → (0 ≤ k ∧ k ≤ 12) → (((plf_ T cl (T 211 0 c).toNat (T 210 0 c)).length : Int) ≤ 40) → (∀ j, 0 ≤ j → j < k → T1 293 0 j = cp7_ T c j) → (∀ j, 0 ≤ j → j < k → -20000000 ≤ T1 293 0 j ∧ T1 293 0 j ≤ 20000000) → J_ zX11_canEven T (po_X11_canEven_e T c cl o) 0 0 103 [some (vR 111 0), some (vI c), some (vI cl), some (vI o), none, some (vI (T 205 0 (23 * c + 1) - T 205 0 (23 * c + 2))), some (vI k), none, none] [] T1 := by
    intro nn
    induction nn using Nat.strongRecOn with
    | _ nn ih_103 =>
      intro k T1 hm_103 hf_103 i1 hl40 sp1 sb1
      replace hm_103 := fun (_ : Unit) => hm_103
      refine j_blx (F := fX11) tb_X11 (nn_ _) bk_X11_canEven_e_103 bs_X11_canEven_e_103 hz (fun K hK => ?_)
      refine And.intro (fun c58 => ?_) (fun c58 => ?_)
      · refine hK 177 _ [] T1 ?_
        refine j_blx (F := fX11) tb_X11 (nn_ _) bk_X11_canEven_e_177 bs_X11_canEven_e_177 hz (fun K hK => ?_)
        refine hK 180 _ [vI cl, vI c, vR 111 0] T1 ?_
        refine j_callV (y := yX11_layBetween) (Yc := zX11_layBetween) (rest := []) [vI c, vI cl] (ct_X11_layBetween (T := T1) (by omega) (ML__f (ws := [(293, [])]) hml (fr_t (fr_0 _ _) (fr_s hf_103 rfl)) ⟨fun _ => rfl, fun _ => rfl, rfl, trivial⟩)) cl_X11_548 (qd_c (by decide +kernel)) (nn_ _) rfl (rf_of rfl) (Nat.le_of_ble_eq_true rfl) (Nat.le_of_ble_eq_true rfl) (Nat.le_of_ble_eq_true rfl) rfl ?_
        rintro U59 _ ⟨rfl, fU59, qU59⟩
        show J_ zX11_canEven T (po_X11_canEven_e T c cl o) 0 0 183 _ [] U59
        refine j_blx (F := fX11) tb_X11 (nn_ _) bk_X11_canEven_e_183 bs_X11_canEven_e_183 hz (fun K hK => ?_)
        refine hK 186 _ [vI o, vR 111 0, vR 111 0] U59 ?_
        have eL : plf_ T1 cl (T1 211 0 c).toNat (T1 210 0 c) = (plf_ T cl (T 211 0 c).toNat (T 210 0 c)) := by rw [plf_e (fun j => hf_103 235 0 j rfl) (fun j => hf_103 232 0 j rfl) (fun j => hf_103 233 0 j rfl), hf_103 211 0 c rfl, hf_103 210 0 c rfl]
        have hrn := plf_n T cl (T 211 0 c).toNat (T 210 0 c)
        have hsp9 : ∀ j, 0 ≤ j → j < 12 → U59 293 0 j = cp7_ T c j := fun j a b => (fU59 293 0 j rfl).trans (sp1 j a (by omega))
        refine j_callV (y := yX11_laySlack) (Yc := zX11_laySlack) (rest := [vR 111 0]) [vI o] (ct_X11_laySlack_e (T := U59) (l := (plf_ T cl (T 211 0 c).toNat (T 210 0 c))) hO (plf_b _ _ hmh) (by omega) (eL ▸ qU59) (fun j a b => by rw [fU59 293 0 j rfl]; exact sb1 j a (by omega))) cl_X11_551 (qd_c (by decide +kernel)) (nn_ _) rfl (rf_of rfl) (Nat.le_of_ble_eq_true rfl) (Nat.le_of_ble_eq_true rfl) (Nat.le_of_ble_eq_true rfl) rfl ?_
        rintro U60 _ ⟨x61, rfl, fU60, qU60⟩
        have x61b : 0 ≤ x61 ∧ x61 ≤ 4095 := by
          rcases qU60 with ⟨z, -⟩ | ⟨z, -⟩
          · omega
          · omega
        show J_ zX11_canEven T (po_X11_canEven_e T c cl o) 0 0 189 _ [vI x61, vR 111 0] U60
        refine j_blx (F := fX11) tb_X11 (nn_ _) bk_X11_canEven_e_189 bs_X11_canEven_e_189 hz (fun K hK => ?_)
        refine bd_i (by omega) ?_
        refine x_nm (fun U62 hU62 => ?_)
        have e63 := up_f hU62
        intro b64 b64b
        have e65 : U62 111 0 90 = x61 := up_f hU62
        rw [e65] at b64 b64b ⊢
        refine And.intro (fun c66 => ?_) (fun c66 => ?_)
        · refine hK 201 _ [] U62 ?_
          refine j_blx (F := fX11) tb_X11 (nn_ _) bk_X11_canEven_e_201 bs_X11_canEven_e_201 hz (fun K hK => ?_)
          refine ix_i (by omega) ?_
          intro b67 b67b
          have e68 : U62 210 0 c = T 210 0 c := (up_k hU62 (by exact Nat.ne_of_beq_eq_false rfl) 0 c).trans ((fU60 210 0 c rfl).trans ((fU59 210 0 c rfl).trans (hf_103 210 0 c rfl)))
          rw [e68] at b67 b67b ⊢
          refine hK 209 [some (vR 111 0), some (vI c), some (vI cl), some (vI o), none, some (vI (T 205 0 (23 * c + 1) - T 205 0 (23 * c + 2))), some (vI (T 210 0 c)), none, none] [] U62 ?_
          have e69 : U62 111 0 90 = x61 := up_f hU62
          refine c_209 _ (T 210 0 c) (fun k : Nat => U59 293 0 (k : Int)) (fun k : Nat => U59 293 0 (k : Int)) U62 (Nat.le_refl _) ?_ ?_ ?_ ?_ ?_ ?_ ?_ ?_ ?_ ?_
          · exact fr_u (fr_t (fr_t (fr_t (fr_0 _ _) (fr_s hf_103 rfl)) (fr_s fU59 rfl)) (fr_s fU60 rfl)) hU62 rfl
          · omega
          · exact hl40
          · exact fun k hk => hsp9 (k : Int) (by omega) (by omega)
          · have y := up_f hU62
            omega
          · intro _
            rw [show T 210 0 c + T 211 0 c - T 210 0 c = T 211 0 c by omega]
            exact sx7_e ((qU60.resolve_right (fun z => by have y := z.1; omega)).2) (fun j => up_k hU62 (by exact Nat.ne_of_beq_eq_false rfl) 0 j)
          · intro z k hk hb
            rw [show T 210 0 c + T 211 0 c - T 210 0 c = T 211 0 c by omega]
            have y := sx7_p hO ((qU60.resolve_right (fun z => by have y := z.1; omega)).2) hk hb
            have y2 := hsp9 (k : Int) (by omega) (by omega)
            show _ ≤ U59 293 0 (k : Int)
            have y3 : 0 ≤ U59 293 0 (k : Int) := y
            unfold cp7_ at y2
            rw [if_pos z] at y2
            split at y2
            · omega
            · omega
          · rw [show T 210 0 c + T 211 0 c - T 210 0 c = T 211 0 c by omega]
            exact lc7_0
          · exact ⟨fun j a b => by omega, fun j _ => (up_k hU62 (by exact Nat.ne_of_beq_eq_false rfl) 0 j).trans ((fU60 289 0 j rfl).trans ((fU59 289 0 j rfl).trans (hf_103 289 0 j rfl)))⟩
          · intro k hk hb
            exact sx7_p hO ((qU60.resolve_right (fun z => by have y := z.1; omega)).2) hk hb
        · refine (show po_X11_canEven_e T c cl o U62 (some (vI 0)) from ?_)
          exact ⟨_, rfl, fr_u (fr_t (fr_t (fr_t (fr_0 _ _) (fr_s hf_103 rfl)) (fr_s fU59 rfl)) (fr_s fU60 rfl)) hU62 rfl, by omega, (fun k : Nat => U59 293 0 (k : Int)), fun k hk => hsp9 (k : Int) (by omega) (by omega), Or.inr ⟨hl40, Or.inl ⟨rfl, by rw [show U62 111 0 90 = x61 from up_f hU62]; exact qU60.resolve_left (fun z => by omega)⟩⟩⟩
      · intro b70 b70b
        have e71 : T1 111 0 95 = T 111 0 95 := hf_103 111 0 95 rfl
        rw [e71] at b70 b70b ⊢
        refine ix_i (by omega) ?_
        intro b72 b72b
        have e73 : T1 291 0 k = T 291 0 k := hf_103 291 0 k rfl
        rw [e73] at b72 b72b ⊢
        have hpk := hpb k (by omega) (by omega)
        refine rg_i (by omega) ?_
        refine hK 125 _ [vI 3, vI c, vR 111 0, vI ((T 111 0 95) - (T 291 0 k))] T1 ?_
        refine j_callV (pc := 125) (y := yX11_rule0) (Yc := zX11_rule0) (rest := [vI ((T 111 0 95) - (T 291 0 k))]) [vI c, vI 3] (ct_X11_rule0 (T := T1) (by omega) (by omega)) cl_X11_321 (by show decode cX11_canEven (Int.toNat 125) = _; decide +kernel) (by decide) rfl rfl (Nat.le_of_ble_eq_true rfl) (by first | decide | (simp only [zX11_rule0]; omega)) (by first | decide | (simp only [zX11_rule0]; omega)) rfl ?_
        rintro _ _ ⟨rfl, rfl⟩
        have e74 : T1 205 0 (23 * c + 3) = T 205 0 (23 * c + 3) := hf_103 205 0 (23 * c + 3) rfl
        show J_ zX11_canEven T (po_X11_canEven_e T c cl o) 0 0 128 _ [vI (T1 205 0 (23 * c + 3)), vI ((T 111 0 95) - (T 291 0 k))] T1
        refine j_blx (F := fX11) tb_X11 (nn_ _) bk_X11_canEven_e_128 bs_X11_canEven_e_128 hz (fun K hK => ?_)
        refine ix_i (by omega) ?_
        intro b75 b75b
        have e76 : T1 292 0 k = T 292 0 k := hf_103 292 0 k rfl
        rw [e76] at b75 b75b ⊢
        have hlk := hlb k (by omega) (by omega)
        have hpk := hpb k (by omega) (by omega)
        have hmb := mul_b (x := T1 205 0 (23 * c + 3)) (y := T 292 0 k) (by omega) (by omega)
        refine rg_i (by omega) ?_
        refine rg_i (by omega) ?_
        refine And.intro (fun c77 => ?_) (fun c77 => ?_)
        · refine hK 154 [some (vR 111 0), some (vI c), some (vI cl), some (vI o), none, some (vI (T 205 0 (23 * c + 1) - T 205 0 (23 * c + 2))), some (vI k), some (vI (((T 111 0 95) - (T 291 0 k)) - ((T1 205 0 (23 * c + 3)) * (T 292 0 k)))), none] [vI k, vR 293 0] T1 ?_
          refine j_blx (F := fX11) tb_X11 (nn_ _) bk_X11_canEven_e_154 bs_X11_canEven_e_154 hz (fun K hK => ?_)
          refine And.intro (fun c78 => ?_) (fun c78 => ?_)
          · refine hK 165 _ [vI k, vR 293 0] T1 ?_
            refine j_blx (F := fX11) tb_X11 (nn_ _) bk_X11_canEven_e_165 bs_X11_canEven_e_165 hz (fun K hK => ?_)
            have hq1 : 0 ≤ (((T 111 0 95) - (T 291 0 k)) - ((T1 205 0 (23 * c + 3)) * (T 292 0 k))) / (T 205 0 (23 * c + 1) - T 205 0 (23 * c + 2)) := Int.ediv_nonneg (by omega) (by omega)
            have hq2 : (((T 111 0 95) - (T 291 0 k)) - ((T1 205 0 (23 * c + 3)) * (T 292 0 k))) / (T 205 0 (23 * c + 1) - T 205 0 (23 * c + 2)) ≤ (((T 111 0 95) - (T 291 0 k)) - ((T1 205 0 (23 * c + 3)) * (T 292 0 k))) := Int.ediv_le_self _ (by omega)
            refine dv_i (by omega) ?_
            refine iy_i (by omega) (by omega) ?_
            refine x_nm (fun U79 hU79 => ?_)
            have e80 := up_f hU79
            refine rg_i (by omega) ?_
            refine hK 103 [some (vR 111 0), some (vI c), some (vI cl), some (vI o), none, some (vI (T 205 0 (23 * c + 1) - T 205 0 (23 * c + 2))), some (vI (k + 1)), some (vI (((T 111 0 95) - (T 291 0 k)) - ((T1 205 0 (23 * c + 3)) * (T 292 0 k)))), none] [] U79 ?_
            refine j_drq [some (vR 111 0), some (vI c), some (vI cl), some (vI o), none, some (vI (T 205 0 (23 * c + 1) - T 205 0 (23 * c + 2))), some (vI (k + 1)), none, none] (drq_s (drq_s (drq_s (drq_s (drq_n (drq_s (drq_s (drq_n (drq_n drq_0))))))))) ?_
            refine ih_103 _ ?_ (k + 1) U79 (Nat.le_refl _) ?_ ?_ ?_ ?_ ?_
            · have hm_103 := hm_103 (); omega
            · exact fr_u (fr_t (fr_0 _ _) (fr_s hf_103 rfl)) hU79 rfl
            · omega
            · exact hl40
            · intro j a b
              by_cases z : j = k
              · rw [z, up_f hU79]
                have e9 : T1 205 0 (23 * c + 3) = T 205 0 (23 * c + 3) := hf_103 205 0 (23 * c + 3) rfl
                have m9 : T1 205 0 (23 * c + 3) * T 292 0 k = T 205 0 (23 * c + 3) * T 292 0 k := by rw [e9]
                unfold cp7_
                try rw [e9]
                first
                | (rw [if_pos (by omega)]; done)
                | (rw [if_neg (by omega), if_pos (by omega)]; done)
                | (rw [if_neg (by omega), if_neg (by omega)]; done)
              · rw [up_g hU79 (fun q => z q.2.2)]; exact sp1 j a (by omega)
            · intro j a b
              by_cases z : j = k
              · rw [z, up_f hU79]; omega
              · rw [up_g hU79 (fun q => z q.2.2)]; exact sb1 j a (by omega)
          · refine hK 170 [some (vR 111 0), some (vI c), some (vI cl), some (vI o), none, some (vI (T 205 0 (23 * c + 1) - T 205 0 (23 * c + 2))), some (vI k), some (vI (((T 111 0 95) - (T 291 0 k)) - ((T1 205 0 (23 * c + 3)) * (T 292 0 k)))), none] [vI 1000, vI k, vR 293 0] T1 ?_
            refine j_blx (F := fX11) tb_X11 (nn_ _) bk_X11_canEven_e_170 bs_X11_canEven_e_170 hz (fun K hK => ?_)
            refine iy_i (by omega) (by omega) ?_
            refine x_nm (fun U81 hU81 => ?_)
            have e82 := up_f hU81
            refine rg_i (by omega) ?_
            refine hK 103 [some (vR 111 0), some (vI c), some (vI cl), some (vI o), none, some (vI (T 205 0 (23 * c + 1) - T 205 0 (23 * c + 2))), some (vI (k + 1)), some (vI (((T 111 0 95) - (T 291 0 k)) - ((T1 205 0 (23 * c + 3)) * (T 292 0 k)))), none] [] U81 ?_
            refine j_drq [some (vR 111 0), some (vI c), some (vI cl), some (vI o), none, some (vI (T 205 0 (23 * c + 1) - T 205 0 (23 * c + 2))), some (vI (k + 1)), none, none] (drq_s (drq_s (drq_s (drq_s (drq_n (drq_s (drq_s (drq_n (drq_n drq_0))))))))) ?_
            refine ih_103 _ ?_ (k + 1) U81 (Nat.le_refl _) ?_ ?_ ?_ ?_ ?_
            · have hm_103 := hm_103 (); omega
            · exact fr_u (fr_t (fr_0 _ _) (fr_s hf_103 rfl)) hU81 rfl
            · omega
            · exact hl40
            · intro j a b
              by_cases z : j = k
              · rw [z, up_f hU81]
                have e9 : T1 205 0 (23 * c + 3) = T 205 0 (23 * c + 3) := hf_103 205 0 (23 * c + 3) rfl
                have m9 : T1 205 0 (23 * c + 3) * T 292 0 k = T 205 0 (23 * c + 3) * T 292 0 k := by rw [e9]
                unfold cp7_
                try rw [e9]
                first
                | (rw [if_pos (by omega)]; done)
                | (rw [if_neg (by omega), if_pos (by omega)]; done)
                | (rw [if_neg (by omega), if_neg (by omega)]; done)
              · rw [up_g hU81 (fun q => z q.2.2)]; exact sp1 j a (by omega)
            · intro j a b
              by_cases z : j = k
              · rw [z, up_f hU81]; omega
              · rw [up_g hU81 (fun q => z q.2.2)]; exact sb1 j a (by omega)
        · refine hK 170 _ [vI (-1), vI k, vR 293 0] T1 ?_
          refine j_blx (F := fX11) tb_X11 (nn_ _) bk_X11_canEven_e_170 bs_X11_canEven_e_170 hz (fun K hK => ?_)
          refine iy_i (by omega) (by omega) ?_
          refine x_nm (fun U83 hU83 => ?_)
          have e84 := up_f hU83
          refine rg_i (by omega) ?_
          refine hK 103 [some (vR 111 0), some (vI c), some (vI cl), some (vI o), none, some (vI (T 205 0 (23 * c + 1) - T 205 0 (23 * c + 2))), some (vI (k + 1)), some (vI (((T 111 0 95) - (T 291 0 k)) - ((T1 205 0 (23 * c + 3)) * (T 292 0 k)))), none] [] U83 ?_
          refine j_drq [some (vR 111 0), some (vI c), some (vI cl), some (vI o), none, some (vI (T 205 0 (23 * c + 1) - T 205 0 (23 * c + 2))), some (vI (k + 1)), none, none] (drq_s (drq_s (drq_s (drq_s (drq_n (drq_s (drq_s (drq_n (drq_n drq_0))))))))) ?_
          refine ih_103 _ ?_ (k + 1) U83 (Nat.le_refl _) ?_ ?_ ?_ ?_ ?_
          · have hm_103 := hm_103 (); omega
          · exact fr_u (fr_t (fr_0 _ _) (fr_s hf_103 rfl)) hU83 rfl
          · omega
          · exact hl40
          · intro j a b
            by_cases z : j = k
            · rw [z, up_f hU83]
              have e9 : T1 205 0 (23 * c + 3) = T 205 0 (23 * c + 3) := hf_103 205 0 (23 * c + 3) rfl
              have m9 : T1 205 0 (23 * c + 3) * T 292 0 k = T 205 0 (23 * c + 3) * T 292 0 k := by rw [e9]
              unfold cp7_
              try rw [e9]
              first
              | (rw [if_pos (by omega)]; done)
              | (rw [if_neg (by omega), if_pos (by omega)]; done)
              | (rw [if_neg (by omega), if_neg (by omega)]; done)
            · rw [up_g hU83 (fun q => z q.2.2)]; exact sp1 j a (by omega)
          · intro j a b
            by_cases z : j = k
            · rw [z, up_f hU83]; omega
            · rw [up_g hU83 (fun q => z q.2.2)]; exact sb1 j a (by omega)
  have c_11 : ∀ (nn : Nat) (mn : Int) (m : Int), ((400 - m).toNat) ≤ nn → (T 210 0 c ≤ m ∧ m ≤ T 210 0 c + T 211 0 c ∧ 0 ≤ mn ∧ mn ≤ m - T 210 0 c) → (((plf_ T cl (m - T 210 0 c).toNat (T 210 0 c)).length : Int) = mn) → J_ zX11_canEven T (po_X11_canEven_e T c cl o) 0 0 11 [some (vR 111 0), some (vI c), some (vI cl), some (vI o), some (vI mn), some (vI m), none, none, none] [] T := by
    intro nn
    induction nn using Nat.strongRecOn with
    | _ nn ih_11 =>
      intro mn m hm_11 i0 mn0
      replace hm_11 := fun (_ : Unit) => hm_11
      refine j_blx (F := fX11) tb_X11 (nn_ _) bk_X11_canEven_e_11 bs_X11_canEven_e_11 hz (fun K hK => ?_)
      refine ix_i (by omega) ?_
      intro b85 b85b
      refine ix_i (by omega) ?_
      intro b86 b86b
      refine rg_i (by omega) ?_
      refine And.intro (fun c87 => ?_) (fun c87 => ?_)
      · refine hK 76 _ [] T ?_
        refine j_blx (F := fX11) tb_X11 (nn_ _) bk_X11_canEven_e_76 bs_X11_canEven_e_76 hz (fun K hK => ?_)
        refine And.intro (fun c88 => ?_) (fun c88 => ?_)
        · have em : m = T 210 0 c + T 211 0 c := by omega
          have hl40 : ((plf_ T cl (T 211 0 c).toNat (T 210 0 c)).length : Int) ≤ 40 := by
            rw [em, show T 210 0 c + T 211 0 c - T 210 0 c = T 211 0 c by omega] at mn0
            omega
          refine hK 85 _ [] T ?_
          refine j_blx (F := fX11) tb_X11 (nn_ _) bk_X11_canEven_e_85 bs_X11_canEven_e_85 hz (fun K hK => ?_)
          refine hK 88 _ [vI 1, vI c, vR 111 0] T ?_
          refine j_callV (pc := 88) (y := yX11_rule0) (Yc := zX11_rule0) (rest := []) [vI c, vI 1] (ct_X11_rule0 (T := T) (by omega) (by omega)) cl_X11_321 (by show decode cX11_canEven (Int.toNat 88) = _; decide +kernel) (by decide) rfl rfl (Nat.le_of_ble_eq_true rfl) (by first | decide | (simp only [zX11_rule0]; omega)) (by first | decide | (simp only [zX11_rule0]; omega)) rfl ?_
          rintro _ _ ⟨rfl, rfl⟩
          show J_ zX11_canEven T (po_X11_canEven_e T c cl o) 0 0 91 _ [vI (T 205 0 (23 * c + 1))] T
          refine j_blx (F := fX11) tb_X11 (nn_ _) bk_X11_canEven_e_91 bs_X11_canEven_e_91 hz (fun K hK => ?_)
          refine hK 94 _ [vI 2, vI c, vR 111 0, vI (T 205 0 (23 * c + 1))] T ?_
          refine j_callV (pc := 94) (y := yX11_rule0) (Yc := zX11_rule0) (rest := [vI (T 205 0 (23 * c + 1))]) [vI c, vI 2] (ct_X11_rule0 (T := T) (by omega) (by omega)) cl_X11_321 (by show decode cX11_canEven (Int.toNat 94) = _; decide +kernel) (by decide) rfl rfl (Nat.le_of_ble_eq_true rfl) (by first | decide | (simp only [zX11_rule0]; omega)) (by first | decide | (simp only [zX11_rule0]; omega)) rfl ?_
          rintro _ _ ⟨rfl, rfl⟩
          show J_ zX11_canEven T (po_X11_canEven_e T c cl o) 0 0 97 _ [vI (T 205 0 (23 * c + 2)), vI (T 205 0 (23 * c + 1))] T
          refine j_blx (F := fX11) tb_X11 (nn_ _) bk_X11_canEven_e_97 bs_X11_canEven_e_97 hz (fun K hK => ?_)
          refine rg_i (by omega) ?_
          refine hK 103 [some (vR 111 0), some (vI c), some (vI cl), some (vI o), some (vI mn), some (vI ((T 205 0 (23 * c + 1)) - (T 205 0 (23 * c + 2)))), some (vI 0), none, none] [] T ?_
          refine j_drq [some (vR 111 0), some (vI c), some (vI cl), some (vI o), none, some (vI ((T 205 0 (23 * c + 1)) - (T 205 0 (23 * c + 2)))), some (vI 0), none, none] (drq_s (drq_s (drq_s (drq_s (drq_n (drq_s (drq_s (drq_n (drq_n drq_0))))))))) ?_
          refine c_103 _ 0 T (Nat.le_refl _) ?_ ?_ ?_ ?_ ?_
          · exact fr_0 _ _
          · omega
          · exact hl40
          · intro j a b; omega
          · intro j a b; omega
        · refine (show po_X11_canEven_e T c cl o T (some (vI 2)) from ?_)
          have em : m = T 210 0 c + T 211 0 c := by omega
          rw [em, show T 210 0 c + T 211 0 c - T 210 0 c = T 211 0 c by omega] at mn0
          exact ⟨_, rfl, fr_0 _ _, by omega, fun k => cp7_ T c (k : Int), fun k hk => rfl, Or.inl ⟨rfl, by omega, rfl⟩⟩
      · refine hK 34 _ [vI m, vR 111 0, vI mn] T ?_
        refine j_callV (pc := 34) (y := yX11_isLeft) (Yc := zX11_isLeft) (rest := [vI mn]) [vI m] (ct_X11_isLeft (T := T) (by omega)) cl_X11_538 (by show decode cX11_canEven (Int.toNat 34) = _; decide +kernel) (by decide) rfl rfl (Nat.le_of_ble_eq_true rfl) (by first | decide | (simp only [zX11_isLeft]; omega)) (by first | decide | (simp only [zX11_isLeft]; omega)) rfl ?_
        rintro _ _ ⟨rfl, x89, rfl, hx89⟩
        show J_ zX11_canEven T (po_X11_canEven_e T c cl o) 0 0 37 _ [vI x89, vI mn] T
        refine j_blx (F := fX11) tb_X11 (nn_ _) bk_X11_canEven_e_37 bs_X11_canEven_e_37 hz (fun K hK => ?_)
        refine And.intro (fun c90 => ?_) (fun c90 => ?_)
        · replace hx89 := hx89.resolve_left (fun z => absurd (c90.symm.trans z.1) (by decide))
          clear c90
          refine hK 66 _ [vI mn] T ?_
          refine j_blx (F := fX11) tb_X11 (nn_ _) bk_X11_canEven_e_66 bs_X11_canEven_e_66 hz (fun K hK => ?_)
          refine rg_i (by omega) ?_
          refine rg_i (by omega) ?_
          refine hK 11 [some (vR 111 0), some (vI c), some (vI cl), some (vI o), some (vI (mn + 0)), some (vI (m + 1)), none, none, none] [] T ?_
          refine ih_11 _ ?_ (mn + 0) (m + 1) (Nat.le_refl _) ?_ ?_
          · have hm_11 := hm_11 (); omega
          · omega
          · rw [show (m + 1 - T 210 0 c).toNat = (m - T 210 0 c).toNat + 1 by omega, plf_c, show T 210 0 c + (((m - T 210 0 c).toNat : Nat) : Int) = m by omega]
            have hnm := hna m (by omega) (by omega)
            first
            | (rw [if_pos (by omega)]; omega)
            | (rw [if_neg (by omega)]; omega)
        · replace hx89 := hx89.resolve_right (fun z => c90 z.1)
          clear c90
          refine ix_i (by omega) ?_
          intro b91 b91b
          refine And.intro (fun c92 => ?_) (fun c92 => ?_)
          · refine hK 66 [some (vR 111 0), some (vI c), some (vI cl), some (vI o), some (vI mn), some (vI m), none, none, none] [vI mn] T ?_
            refine j_blx (F := fX11) tb_X11 (nn_ _) bk_X11_canEven_e_66 bs_X11_canEven_e_66 hz (fun K hK => ?_)
            refine rg_i (by omega) ?_
            refine rg_i (by omega) ?_
            refine hK 11 [some (vR 111 0), some (vI c), some (vI cl), some (vI o), some (vI (mn + 0)), some (vI (m + 1)), none, none, none] [] T ?_
            refine ih_11 _ ?_ (mn + 0) (m + 1) (Nat.le_refl _) ?_ ?_
            · have hm_11 := hm_11 (); omega
            · omega
            · rw [show (m + 1 - T 210 0 c).toNat = (m - T 210 0 c).toNat + 1 by omega, plf_c, show T 210 0 c + (((m - T 210 0 c).toNat : Nat) : Int) = m by omega]
              have hnm := hna m (by omega) (by omega)
              first
              | (rw [if_pos (by omega)]; omega)
              | (rw [if_neg (by omega)]; omega)
          · refine ix_i (by omega) ?_
            intro b93 b93b
            refine And.intro (fun c94 => ?_) (fun c94 => ?_)
            · refine hK 66 [some (vR 111 0), some (vI c), some (vI cl), some (vI o), some (vI mn), some (vI m), none, none, none] [vI mn] T ?_
              refine j_blx (F := fX11) tb_X11 (nn_ _) bk_X11_canEven_e_66 bs_X11_canEven_e_66 hz (fun K hK => ?_)
              refine rg_i (by omega) ?_
              refine rg_i (by omega) ?_
              refine hK 11 [some (vR 111 0), some (vI c), some (vI cl), some (vI o), some (vI (mn + 0)), some (vI (m + 1)), none, none, none] [] T ?_
              refine ih_11 _ ?_ (mn + 0) (m + 1) (Nat.le_refl _) ?_ ?_
              · have hm_11 := hm_11 (); omega
              · omega
              · rw [show (m + 1 - T 210 0 c).toNat = (m - T 210 0 c).toNat + 1 by omega, plf_c, show T 210 0 c + (((m - T 210 0 c).toNat : Nat) : Int) = m by omega]
                have hnm := hna m (by omega) (by omega)
                first
                | (rw [if_pos (by omega)]; omega)
                | (rw [if_neg (by omega)]; omega)
            · refine hK 67 [some (vR 111 0), some (vI c), some (vI cl), some (vI o), some (vI mn), some (vI m), none, none, none] [vI 1, vI mn] T ?_
              refine j_blx (F := fX11) tb_X11 (nn_ _) bk_X11_canEven_e_67 bs_X11_canEven_e_67 hz (fun K hK => ?_)
              refine rg_i (by omega) ?_
              refine rg_i (by omega) ?_
              refine hK 11 [some (vR 111 0), some (vI c), some (vI cl), some (vI o), some (vI (mn + 1)), some (vI (m + 1)), none, none, none] [] T ?_
              refine ih_11 _ ?_ (mn + 1) (m + 1) (Nat.le_refl _) ?_ ?_
              · have hm_11 := hm_11 (); omega
              · omega
              · rw [show (m + 1 - T 210 0 c).toNat = (m - T 210 0 c).toNat + 1 by omega, plf_c, show T 210 0 c + (((m - T 210 0 c).toNat : Nat) : Int) = m by omega]
                have hnm := hna m (by omega) (by omega)
                first
                | (rw [if_pos (by omega)]; omega)
                | (rw [if_neg (by omega)]; omega)
  refine j_blx (F := fX11) tb_X11 (nn_ _) bk_X11_canEven_e_0 bs_X11_canEven_e_0 hz (fun K hK => ?_)
  refine ix_i (by omega) ?_
  intro b95 b95b
  refine hK 11 [some (vR 111 0), some (vI c), some (vI cl), some (vI o), some (vI 0), some (vI (T 210 0 c)), none, none, none] [] T ?_
  refine c_11 _ 0 (T 210 0 c) (Nat.le_refl _) ?_ ?_
  · omega
  · rw [show (T 210 0 c - T 210 0 c).toNat = 0 by omega]; rfl
-- the clubs of a match are two
def HNA_ (T : Zt) : Prop := ∀ m, 0 ≤ m → m < T 106 0 4 → T 102 m 3 ≠ T 102 m 4
theorem pab_d {L r i : Int} (hL : L % 2 = 1) (hr : 0 ≤ r ∧ r < L) (hi : 0 ≤ i ∧ i < (L + 1) / 2) : pa9_ L r i ≠ pb9_ L r i ∧ 0 ≤ pa9_ L r i ∧ 0 ≤ pb9_ L r i := by
  by_cases z : i = 0
  · rw [z, pa9_0, pb9_0]
    omega
  · rw [pa9_i z, pb9_i z]
    have a := em_2 (x := r + i) (R := L) (by omega) (by omega)
    have b := em_2 (x := r - i + L) (R := L) (by omega) (by omega)
    omega
theorem hma_d {L r u i : Int} (hL : L % 2 = 1) (hr : 0 ≤ r ∧ r < L) (hi : 0 ≤ i ∧ i < (L + 1) / 2) : hm9_ L r u i ≠ aw9_ L r u i ∧ 0 ≤ hm9_ L r u i ∧ 0 ≤ aw9_ L r u i := by
  have y := pab_d hL hr hi
  by_cases z : pq9_ r i = u
  · rw [(hm9_b z).1, (hm9_b z).2]
    exact ⟨fun w => y.1 w.symm, y.2.2, y.2.1⟩
  · rw [(hm9_a z).1, (hm9_a z).2]
    exact y
/-- all fixtures of a list: two places below e -/
def TW9_ (e : Int) (l : List Fx9_) : Prop := ∀ q ∈ l, (0 ≤ q.2.1 ∧ q.2.1 < e) ∧ (0 ≤ q.2.2.1 ∧ q.2.2.1 < e) ∧ q.2.1 ≠ q.2.2.1
theorem tw9_f {e rd dt h a : Int} {l : List Fx9_} (t : TW9_ e l) (g : h ≠ a ∧ 0 ≤ h ∧ 0 ≤ a) : TW9_ e (fa9_ e rd dt h a l) := by
  by_cases z : h < e ∧ a < e
  · rw [fa9_y z]
    intro q hq
    rcases List.mem_append.mp hq with w | w
    · exact t q w
    · rw [List.mem_singleton] at w
      rw [w]
      exact ⟨⟨g.2.1, z.1⟩, ⟨g.2.2, z.2⟩, g.1⟩
  · rw [fa9_n z]
    exact t
theorem tw9_r {e L r u rd dt : Int} {l : List Fx9_} (hL : L % 2 = 1) (hr : 0 ≤ r ∧ r < L) (t : TW9_ e l) : ∀ i : Nat, (i : Int) ≤ (L + 1) / 2 → TW9_ e (rl9_ e L r u rd dt i l)
  | 0, _ => t
  | i + 1, h => tw9_f (tw9_r hL hr t i (by omega)) (hma_d hL hr (by omega))
theorem tw9_l {e L g f E : Int} {l : List Fx9_} (hL : L % 2 = 1) (h1 : 1 ≤ L) (t : TW9_ e l) : ∀ r : Nat, (r : Int) ≤ L → TW9_ e (ll9_ e L g f E r l)
  | 0, _ => t
  | r + 1, h => tw9_r hL (by omega) (tw9_l hL h1 t r (by omega)) ((L + 1) / 2).toNat (by omega)
theorem tw9_p {e L f E : Int} (hL : L % 2 = 1) (h1 : 1 ≤ L) : ∀ g : Nat, TW9_ e (pl9_ e L f E g)
  | 0 => fun q hq => by cases hq
  | g + 1 => tw9_l hL h1 (tw9_p hL h1 g) L.toNat (by omega)
/-- a plan -/
theorem hna_p {T T1 T2 : Zt} {c b x : Int} (hT : ok_T T) (hN : HNA_ T) (hK : KE_ T) (p : PH9_ T T1 c b x) (e4 : T2 106 0 4 = T1 106 0 4) (e2 : ∀ m, T2 102 m 3 = T1 102 m 3 ∧ T2 102 m 4 = T1 102 m 4) : HNA_ T2 := by
  have key : HNA_ T1 := by
    rcases p with ⟨z, -⟩ | ⟨hc, -, -, h2, -, -, -, sj, ap⟩
    · rw [z]
      exact hN
    · obtain ⟨a1, a2⟩ := ap
      have od := sj.2.2.1
      have he : 0 ≤ T 100 c 5 ∧ T 100 c 5 ≤ 12 := bd_f hT 100 5 tl_0_5 c
      have hL : (T 100 c 5 + an_ (T 100 c 5) 1 - 1) % 2 = 1 ∧ 1 ≤ T 100 c 5 + an_ (T 100 c 5) 1 - 1 := by
        have y : ∀ n : Nat, n ≤ 12 → an_ ((n : Nat) : Int) 1 = ((n % 2 : Nat) : Int) := by decide +kernel
        have w := y (T 100 c 5).toNat (by omega)
        rw [show (((T 100 c 5).toNat : Nat) : Int) = T 100 c 5 by omega] at w
        omega
      have tw := tw9_p (e := T 100 c 5) (f := b) (E := T 401 c 7) hL.1 hL.2 (T 401 c 6).toNat
      intro m m0 m1
      by_cases z : m < T 106 0 4
      · rw [od m 3 z, od m 4 z]
        exact hN m m0 z
      · have hk : (m - T 106 0 4).toNat < (pl9_ (T 100 c 5) (T 100 c 5 + an_ (T 100 c 5) 1 - 1) b (T 401 c 7) (T 401 c 6).toNat).length := by omega
        have hq := List.getElem?_eq_getElem hk
        have y := a2 _ _ hq
        rw [show T 106 0 4 + (((m - T 106 0 4).toNat : Nat) : Int) = m by omega] at y
        have w := tw _ (List.getElem_mem hk)
        rw [y.2.2.1, y.2.2.2.1]
        intro q
        have u := hK c hc.1 hc.2 _ w.1.1 w.1.2
        have v := hK c hc.1 hc.2 _ w.2.1.1 w.2.1.2
        rw [q, v] at u
        exact w.2.2 u.symm
  intro m m0 m1
  rw [e4] at m1
  rw [(e2 m).1, (e2 m).2]
  exact key m m0 m1
-- who can be first: the open matches of both sides
theorem lh7_n {a b : Int → Int} : ∀ (i : Nat) (j : Int), (lh7_ a b i j).length = i
  | 0, _ => rfl
  | i + 1, j => by
    show (lh7_ a b i (j + 1)).length + 1 = i + 1
    rw [lh7_n i (j + 1)]
theorem lh7_s {a b : Int → Int} : ∀ (i : Nat) (j : Int), lh7_ a b (i + 1) j = lh7_ a b i j ++ [((a (j + (i : Int))).toNat, (b (j + (i : Int))).toNat)]
  | 0, j => by
    show [((a j).toNat, (b j).toNat)] = [] ++ [((a (j + ((0 : Nat) : Int))).toNat, (b (j + ((0 : Nat) : Int))).toNat)]
    rw [show j + ((0 : Nat) : Int) = j by omega]
    rfl
  | i + 1, j => by
    show ((a j).toNat, (b j).toNat) :: lh7_ a b (i + 1) (j + 1) = ((a j).toNat, (b j).toNat) :: lh7_ a b i (j + 1) ++ _
    rw [lh7_s i (j + 1), show j + 1 + (i : Int) = j + ((i + 1 : Nat) : Int) by omega, List.cons_append]
theorem lh7_e {a b a' b' : Int → Int} : ∀ (i : Nat) (j : Int), (∀ k, j ≤ k → k < j + (i : Int) → a k = a' k ∧ b k = b' k) → lh7_ a b i j = lh7_ a' b' i j
  | 0, _, _ => rfl
  | i + 1, j, h => by
    show ((a j).toNat, (b j).toNat) :: lh7_ a b i (j + 1) = ((a' j).toNat, (b' j).toNat) :: lh7_ a' b' i (j + 1)
    rw [(h j (by omega) (by omega)).1, (h j (by omega) (by omega)).2, lh7_e i (j + 1) (fun k x y => h k (by omega) (by omega))]
theorem hw7_s {h : Int → Int} : ∀ (i : Nat) (j : Int), hw7_ h (i + 1) j = hw7_ h i j ++ [2 - h (j + (i : Int))]
  | 0, j => by
    show [2 - h j] = [] ++ [2 - h (j + ((0 : Nat) : Int))]
    rw [show j + ((0 : Nat) : Int) = j by omega]
    rfl
  | i + 1, j => by
    show (2 - h j) :: hw7_ h (i + 1) (j + 1) = (2 - h j) :: hw7_ h i (j + 1) ++ _
    rw [hw7_s i (j + 1), show j + 1 + (i : Int) = j + ((i + 1 : Nat) : Int) by omega, List.cons_append]
/-- the open matches, listed one by one, are those that the reference has left -/
theorem dl7_p {D : Int → Prop} {T : Zt} {cl fo : Int} : ∀ n : Nat, (∀ k : Int, 0 ≤ k → k < (n : Int) → (D k ↔ ((T 235 0 (fo + k) = 0 ∨ T 235 0 (fo + k) = 1) ∧ T 232 0 (fo + k) ≠ cl ∧ T 233 0 (fo + k) ≠ cl ∧ T 232 0 (fo + k) ≠ T 233 0 (fo + k)))) → lh7_ (fun j => T 232 0 (fo + (dl9_ D n).2 j)) (fun j => T 233 0 (fo + (dl9_ D n).2 j)) (dl9_ D n).1.toNat 0 = plf_ T cl n fo
  | 0, _ => rfl
  | n + 1, h => by
    have ih := dl7_p (D := D) (T := T) (cl := cl) (fo := fo) n (fun k a b => h k a (by omega))
    have c0 := (dl_b (D := D) n).1.1
    have e := h (n : Int) (by omega) (by omega)
    rw [plf_s]
    by_cases z : D (n : Int)
    · have en : dl9_ D (n + 1) = ((dl9_ D n).1 + 1, fu_ (dl9_ D n).2 (dl9_ D n).1 (n : Int)) := cz_t z
      rw [en, if_pos (e.mp z)]
      show lh7_ (fun j => T 232 0 (fo + fu_ (dl9_ D n).2 (dl9_ D n).1 (n : Int) j)) (fun j => T 233 0 (fo + fu_ (dl9_ D n).2 (dl9_ D n).1 (n : Int) j)) ((dl9_ D n).1 + 1).toNat 0 = _
      rw [show ((dl9_ D n).1 + 1).toNat = (dl9_ D n).1.toNat + 1 by omega, lh7_s, ← ih, show (0 : Int) + (((dl9_ D n).1.toNat : Nat) : Int) = (dl9_ D n).1 by omega]
      show _ ++ [((T 232 0 (fo + fu_ (dl9_ D n).2 (dl9_ D n).1 (n : Int) (dl9_ D n).1)).toNat, (T 233 0 (fo + fu_ (dl9_ D n).2 (dl9_ D n).1 (n : Int) (dl9_ D n).1)).toNat)] = _
      rw [fu_s, lh7_e (a' := fun j => T 232 0 (fo + (dl9_ D n).2 j)) (b' := fun j => T 233 0 (fo + (dl9_ D n).2 j)) _ 0 (fun k x y => ?_)]
      show T 232 0 (fo + fu_ (dl9_ D n).2 (dl9_ D n).1 (n : Int) k) = T 232 0 (fo + (dl9_ D n).2 k) ∧ T 233 0 (fo + fu_ (dl9_ D n).2 (dl9_ D n).1 (n : Int) k) = T 233 0 (fo + (dl9_ D n).2 k)
      rw [fu_n (show k ≠ (dl9_ D n).1 by omega)]
      exact ⟨rfl, rfl⟩
    · have en : dl9_ D (n + 1) = dl9_ D n := cz_f z
      rw [en, if_neg (fun w => z (e.mpr w)), List.append_nil]
      exact ih
/-- what was settled of them -/
theorem dl7_w {D : Int → Prop} {T U : Zt} {cl fo : Int} {h : Int → Int} : ∀ n : Nat, (∀ k : Int, 0 ≤ k → k < (n : Int) → (D k ↔ ((T 235 0 (fo + k) = 0 ∨ T 235 0 (fo + k) = 1) ∧ T 232 0 (fo + k) ≠ cl ∧ T 233 0 (fo + k) ≠ cl ∧ T 232 0 (fo + k) ≠ T 233 0 (fo + k)))) → wl7_ T U cl n fo = hw7_ h (dl9_ D n).1.toNat 0 → ∀ j, 0 ≤ j → j < (dl9_ D n).1 → U 289 0 (fo + (dl9_ D n).2 j) = 2 - h j
  | 0, _, _, j, a, b => by
    have b' : j < 0 := b
    omega
  | n + 1, g, q, j, a, b => by
    have c0 := (dl_b (D := D) n).1.1
    have e := g (n : Int) (by omega) (by omega)
    rw [wl7_s] at q
    by_cases z : D (n : Int)
    · have en : dl9_ D (n + 1) = ((dl9_ D n).1 + 1, fu_ (dl9_ D n).2 (dl9_ D n).1 (n : Int)) := cz_t z
      rw [en] at b q ⊢
      rw [if_pos (e.mp z)] at q
      have q' : wl7_ T U cl n fo ++ [U 289 0 (fo + (n : Int))] = hw7_ h ((dl9_ D n).1 + 1).toNat 0 := q
      rw [show ((dl9_ D n).1 + 1).toNat = (dl9_ D n).1.toNat + 1 by omega, hw7_s, show (0 : Int) + (((dl9_ D n).1.toNat : Nat) : Int) = (dl9_ D n).1 by omega] at q'
      have q2 := List.append_inj' q' rfl
      show U 289 0 (fo + fu_ (dl9_ D n).2 (dl9_ D n).1 (n : Int) j) = 2 - h j
      by_cases y : j = (dl9_ D n).1
      · rw [y, fu_s]
        have w := q2.2
        simpa using w
      · rw [fu_n y]
        have b' : j < (dl9_ D n).1 + 1 := b
        exact dl7_w n (fun k x y => g k x (by omega)) q2.1 j a (by omega)
    · have en : dl9_ D (n + 1) = dl9_ D n := cz_f z
      rw [en] at b q ⊢
      rw [if_neg (fun w => z (e.mpr w)), List.append_nil] at q
      exact dl7_w n (fun k x y => g k x (by omega)) q j a b
-- the sets below a set, one behind the other
theorem sd_7 : ∀ (o s : Nat), s &&& o = s → ∀ i, (o - s).testBit i = (o.testBit i && !s.testBit i) := by
  intro o
  induction o using Nat.strongRecOn with
  | _ o ih =>
    intro s h i
    by_cases z : o = 0
    · subst z
      have e : s = 0 := by rw [Nat.and_zero] at h; exact h.symm
      subst e
      simp
    · have hd : (s / 2) &&& (o / 2) = s / 2 := by rw [← Nat.and_div_two, h]
      have hp : s % 2 = 1 → o % 2 = 1 := fun q => ((pb_and s o).mp (by rw [h]; exact q)).2
      have hl := (nb_sub o s h).1
      have hl2 := (nb_sub (o / 2) (s / 2) hd).1
      have e1 : (o - s) / 2 = o / 2 - s / 2 := by omega
      cases i with
      | zero =>
        simp only [Nat.testBit_zero]
        by_cases a : o % 2 = 1
        · by_cases b : s % 2 = 1
          · have c : ¬ (o - s) % 2 = 1 := by omega
            simp [a, b, c]
          · have c : (o - s) % 2 = 1 := by omega
            simp [a, b, c]
        · have b : ¬ s % 2 = 1 := fun q => a (hp q)
          have c : ¬ (o - s) % 2 = 1 := by omega
          simp [a, c]
      | succ i =>
        rw [Nat.testBit_succ, Nat.testBit_succ, Nat.testBit_succ, e1]
        exact ih (o / 2) (by omega) (s / 2) hd i
theorem cm_7 {K o s : Nat} (ho : o < 2 ^ K) (h : s &&& o = s) : (2 ^ K - (o - s + 1)) &&& o = s := by
  apply Nat.eq_of_testBit_eq
  intro i
  have hl := (nb_sub o s h).1
  rw [Nat.testBit_and, Nat.testBit_two_pow_sub_succ (by omega), sd_7 o s h i]
  have hs : s.testBit i = true → o.testBit i = true := fun q => sb_7 h q
  by_cases a : o.testBit i = true
  · have b : i < K := by
      apply Classical.byContradiction
      intro n
      have y := Nat.testBit_lt_two_pow (Nat.lt_of_lt_of_le ho (Nat.pow_le_pow_right (by decide) (by omega : K ≤ i)))
      rw [y] at a
      cases a
    by_cases c : s.testBit i = true
    · simp [a, b, c]
    · simp [a, b, c]
  · have c : ¬ s.testBit i = true := fun q => a (hs q)
    simp [a, c]
/-- the next set below o behind s -/
theorem nx_7 : ∀ (K o s : Nat), o < 2 ^ K → s &&& o = s → s ≠ o → ((2 ^ K + s - o) &&& o) &&& o = ((2 ^ K + s - o) &&& o) ∧ s < ((2 ^ K + s - o) &&& o) ∧ ∀ u, u &&& o = u → s < u → ((2 ^ K + s - o) &&& o) ≤ u
  | 0, o, s, ho, h, n => by
    have e : o = 0 := by
      have e0 : (2 : Nat) ^ 0 = 1 := rfl
      omega
    rw [e, Nat.and_zero] at h
    exact absurd (h.symm.trans e.symm) n
  | K + 1, o, s, ho, h, n => by
    have hK : (2 : Nat) ^ (K + 1) = 2 * 2 ^ K := by rw [Nat.pow_succ]; omega
    have hd : (s / 2) &&& (o / 2) = s / 2 := by rw [← Nat.and_div_two, h]
    have hp : s % 2 = 1 → o % 2 = 1 := fun q => ((pb_and s o).mp (by rw [h]; exact q)).2
    have hl := (nb_sub o s h).1
    have hl2 := (nb_sub (o / 2) (s / 2) hd).1
    refine ⟨by rw [Nat.and_assoc, Nat.and_self], ?_⟩
    have td : ((2 ^ (K + 1) + s - o) &&& o) / 2 = ((2 ^ (K + 1) + s - o) / 2) &&& (o / 2) := Nat.and_div_two
    have tm := pb_and (2 ^ (K + 1) + s - o) o
    by_cases q : s % 2 = 0 ∧ o % 2 = 1
    · have e : (2 ^ (K + 1) + s - o) / 2 = 2 ^ K - (o / 2 - s / 2 + 1) := by omega
      rw [e, cm_7 (by omega) hd] at td
      have m1 : ((2 ^ (K + 1) + s - o) &&& o) % 2 = 1 := tm.mpr ⟨by omega, q.2⟩
      have t : ((2 ^ (K + 1) + s - o) &&& o) = s + 1 := by omega
      rw [t]
      exact ⟨by omega, fun u _ w => w⟩
    · have e : (2 ^ (K + 1) + s - o) / 2 = 2 ^ K + s / 2 - o / 2 ∧ (2 ^ (K + 1) + s - o) % 2 = 0 := by
        by_cases a : s % 2 = 1
        · have b := hp a
          omega
        · have b : o % 2 = 0 := by
            by_cases c : o % 2 = 1
            · exact absurd ⟨by omega, c⟩ q
            · omega
          omega
      have n2 : s / 2 ≠ o / 2 := fun w => by
        by_cases a : s % 2 = 1
        · have b := hp a
          omega
        · by_cases c : o % 2 = 1
          · exact absurd ⟨by omega, c⟩ q
          · omega
      have ih := nx_7 K (o / 2) (s / 2) (by omega) hd n2
      rw [e.1] at td
      have m0 : ¬ ((2 ^ (K + 1) + s - o) &&& o) % 2 = 1 := fun w => by
        have := (tm.mp w).1
        omega
      rw [← td] at ih
      refine ⟨by omega, fun u hu w => ?_⟩
      have ud : (u / 2) &&& (o / 2) = u / 2 := by rw [← Nat.and_div_two, hu]
      have y := ih.2.2 (u / 2) ud (by
        by_cases a : s % 2 = 1
        · omega
        · have up : u % 2 = 1 → o % 2 = 1 := fun v => ((pb_and u o).mp (by rw [hu]; exact v)).2
          by_cases c : u % 2 = 1
          · exact absurd ⟨by omega, up c⟩ q
          · omega)
      omega
/-- as the machine counts it -/
theorem nx7_i {o s : Int} (ho : 0 ≤ o ∧ o ≤ 4095) (hs : 0 ≤ s ∧ s ≤ 4095) (h : an_ s o = s) (n : s ≠ o) : an_ (an_ (s - o) o) o = an_ (s - o) o ∧ s < an_ (s - o) o ∧ ∀ u, 0 ≤ u → u ≤ 4095 → an_ u o = u → s < u → an_ (s - o) o ≤ u := by
  have hz := (an_z ho (by omega)).mp h
  have hl := (nb_sub o.toNat s.toNat hz).1
  have k := nx_7 32 o.toNat s.toNat (by have : (2 : Nat) ^ 32 = 4294967296 := by decide
                                        omega) hz (by omega)
  have e : an_ (s - o) o = (((2 ^ 32 + s.toNat - o.toNat) &&& o.toNat : Nat) : Int) := by
    have e1 : (Int32.ofInt (s - o)).toBitVec.toNat = 2 ^ 32 + s.toNat - o.toNat := by
      show (BitVec.ofInt 32 (s - o)).toNat = _
      rw [BitVec.toNat_ofInt]
      have : (2 : Nat) ^ 32 = 4294967296 := by decide
      omega
    have e2 : ((Int32.ofInt (s - o)).toBitVec &&& (Int32.ofInt o).toBitVec).toNat = (2 ^ 32 + s.toNat - o.toNat) &&& o.toNat := by
      rw [BitVec.toNat_and, e1, i3_n (by omega)]
    have l : (2 ^ 32 + s.toNat - o.toNat) &&& o.toNat ≤ o.toNat := Nat.and_le_right
    show ((Int32.ofInt (s - o)).toBitVec &&& (Int32.ofInt o).toBitVec).toInt = _
    rw [bv_i (by rw [e2]; omega), e2]
  refine ⟨an_id _ _, by rw [e]; omega, fun u u0 u1 u2 u3 => ?_⟩
  have y := k.2.2 u.toNat ((an_z ho (by omega)).mp u2) (by omega)
  rw [e]
  omega
-- who can be first: what the house lists of the matches left
/-- match k of a competition is open, and a club is not in it -/
def OD7_ (T : Zt) (c b k : Int) : Prop := ¬ (T 102 (T 100 c 7 + k) 6 ≠ -1 ∨ (T 102 (T 100 c 7 + k) 10 ≠ 0 ∧ T 103 (T 100 c 7 + k) 3 ≠ 0)) ∧ ¬ (T 102 (T 100 c 7 + k) 3 = b ∨ T 102 (T 100 c 7 + k) 4 = b)
/-- match k of a competition is open, and a club is in it -/
def OM7_ (T : Zt) (c b k : Int) : Prop := ¬ (T 102 (T 100 c 7 + k) 6 ≠ -1 ∨ (T 102 (T 100 c 7 + k) 10 ≠ 0 ∧ T 103 (T 100 c 7 + k) 3 ≠ 0)) ∧ (T 102 (T 100 c 7 + k) 3 = b ∨ T 102 (T 100 c 7 + k) 4 = b)
theorem dl7_m {D : Int → Prop} {m : Nat} : ∀ n : Nat, (dl9_ D m).1 ≤ (dl9_ D (m + n)).1
  | 0 => Int.le_refl _
  | n + 1 => by
    have ih := dl7_m (D := D) (m := m) n
    by_cases z : D ((m + n : Nat) : Int)
    · have e := dl_t (D := D) (m := ((m + n : Nat) : Int)) (by omega) z
      rw [show (((m + n : Nat) : Int) + 1).toNat = m + (n + 1) by omega, show (((m + n : Nat) : Int)).toNat = m + n by omega] at e
      rw [e]
      show _ ≤ (dl9_ D (m + n)).1 + 1
      omega
    · have e := dl_f (D := D) (m := ((m + n : Nat) : Int)) (by omega) z
      rw [show (((m + n : Nat) : Int) + 1).toNat = m + (n + 1) by omega, show (((m + n : Nat) : Int)).toNat = m + n by omega] at e
      rw [e]
      exact ih
theorem dl7_l {D : Int → Prop} {k n : Int} (h0 : 0 ≤ k) (h : k ≤ n) : (dl9_ D k.toNat).1 ≤ (dl9_ D n.toNat).1 := by
  have g := dl7_m (D := D) (m := k.toNat) (n.toNat - k.toNat)
  rw [show k.toNat + (n.toNat - k.toNat) = n.toNat by omega] at g
  exact g
/-- the list goes up -/
theorem dl7_u {D : Int → Prop} : ∀ m : Nat, ∀ i j : Int, 0 ≤ i → i < j → j < (dl9_ D m).1 → (dl9_ D m).2 i < (dl9_ D m).2 j
  | 0, i, j, a, b, c => by
    have c' : j < 0 := c
    omega
  | m + 1, i, j, a, b, c => by
    by_cases z : D (m : Int)
    · have en : dl9_ D (m + 1) = ((dl9_ D m).1 + 1, fu_ (dl9_ D m).2 (dl9_ D m).1 (m : Int)) := cz_t z
      rw [en] at c ⊢
      have c' : j < (dl9_ D m).1 + 1 := c
      show fu_ (dl9_ D m).2 (dl9_ D m).1 (m : Int) i < fu_ (dl9_ D m).2 (dl9_ D m).1 (m : Int) j
      rw [fu_n (show i ≠ (dl9_ D m).1 by omega)]
      by_cases y : j = (dl9_ D m).1
      · rw [y, fu_s]
        exact ((dl_b (D := D) m).2 i a (by omega)).2
      · rw [fu_n y]
        exact dl7_u m i j a b (by omega)
    · have en : dl9_ D (m + 1) = dl9_ D m := cz_f z
      rw [en] at c ⊢
      exact dl7_u m i j a b c
/-- what stands in the list is such a one -/
theorem dl7_d {D : Int → Prop} : ∀ m : Nat, ∀ j : Int, 0 ≤ j → j < (dl9_ D m).1 → D ((dl9_ D m).2 j)
  | 0, j, a, b => by
    have b' : j < 0 := b
    omega
  | m + 1, j, a, b => by
    by_cases z : D (m : Int)
    · have en : dl9_ D (m + 1) = ((dl9_ D m).1 + 1, fu_ (dl9_ D m).2 (dl9_ D m).1 (m : Int)) := cz_t z
      rw [en] at b ⊢
      have b' : j < (dl9_ D m).1 + 1 := b
      show D (fu_ (dl9_ D m).2 (dl9_ D m).1 (m : Int) j)
      by_cases y : j = (dl9_ D m).1
      · rw [y, fu_s]
        exact z
      · rw [fu_n y]
        exact dl7_d m j a (by omega)
    · have en : dl9_ D (m + 1) = dl9_ D m := cz_f z
      rw [en] at b ⊢
      exact dl7_d m j a b
theorem bk_X9_listOpen_e_7 : ck_ fX9 (some .boolean) cX9_listOpen 7 [.iload 3, .aload 0, .tableswitch 0 9 5 #[], .tableswitch 0 0 8 #[], .if_icmp .ge 124, .aload 0, .tableswitch 0 9 0 #[], .tableswitch 0 6 3 #[], .aload 0, .tableswitch 0 9 5 #[], .tableswitch 0 0 7 #[], .iload 3, .iadd, .aaload, .astore 4, .aload 4] 39 = true := qck_r (nn_ _) (by decide +kernel)
theorem bs_X9_listOpen_e_7 {P : Zt → Option Zv → Prop} (K : Int → Zl → List Zv → Zt → Prop) : sx_ K P [.iload 3, .aload 0, .tableswitch 0 9 5 #[], .tableswitch 0 0 8 #[], .if_icmp .ge 124, .aload 0, .tableswitch 0 9 0 #[], .tableswitch 0 6 3 #[], .aload 0, .tableswitch 0 9 5 #[], .tableswitch 0 0 7 #[], .iload 3, .iadd, .aaload, .astore 4, .aload 4] 39 = x_iload 3 (x_aload 0 (x_g5 109 100 5 (x_g0 100 8 0 400 (x_if_icmp .ge 124 K (x_aload 0 (x_g1 109 106 (x_g1 106 523 (x_aload 0 (x_g5 109 100 5 (x_g0 100 7 0 400 (x_iload 3 (x_iadd (x_aaload (x_astore 4 (x_aload 4 (K 39)))))))))))))))) := ((xe_iload 3).trans (congrArg (x_iload 3) ((xe_aload 0).trans (congrArg (x_aload 0) ((xe_g5 (kk := 109) rfl tl_9_5).trans (congrArg (x_g5 109 100 5) ((xe_g0 (kk := 100) rfl tl_0_8).trans (congrArg (x_g0 100 8 0 400) ((xe_if_icmp .ge 124).trans (congrArg (x_if_icmp .ge 124 K) ((xe_aload 0).trans (congrArg (x_aload 0) ((xe_g1 (kk := 109) rfl tl_9_0).trans (congrArg (x_g1 109 106) ((xe_g1 (kk := 106) rfl tl_6_3).trans (congrArg (x_g1 106 523) ((xe_aload 0).trans (congrArg (x_aload 0) ((xe_g5 (kk := 109) rfl tl_9_5).trans (congrArg (x_g5 109 100 5) ((xe_g0 (kk := 100) rfl tl_0_7).trans (congrArg (x_g0 100 7 0 400) ((xe_iload 3).trans (congrArg (x_iload 3) ((xe_iadd).trans (congrArg (x_iadd) ((xe_aaload).trans (congrArg (x_aaload) ((xe_astore 4).trans (congrArg (x_astore 4) ((xe_aload 4).trans (congrArg (x_aload 4) xe_nil))))))))))))))))))))))))))))))))
theorem bk_X9_listOpen_e_124 : ck_ fX9 (some .boolean) cX9_listOpen 124 [.iconst 1, .ireturn] 126 = true := qck_r (nn_ _) (by decide +kernel)
theorem bs_X9_listOpen_e_124 {P : Zt → Option Zv → Prop} (K : Int → Zl → List Zv → Zt → Prop) : sx_ K P [.iconst 1, .ireturn] 126 = x_iconst 1 (x_ireturn P) := ((xe_iconst 1).trans (congrArg (x_iconst 1) (xe_ireturn)))
theorem bk_X9_listOpen_e_42 : ck_ fX9 (some .boolean) cX9_listOpen 42 [.ifCond .eq 48, .goto 118] 48 = true := qck_r (nn_ _) (by decide +kernel)
theorem bs_X9_listOpen_e_42 {P : Zt → Option Zv → Prop} (K : Int → Zl → List Zv → Zt → Prop) : sx_ K P [.ifCond .eq 48, .goto 118] 48 = x_ifCond .eq 48 K (x_goto 118 K) := ((xe_ifCond .eq 48).trans (congrArg (x_ifCond .eq 48 K) (xe_goto 118)))
theorem bk_X9_listOpen_e_48 : ck_ fX9 (some .boolean) cX9_listOpen 48 [.aload 4, .iload 1] 51 = true := qck_r (nn_ _) (by decide +kernel)
theorem bs_X9_listOpen_e_48 {P : Zt → Option Zv → Prop} (K : Int → Zl → List Zv → Zt → Prop) : sx_ K P [.aload 4, .iload 1] 51 = x_aload 4 (x_iload 1 (K 51)) := ((xe_aload 4).trans (congrArg (x_aload 4) ((xe_iload 1).trans (congrArg (x_iload 1) xe_nil))))
theorem bk_X9_listOpen_e_54 : ck_ fX9 (some .boolean) cX9_listOpen 54 [.ifCond .eq 84, .aload 0, .tableswitch 0 9 4 #[], .aload 4, .tableswitch 0 2 1 #[], .aload 4, .tableswitch 0 2 3 #[], .iload 1, .if_icmp .ne 79, .iconst 0, .goto 80] 79 = true := qck_r (nn_ _) (by decide +kernel)
theorem bs_X9_listOpen_e_54 {P : Zt → Option Zv → Prop} (K : Int → Zl → List Zv → Zt → Prop) : sx_ K P [.ifCond .eq 84, .aload 0, .tableswitch 0 9 4 #[], .aload 4, .tableswitch 0 2 1 #[], .aload 4, .tableswitch 0 2 3 #[], .iload 1, .if_icmp .ne 79, .iconst 0, .goto 80] 79 = x_ifCond .eq 84 K (x_aload 0 (x_g1 109 584 (x_aload 4 (x_g0 102 1 0 399 (x_aload 4 (x_g0 102 3 0 11 (x_iload 1 (x_if_icmp .ne 79 K (x_iconst 0 (x_goto 80 K)))))))))) := ((xe_ifCond .eq 84).trans (congrArg (x_ifCond .eq 84 K) ((xe_aload 0).trans (congrArg (x_aload 0) ((xe_g1 (kk := 109) rfl tl_9_4).trans (congrArg (x_g1 109 584) ((xe_aload 4).trans (congrArg (x_aload 4) ((xe_g0 (kk := 102) rfl tl_2_1).trans (congrArg (x_g0 102 1 0 399) ((xe_aload 4).trans (congrArg (x_aload 4) ((xe_g0 (kk := 102) rfl tl_2_3).trans (congrArg (x_g0 102 3 0 11) ((xe_iload 1).trans (congrArg (x_iload 1) ((xe_if_icmp .ne 79).trans (congrArg (x_if_icmp .ne 79 K) ((xe_iconst 0).trans (congrArg (x_iconst 0) (xe_goto 80)))))))))))))))))))))
theorem bk_X9_listOpen_e_84 : ck_ fX9 (some .boolean) cX9_listOpen 84 [.aload 0, .tableswitch 0 9 9 #[], .iload 2, .if_icmp .lt 94, .iconst 0, .ireturn] 94 = true := qck_r (nn_ _) (by decide +kernel)
theorem bs_X9_listOpen_e_84 {P : Zt → Option Zv → Prop} (K : Int → Zl → List Zv → Zt → Prop) : sx_ K P [.aload 0, .tableswitch 0 9 9 #[], .iload 2, .if_icmp .lt 94, .iconst 0, .ireturn] 94 = x_aload 0 (x_g0 109 9 0 40 (x_iload 2 (x_if_icmp .lt 94 K (x_iconst 0 (x_ireturn P))))) := ((xe_aload 0).trans (congrArg (x_aload 0) ((xe_g0 (kk := 109) rfl tl_9_9).trans (congrArg (x_g0 109 9 0 40) ((xe_iload 2).trans (congrArg (x_iload 2) ((xe_if_icmp .lt 94).trans (congrArg (x_if_icmp .lt 94 K) ((xe_iconst 0).trans (congrArg (x_iconst 0) (xe_ireturn)))))))))))
theorem bk_X9_listOpen_e_94 : ck_ fX9 (some .boolean) cX9_listOpen 94 [.aload 0, .tableswitch 0 9 8 #[], .aload 0, .tableswitch 0 9 9 #[], .aload 4, .tableswitch 0 2 1 #[], .iastore, .aload 0, .dup, .tableswitch 0 9 9 #[], .iconst 1, .iadd, .tableswitch 1 9 9 #[], .iinc 3 1, .goto 7] 124 = true := qck_r (nn_ _) (by decide +kernel)
theorem bs_X9_listOpen_e_94 {P : Zt → Option Zv → Prop} (K : Int → Zl → List Zv → Zt → Prop) : sx_ K P [.aload 0, .tableswitch 0 9 8 #[], .aload 0, .tableswitch 0 9 9 #[], .aload 4, .tableswitch 0 2 1 #[], .iastore, .aload 0, .dup, .tableswitch 0 9 9 #[], .iconst 1, .iadd, .tableswitch 1 9 9 #[], .iinc 3 1, .goto 7] 124 = x_aload 0 (x_g1 109 588 (x_aload 0 (x_g0 109 9 0 40 (x_aload 4 (x_g0 102 1 0 399 (x_iastore (x_aload 0 (x_dup (x_g0 109 9 0 40 (x_iconst 1 (x_iadd (x_p 109 9 0 40 (x_iinc 3 1 (x_goto 7 K)))))))))))))) := ((xe_aload 0).trans (congrArg (x_aload 0) ((xe_g1 (kk := 109) rfl tl_9_8).trans (congrArg (x_g1 109 588) ((xe_aload 0).trans (congrArg (x_aload 0) ((xe_g0 (kk := 109) rfl tl_9_9).trans (congrArg (x_g0 109 9 0 40) ((xe_aload 4).trans (congrArg (x_aload 4) ((xe_g0 (kk := 102) rfl tl_2_1).trans (congrArg (x_g0 102 1 0 399) ((xe_iastore).trans (congrArg (x_iastore) ((xe_aload 0).trans (congrArg (x_aload 0) ((xe_dup).trans (congrArg (x_dup) ((xe_g0 (kk := 109) rfl tl_9_9).trans (congrArg (x_g0 109 9 0 40) ((xe_iconst 1).trans (congrArg (x_iconst 1) ((xe_iadd).trans (congrArg (x_iadd) ((xe_p (kk := 109) rfl tl_9_9).trans (congrArg (x_p 109 9 0 40) ((xe_iinc 3 1).trans (congrArg (x_iinc 3 1) (xe_goto 7)))))))))))))))))))))))))))))
theorem bk_X9_listOpen_e_79 : ck_ fX9 (some .boolean) cX9_listOpen 79 [.iconst 2, .iastore, .goto 118] 84 = true := qck_r (nn_ _) (by decide +kernel)
theorem bs_X9_listOpen_e_79 {P : Zt → Option Zv → Prop} (K : Int → Zl → List Zv → Zt → Prop) : sx_ K P [.iconst 2, .iastore, .goto 118] 84 = x_iconst 2 (x_iastore (x_goto 118 K)) := ((xe_iconst 2).trans (congrArg (x_iconst 2) ((xe_iastore).trans (congrArg (x_iastore) (xe_goto 118)))))
theorem bk_X9_listOpen_e_118 : ck_ fX9 (some .boolean) cX9_listOpen 118 [.iinc 3 1, .goto 7] 124 = true := qck_r (nn_ _) (by decide +kernel)
theorem bs_X9_listOpen_e_118 {P : Zt → Option Zv → Prop} (K : Int → Zl → List Zv → Zt → Prop) : sx_ K P [.iinc 3 1, .goto 7] 124 = x_iinc 3 1 (x_goto 7 K) := ((xe_iinc 3 1).trans (congrArg (x_iinc 3 1) (xe_goto 7)))
theorem bk_X9_listOpen_e_80 : ck_ fX9 (some .boolean) cX9_listOpen 80 [.iastore, .goto 118] 84 = true := qck_r (nn_ _) (by decide +kernel)
theorem bs_X9_listOpen_e_80 {P : Zt → Option Zv → Prop} (K : Int → Zl → List Zv → Zt → Prop) : sx_ K P [.iastore, .goto 118] 84 = x_iastore (x_goto 118 K) := ((xe_iastore).trans (congrArg (x_iastore) (xe_goto 118)))
theorem bk_X9_listOpen_e_0 : ck_ fX9 (some .boolean) cX9_listOpen 0 [.aload 0, .iconst 0, .tableswitch 1 9 9 #[], .iconst 0, .istore 3] 7 = true := qck_r (nn_ _) (by decide +kernel)
theorem bs_X9_listOpen_e_0 {P : Zt → Option Zv → Prop} (K : Int → Zl → List Zv → Zt → Prop) : sx_ K P [.aload 0, .iconst 0, .tableswitch 1 9 9 #[], .iconst 0, .istore 3] 7 = x_aload 0 (x_iconst 0 (x_p 109 9 0 40 (x_iconst 0 (x_istore 3 (K 7))))) := ((xe_aload 0).trans (congrArg (x_aload 0) ((xe_iconst 0).trans (congrArg (x_iconst 0) ((xe_p (kk := 109) rfl tl_9_9).trans (congrArg (x_p 109 9 0 40) ((xe_iconst 0).trans (congrArg (x_iconst 0) ((xe_istore 3).trans (congrArg (x_istore 3) xe_nil))))))))))
abbrev po_X9_listOpen_e (T : Zt) (b n : Int) : Zt → Option Zv → Prop := fun T' r => ∃ x : Int, r = some (vI x) ∧ fr_ [(109, [9]), (584, []), (588, [])] T T' ∧ ((x = 1 ∧ (T' 109 0 9 = (dl9_ (OD7_ T (T 109 0 5 - 1) b) (T 100 (T 109 0 5 - 1) 8).toNat).1 ∧ ∀ j : Int, 0 ≤ j → j < T' 109 0 9 → T' 588 0 j = T 100 (T 109 0 5 - 1) 7 + (dl9_ (OD7_ T (T 109 0 5 - 1) b) (T 100 (T 109 0 5 - 1) 8).toNat).2 j) ∧ (∀ j : Int, 0 ≤ j → j < T 100 (T 109 0 5 - 1) 8 → OM7_ T (T 109 0 5 - 1) b j → T' 584 0 (T 100 (T 109 0 5 - 1) 7 + j) = cz_ (T 102 (T 100 (T 109 0 5 - 1) 7 + j) 3 = b) 0 2) ∧ (∀ y : Int, (∀ j : Int, 0 ≤ j → j < T 100 (T 109 0 5 - 1) 8 → OM7_ T (T 109 0 5 - 1) b j → y ≠ T 100 (T 109 0 5 - 1) 7 + j) → T' 584 0 y = T 584 0 y) ∧ T' 109 0 9 ≤ n) ∨ (x = 0 ∧ n < (dl9_ (OD7_ T (T 109 0 5 - 1) b) (T 100 (T 109 0 5 - 1) 8).toNat).1))
set_option maxHeartbeats 4000000 in
theorem ct_X9_listOpen_e {T : Zt} {b n : Int} (hka : KA_ T) (hkm : KM_ T) (hkc : KC_ T) (hc9 : 1 ≤ T 109 0 5 ∧ T 109 0 5 ≤ T 106 0 2) (hn : 0 ≤ n ∧ n ≤ 40) : Ct_ yX9_listOpen zX9_listOpen T [vR 109 0, vI b, vI n] (po_X9_listOpen_e T b n) := by
  refine ct_of pn_9 rfl rfl (Nat.le_of_ble_eq_true rfl) (fun hT hav => ?_)
  have hr_b : -2147483648 ≤ b ∧ b ≤ 2147483647 := hav (vI b) (List.mem_cons_of_mem _ List.mem_cons_self)
  have hr_n : -2147483648 ≤ n ∧ n ≤ 2147483647 := hav (vI n) (List.mem_cons_of_mem _ (List.mem_cons_of_mem _ List.mem_cons_self))
  have hz : zX9_listOpen.2.2.2.1 = some .boolean → ∀ (T' : Zt) (x : Int), po_X9_listOpen_e T b n T' (some (vI x)) → 0 ≤ x ∧ x ≤ 1 := fun _ T' x h => by obtain ⟨y, e, -, hy⟩ := h; cases e; rcases hy with ⟨z, -⟩ | ⟨z, -⟩ <;> omega
  have hk2 := hkc (T 109 0 5 - 1) (by omega) (by omega)
  have hb_matchCount : 0 ≤ T 106 0 4 ∧ T 106 0 4 ≤ 400 := bd_f hT 106 4 tl_6_4 0
  have hfm : 0 ≤ T 100 (T 109 0 5 - 1) 7 ∧ T 100 (T 109 0 5 - 1) 7 ≤ 400 := bd_f hT 100 7 tl_0_7 (T 109 0 5 - 1)
  have hmc : 0 ≤ T 100 (T 109 0 5 - 1) 8 ∧ T 100 (T 109 0 5 - 1) 8 ≤ 400 := bd_f hT 100 8 tl_0_8 (T 109 0 5 - 1)
  show J_ zX9_listOpen T (po_X9_listOpen_e T b n) 0 0 0 [some (vR 109 0), some (vI b), some (vI n), none, none] [] T
  have c_7 : ∀ (nn : Nat) (k : Int) (T1 : Zt), ((T 100 (T 109 0 5 - 1) 8 - k).toNat) ≤ nn → (fr_ [(109, [9]), (584, []), (588, [])] T T1) → (0 ≤ k ∧ k ≤ T 100 (T 109 0 5 - 1) 8 ∧ 0 ≤ T1 109 0 9 ∧ T1 109 0 9 ≤ n) → (T1 109 0 9 = (dl9_ (OD7_ T (T 109 0 5 - 1) b) (k).toNat).1 ∧ ∀ j : Int, 0 ≤ j → j < T1 109 0 9 → T1 588 0 j = T 100 (T 109 0 5 - 1) 7 + (dl9_ (OD7_ T (T 109 0 5 - 1) b) (k).toNat).2 j) → (∀ j : Int, 0 ≤ j → j < k → OM7_ T (T 109 0 5 - 1) b j → T1 584 0 (T 100 (T 109 0 5 - 1) 7 + j) = cz_ (T 102 (T 100 (T 109 0 5 - 1) 7 + j) 3 = b) 0 2) → (∀ y : Int, (∀ j : Int, 0 ≤ j → j < k → OM7_ T (T 109 0 5 - 1) b j → y ≠ T 100 (T 109 0 5 - 1) 7 + j) → T1 584 0 y = T 584 0 y) → J_ zX9_listOpen T (po_X9_listOpen_e T b n) 0 0 7 [some (vR 109 0), some (vI b), some (vI n), some (vI k), none] [] T1 := by
    intro nn
    induction nn using Nat.strongRecOn with
    | _ nn ih_7 =>
      intro k T1 hm_7 hf_7 i1 ol1 rw1 ro1
      replace hm_7 := fun (_ : Unit) => hm_7
      refine j_blx (F := fX9) tb_X9 (nn_ _) bk_X9_listOpen_e_7 bs_X9_listOpen_e_7 hz (fun K hK => ?_)
      have e2 : T1 109 0 5 = T 109 0 5 := hf_7 109 0 5 rfl
      refine And.intro (fun c1 => ?_) (fun c1 => ?_)
      · exact absurd c1 (by omega)
      · intro b3 b3b
        have e4 : T1 100 (T 109 0 5 - 1) 8 = T 100 (T 109 0 5 - 1) 8 := hf_7 100 (T 109 0 5 - 1) 8 rfl
        have e5 : T1 100 (T1 109 0 5 - 1) 8 = T 100 (T 109 0 5 - 1) 8 := by rw [e2]; exact e4
        rw [e5] at b3 b3b ⊢
        refine And.intro (fun c6 => ?_) (fun c6 => ?_)
        · refine hK 124 _ [] T1 ?_
          refine j_blx (F := fX9) tb_X9 (nn_ _) bk_X9_listOpen_e_124 bs_X9_listOpen_e_124 hz (fun K hK => ?_)
          refine (show po_X9_listOpen_e T b n T1 (some (vI 1)) from ?_)
          have ek : k = T 100 (T 109 0 5 - 1) 8 := by omega
          rw [ek] at ol1 rw1 ro1
          exact ⟨_, rfl, fr_t (fr_0 _ _) (fr_s hf_7 rfl), Or.inl ⟨rfl, ⟨ol1.1, ol1.2⟩, rw1, ro1, by omega⟩⟩
        · have e8 : T1 109 0 5 = T 109 0 5 := hf_7 109 0 5 rfl
          refine And.intro (fun c7 => ?_) (fun c7 => ?_)
          · exact absurd c7 (by omega)
          · intro b9 b9b
            have e10 : T1 100 (T 109 0 5 - 1) 7 = T 100 (T 109 0 5 - 1) 7 := hf_7 100 (T 109 0 5 - 1) 7 rfl
            have e11 : T1 100 (T1 109 0 5 - 1) 7 = T 100 (T 109 0 5 - 1) 7 := by rw [e8]; exact e10
            rw [e11] at b9 b9b ⊢
            refine rg_i (by omega) ?_
            refine ix_i (by omega) ?_
            have e13 : T1 523 0 ((T 100 (T 109 0 5 - 1) 7) + k) = T 523 0 ((T 100 (T 109 0 5 - 1) 7) + k) := hf_7 523 0 ((T 100 (T 109 0 5 - 1) 7) + k) rfl
            refine And.intro (fun c12 => ?_) (fun c12 => ?_)
            · exact absurd (show T 523 0 (T 100 (T 109 0 5 - 1) 7 + k) = 0 by omega) (hka.2 _ (by omega) (by omega))
            · refine hK 39 [some (vR 109 0), some (vI b), some (vI n), some (vI k), some (vR 102 ((T 100 (T 109 0 5 - 1) 7) + k))] [vR 102 ((T 100 (T 109 0 5 - 1) 7) + k)] T1 ?_
              refine j_callV (y := yX2_isDecided) (Yc := zX2_isDecided) (rest := []) [] (ct_X2_isDecided_e (T := T1)) cl_X9_109 (qd_c (by decide +kernel)) (nn_ _) rfl (rf_of rfl) (Nat.le_of_ble_eq_true rfl) (Nat.le_of_ble_eq_true rfl) (Nat.le_of_ble_eq_true rfl) rfl ?_
              rintro _ _ ⟨rfl, x14, rfl, hx14⟩
              show J_ zX9_listOpen T (po_X9_listOpen_e T b n) 0 0 42 _ [vI x14] T1
              refine j_blx (F := fX9) tb_X9 (nn_ _) bk_X9_listOpen_e_42 bs_X9_listOpen_e_42 hz (fun K hK => ?_)
              refine And.intro (fun c15 => ?_) (fun c15 => ?_)
              · replace hx14 := hx14.resolve_left (fun z => absurd (c15.symm.trans z.1) (by decide))
                clear c15
                refine hK 48 _ [] T1 ?_
                refine j_blx (F := fX9) tb_X9 (nn_ _) bk_X9_listOpen_e_48 bs_X9_listOpen_e_48 hz (fun K hK => ?_)
                refine hK 51 _ [vI b, vR 102 ((T 100 (T 109 0 5 - 1) 7) + k)] T1 ?_
                refine j_callV (y := yX2_has) (Yc := zX2_has) (rest := []) [vI b] (ct_X2_has_e (T := T1)) cl_X9_115 (qd_c (by decide +kernel)) (nn_ _) rfl (rf_of rfl) (Nat.le_of_ble_eq_true rfl) (Nat.le_of_ble_eq_true rfl) (Nat.le_of_ble_eq_true rfl) rfl ?_
                rintro _ _ ⟨rfl, x16, rfl, hx16⟩
                show J_ zX9_listOpen T (po_X9_listOpen_e T b n) 0 0 54 _ [vI x16] T1
                refine j_blx (F := fX9) tb_X9 (nn_ _) bk_X9_listOpen_e_54 bs_X9_listOpen_e_54 hz (fun K hK => ?_)
                refine And.intro (fun c17 => ?_) (fun c17 => ?_)
                · replace hx16 := hx16.resolve_left (fun z => absurd (c17.symm.trans z.1) (by decide))
                  clear c17
                  refine hK 84 _ [] T1 ?_
                  refine j_blx (F := fX9) tb_X9 (nn_ _) bk_X9_listOpen_e_84 bs_X9_listOpen_e_84 hz (fun K hK => ?_)
                  intro b18 b18b
                  refine And.intro (fun c19 => ?_) (fun c19 => ?_)
                  · refine hK 94 _ [] T1 ?_
                    refine j_blx (F := fX9) tb_X9 (nn_ _) bk_X9_listOpen_e_94 bs_X9_listOpen_e_94 hz (fun K hK => ?_)
                    intro b20 b20b
                    intro b21 b21b
                    have e22 : T1 102 ((T 100 (T 109 0 5 - 1) 7) + k) 1 = T 102 ((T 100 (T 109 0 5 - 1) 7) + k) 1 := hf_7 102 ((T 100 (T 109 0 5 - 1) 7) + k) 1 rfl
                    rw [e22] at b21 b21b ⊢
                    refine iy_i (by omega) (by omega) ?_
                    refine x_nm (fun U23 hU23 => ?_)
                    have e24 := up_f hU23
                    intro b25 b25b
                    have e26 : U23 109 0 9 = T1 109 0 9 := up_k hU23 (by exact Nat.ne_of_beq_eq_false rfl) 0 9
                    rw [e26] at b25 b25b ⊢
                    refine rg_i (by omega) ?_
                    refine bd_i (by omega) ?_
                    refine x_nm (fun U27 hU27 => ?_)
                    have e28 := up_f hU27
                    refine rg_i (by omega) ?_
                    refine hK 7 [some (vR 109 0), some (vI b), some (vI n), some (vI (k + 1)), some (vR 102 ((T 100 (T 109 0 5 - 1) 7) + k))] [] U27 ?_
                    refine j_drq [some (vR 109 0), some (vI b), some (vI n), some (vI (k + 1)), none] (drq_s (drq_s (drq_s (drq_s (drq_n drq_0))))) ?_
                    have e29 : U27 109 0 9 = (T1 109 0 9) + 1 := up_f hU27
                    refine ih_7 _ ?_ (k + 1) U27 (Nat.le_refl _) ?_ ?_ ?_ ?_ ?_
                    · have hm_7 := hm_7 (); omega
                    · exact fr_u (fr_u (fr_t (fr_0 _ _) (fr_s hf_7 rfl)) hU23 rfl) hU27 rfl
                    · omega
                    · have z0 : T1 102 (T 100 (T 109 0 5 - 1) 7 + k) 6 = T 102 (T 100 (T 109 0 5 - 1) 7 + k) 6 := hf_7 102 _ 6 rfl
                      have z1 : T1 102 (T 100 (T 109 0 5 - 1) 7 + k) 10 = T 102 (T 100 (T 109 0 5 - 1) 7 + k) 10 := hf_7 102 _ 10 rfl
                      have z2 : T1 103 (T 100 (T 109 0 5 - 1) 7 + k) 3 = T 103 (T 100 (T 109 0 5 - 1) 7 + k) 3 := hf_7 103 _ 3 rfl
                      have z3 : T1 102 (T 100 (T 109 0 5 - 1) 7 + k) 3 = T 102 (T 100 (T 109 0 5 - 1) 7 + k) 3 := hf_7 102 _ 3 rfl
                      have z4 : T1 102 (T 100 (T 109 0 5 - 1) 7 + k) 4 = T 102 (T 100 (T 109 0 5 - 1) 7 + k) 4 := hf_7 102 _ 4 rfl
                      have z5 : T1 102 (T 100 (T 109 0 5 - 1) 7 + k) 1 = T 102 (T 100 (T 109 0 5 - 1) 7 + k) 1 := hf_7 102 _ 1 rfl
                      have z6 := hkm (T 100 (T 109 0 5 - 1) 7 + k) (by omega) (by omega)
                      have y0 := ol1.1
                      rw [dl_t (by omega) (show OD7_ T (T 109 0 5 - 1) b k by unfold OD7_; omega)]
                      refine ⟨by show U27 109 0 9 = (dl9_ (OD7_ T (T 109 0 5 - 1) b) k.toNat).1 + 1; have y := up_f hU27; omega, fun j a b9 => ?_⟩
                      have y1 := up_f hU27
                      show U27 588 0 j = T 100 (T 109 0 5 - 1) 7 + fu_ (dl9_ (OD7_ T (T 109 0 5 - 1) b) k.toNat).2 (dl9_ (OD7_ T (T 109 0 5 - 1) b) k.toNat).1 k j
                      rw [up_k hU27 (by exact Nat.ne_of_beq_eq_false rfl) 0 j]
                      by_cases z : j = (dl9_ (OD7_ T (T 109 0 5 - 1) b) k.toNat).1
                      · rw [z, fu_s, ← y0]
                        have y2 := up_f hU23
                        omega
                      · rw [fu_n z, up_g hU23 (fun q => z (by omega))]
                        exact ol1.2 j a (by omega)
                    · have z0 : T1 102 (T 100 (T 109 0 5 - 1) 7 + k) 6 = T 102 (T 100 (T 109 0 5 - 1) 7 + k) 6 := hf_7 102 _ 6 rfl
                      have z1 : T1 102 (T 100 (T 109 0 5 - 1) 7 + k) 10 = T 102 (T 100 (T 109 0 5 - 1) 7 + k) 10 := hf_7 102 _ 10 rfl
                      have z2 : T1 103 (T 100 (T 109 0 5 - 1) 7 + k) 3 = T 103 (T 100 (T 109 0 5 - 1) 7 + k) 3 := hf_7 103 _ 3 rfl
                      have z3 : T1 102 (T 100 (T 109 0 5 - 1) 7 + k) 3 = T 102 (T 100 (T 109 0 5 - 1) 7 + k) 3 := hf_7 102 _ 3 rfl
                      have z4 : T1 102 (T 100 (T 109 0 5 - 1) 7 + k) 4 = T 102 (T 100 (T 109 0 5 - 1) 7 + k) 4 := hf_7 102 _ 4 rfl
                      have z5 : T1 102 (T 100 (T 109 0 5 - 1) 7 + k) 1 = T 102 (T 100 (T 109 0 5 - 1) 7 + k) 1 := hf_7 102 _ 1 rfl
                      have z6 := hkm (T 100 (T 109 0 5 - 1) 7 + k) (by omega) (by omega)
                      intro j a b c9
                      rw [up_k hU27 (by exact Nat.ne_of_beq_eq_false rfl), up_k hU23 (by exact Nat.ne_of_beq_eq_false rfl)]
                      exact rw1 j a (by rcases (by omega : j = k ∨ j < k) with y | y; (rw [y] at c9; unfold OM7_ at c9; omega); exact y) c9
                    · exact fun y hy => (up_k hU27 (by exact Nat.ne_of_beq_eq_false rfl) 0 y).trans ((up_k hU23 (by exact Nat.ne_of_beq_eq_false rfl) 0 y).trans (ro1 y (fun j a b => hy j a (by omega))))
                  · refine (show po_X9_listOpen_e T b n T1 (some (vI 0)) from ?_)
                    have z0 : T1 102 (T 100 (T 109 0 5 - 1) 7 + k) 6 = T 102 (T 100 (T 109 0 5 - 1) 7 + k) 6 := hf_7 102 _ 6 rfl
                    have z1 : T1 102 (T 100 (T 109 0 5 - 1) 7 + k) 10 = T 102 (T 100 (T 109 0 5 - 1) 7 + k) 10 := hf_7 102 _ 10 rfl
                    have z2 : T1 103 (T 100 (T 109 0 5 - 1) 7 + k) 3 = T 103 (T 100 (T 109 0 5 - 1) 7 + k) 3 := hf_7 103 _ 3 rfl
                    have z3 : T1 102 (T 100 (T 109 0 5 - 1) 7 + k) 3 = T 102 (T 100 (T 109 0 5 - 1) 7 + k) 3 := hf_7 102 _ 3 rfl
                    have z4 : T1 102 (T 100 (T 109 0 5 - 1) 7 + k) 4 = T 102 (T 100 (T 109 0 5 - 1) 7 + k) 4 := hf_7 102 _ 4 rfl
                    have z5 : T1 102 (T 100 (T 109 0 5 - 1) 7 + k) 1 = T 102 (T 100 (T 109 0 5 - 1) 7 + k) 1 := hf_7 102 _ 1 rfl
                    have z6 := hkm (T 100 (T 109 0 5 - 1) 7 + k) (by omega) (by omega)
                    have y0 := ol1.1
                    have y1 := dl7_l (D := (OD7_ T (T 109 0 5 - 1) b)) (k := k + 1) (n := T 100 (T 109 0 5 - 1) 8) (by omega) (by omega)
                    rw [dl_t (by omega) (show OD7_ T (T 109 0 5 - 1) b k by unfold OD7_; omega)] at y1
                    have y2 : (dl9_ (OD7_ T (T 109 0 5 - 1) b) k.toNat).1 + 1 ≤ (dl9_ (OD7_ T (T 109 0 5 - 1) b) (T 100 (T 109 0 5 - 1) 8).toNat).1 := y1
                    exact ⟨_, rfl, fr_t (fr_0 _ _) (fr_s hf_7 rfl), Or.inr ⟨rfl, by omega⟩⟩
                · replace hx16 := hx16.resolve_right (fun z => c17 z.1)
                  clear c17
                  intro b30 b30b
                  have e31 : T1 102 ((T 100 (T 109 0 5 - 1) 7) + k) 1 = T 102 ((T 100 (T 109 0 5 - 1) 7) + k) 1 := hf_7 102 ((T 100 (T 109 0 5 - 1) 7) + k) 1 rfl
                  rw [e31] at b30 b30b ⊢
                  intro b32 b32b
                  have e33 : T1 102 ((T 100 (T 109 0 5 - 1) 7) + k) 3 = T 102 ((T 100 (T 109 0 5 - 1) 7) + k) 3 := hf_7 102 ((T 100 (T 109 0 5 - 1) 7) + k) 3 rfl
                  rw [e33] at b32 b32b ⊢
                  refine And.intro (fun c34 => ?_) (fun c34 => ?_)
                  · refine hK 79 _ [vI (T 102 ((T 100 (T 109 0 5 - 1) 7) + k) 1), vR 584 0] T1 ?_
                    refine j_blx (F := fX9) tb_X9 (nn_ _) bk_X9_listOpen_e_79 bs_X9_listOpen_e_79 hz (fun K hK => ?_)
                    refine iy_i (by omega) (by omega) ?_
                    refine x_nm (fun U35 hU35 => ?_)
                    have e36 := up_f hU35
                    refine hK 118 _ [] U35 ?_
                    refine j_blx (F := fX9) tb_X9 (nn_ _) bk_X9_listOpen_e_118 bs_X9_listOpen_e_118 hz (fun K hK => ?_)
                    refine rg_i (by omega) ?_
                    refine hK 7 [some (vR 109 0), some (vI b), some (vI n), some (vI (k + 1)), some (vR 102 ((T 100 (T 109 0 5 - 1) 7) + k))] [] U35 ?_
                    refine j_drq [some (vR 109 0), some (vI b), some (vI n), some (vI (k + 1)), none] (drq_s (drq_s (drq_s (drq_s (drq_n drq_0))))) ?_
                    have e37 : U35 109 0 9 = T1 109 0 9 := up_k hU35 (by exact Nat.ne_of_beq_eq_false rfl) 0 9
                    refine ih_7 _ ?_ (k + 1) U35 (Nat.le_refl _) ?_ ?_ ?_ ?_ ?_
                    · have hm_7 := hm_7 (); omega
                    · exact fr_u (fr_t (fr_0 _ _) (fr_s hf_7 rfl)) hU35 rfl
                    · omega
                    · have z0 : T1 102 (T 100 (T 109 0 5 - 1) 7 + k) 6 = T 102 (T 100 (T 109 0 5 - 1) 7 + k) 6 := hf_7 102 _ 6 rfl
                      have z1 : T1 102 (T 100 (T 109 0 5 - 1) 7 + k) 10 = T 102 (T 100 (T 109 0 5 - 1) 7 + k) 10 := hf_7 102 _ 10 rfl
                      have z2 : T1 103 (T 100 (T 109 0 5 - 1) 7 + k) 3 = T 103 (T 100 (T 109 0 5 - 1) 7 + k) 3 := hf_7 103 _ 3 rfl
                      have z3 : T1 102 (T 100 (T 109 0 5 - 1) 7 + k) 3 = T 102 (T 100 (T 109 0 5 - 1) 7 + k) 3 := hf_7 102 _ 3 rfl
                      have z4 : T1 102 (T 100 (T 109 0 5 - 1) 7 + k) 4 = T 102 (T 100 (T 109 0 5 - 1) 7 + k) 4 := hf_7 102 _ 4 rfl
                      have z5 : T1 102 (T 100 (T 109 0 5 - 1) 7 + k) 1 = T 102 (T 100 (T 109 0 5 - 1) 7 + k) 1 := hf_7 102 _ 1 rfl
                      have z6 := hkm (T 100 (T 109 0 5 - 1) 7 + k) (by omega) (by omega)
                      rw [dl_f (by omega) (by unfold OD7_; omega), up_k hU35 (by exact Nat.ne_of_beq_eq_false rfl) 0 9]
                      exact ⟨ol1.1, fun j a b => (up_k hU35 (by exact Nat.ne_of_beq_eq_false rfl) 0 j).trans (ol1.2 j a b)⟩
                    · have z0 : T1 102 (T 100 (T 109 0 5 - 1) 7 + k) 6 = T 102 (T 100 (T 109 0 5 - 1) 7 + k) 6 := hf_7 102 _ 6 rfl
                      have z1 : T1 102 (T 100 (T 109 0 5 - 1) 7 + k) 10 = T 102 (T 100 (T 109 0 5 - 1) 7 + k) 10 := hf_7 102 _ 10 rfl
                      have z2 : T1 103 (T 100 (T 109 0 5 - 1) 7 + k) 3 = T 103 (T 100 (T 109 0 5 - 1) 7 + k) 3 := hf_7 103 _ 3 rfl
                      have z3 : T1 102 (T 100 (T 109 0 5 - 1) 7 + k) 3 = T 102 (T 100 (T 109 0 5 - 1) 7 + k) 3 := hf_7 102 _ 3 rfl
                      have z4 : T1 102 (T 100 (T 109 0 5 - 1) 7 + k) 4 = T 102 (T 100 (T 109 0 5 - 1) 7 + k) 4 := hf_7 102 _ 4 rfl
                      have z5 : T1 102 (T 100 (T 109 0 5 - 1) 7 + k) 1 = T 102 (T 100 (T 109 0 5 - 1) 7 + k) 1 := hf_7 102 _ 1 rfl
                      have z6 := hkm (T 100 (T 109 0 5 - 1) 7 + k) (by omega) (by omega)
                      intro j a b c9
                      by_cases y : j = k
                      · rw [y]
                        have y1 := up_f hU35
                        have y2 : U35 584 0 (T 100 (T 109 0 5 - 1) 7 + k) = 2 := by rw [← show T 102 ((T 100 (T 109 0 5 - 1) 7) + k) 1 = T 100 (T 109 0 5 - 1) 7 + k by omega]; exact y1
                        rw [y2]
                        first
                        | (rw [cz_t (by omega)])
                        | (rw [cz_f (by omega)])
                      · rw [up_g hU35 (fun q => y (by omega))]
                        exact rw1 j a (by omega) c9
                    · have z0 : T1 102 (T 100 (T 109 0 5 - 1) 7 + k) 6 = T 102 (T 100 (T 109 0 5 - 1) 7 + k) 6 := hf_7 102 _ 6 rfl
                      have z1 : T1 102 (T 100 (T 109 0 5 - 1) 7 + k) 10 = T 102 (T 100 (T 109 0 5 - 1) 7 + k) 10 := hf_7 102 _ 10 rfl
                      have z2 : T1 103 (T 100 (T 109 0 5 - 1) 7 + k) 3 = T 103 (T 100 (T 109 0 5 - 1) 7 + k) 3 := hf_7 103 _ 3 rfl
                      have z3 : T1 102 (T 100 (T 109 0 5 - 1) 7 + k) 3 = T 102 (T 100 (T 109 0 5 - 1) 7 + k) 3 := hf_7 102 _ 3 rfl
                      have z4 : T1 102 (T 100 (T 109 0 5 - 1) 7 + k) 4 = T 102 (T 100 (T 109 0 5 - 1) 7 + k) 4 := hf_7 102 _ 4 rfl
                      have z5 : T1 102 (T 100 (T 109 0 5 - 1) 7 + k) 1 = T 102 (T 100 (T 109 0 5 - 1) 7 + k) 1 := hf_7 102 _ 1 rfl
                      have z6 := hkm (T 100 (T 109 0 5 - 1) 7 + k) (by omega) (by omega)
                      intro y hy
                      rw [up_g hU35 (fun q => hy k (by omega) (by omega) (by unfold OM7_; omega) (by omega))]
                      exact ro1 y (fun j a b => hy j a (by omega))
                  · refine hK 80 [some (vR 109 0), some (vI b), some (vI n), some (vI k), some (vR 102 ((T 100 (T 109 0 5 - 1) 7) + k))] [vI 0, vI (T 102 ((T 100 (T 109 0 5 - 1) 7) + k) 1), vR 584 0] T1 ?_
                    refine j_blx (F := fX9) tb_X9 (nn_ _) bk_X9_listOpen_e_80 bs_X9_listOpen_e_80 hz (fun K hK => ?_)
                    refine iy_i (by omega) (by omega) ?_
                    refine x_nm (fun U38 hU38 => ?_)
                    have e39 := up_f hU38
                    refine hK 118 _ [] U38 ?_
                    refine j_blx (F := fX9) tb_X9 (nn_ _) bk_X9_listOpen_e_118 bs_X9_listOpen_e_118 hz (fun K hK => ?_)
                    refine rg_i (by omega) ?_
                    refine hK 7 [some (vR 109 0), some (vI b), some (vI n), some (vI (k + 1)), some (vR 102 ((T 100 (T 109 0 5 - 1) 7) + k))] [] U38 ?_
                    refine j_drq [some (vR 109 0), some (vI b), some (vI n), some (vI (k + 1)), none] (drq_s (drq_s (drq_s (drq_s (drq_n drq_0))))) ?_
                    have e40 : U38 109 0 9 = T1 109 0 9 := up_k hU38 (by exact Nat.ne_of_beq_eq_false rfl) 0 9
                    refine ih_7 _ ?_ (k + 1) U38 (Nat.le_refl _) ?_ ?_ ?_ ?_ ?_
                    · have hm_7 := hm_7 (); omega
                    · exact fr_u (fr_t (fr_0 _ _) (fr_s hf_7 rfl)) hU38 rfl
                    · omega
                    · have z0 : T1 102 (T 100 (T 109 0 5 - 1) 7 + k) 6 = T 102 (T 100 (T 109 0 5 - 1) 7 + k) 6 := hf_7 102 _ 6 rfl
                      have z1 : T1 102 (T 100 (T 109 0 5 - 1) 7 + k) 10 = T 102 (T 100 (T 109 0 5 - 1) 7 + k) 10 := hf_7 102 _ 10 rfl
                      have z2 : T1 103 (T 100 (T 109 0 5 - 1) 7 + k) 3 = T 103 (T 100 (T 109 0 5 - 1) 7 + k) 3 := hf_7 103 _ 3 rfl
                      have z3 : T1 102 (T 100 (T 109 0 5 - 1) 7 + k) 3 = T 102 (T 100 (T 109 0 5 - 1) 7 + k) 3 := hf_7 102 _ 3 rfl
                      have z4 : T1 102 (T 100 (T 109 0 5 - 1) 7 + k) 4 = T 102 (T 100 (T 109 0 5 - 1) 7 + k) 4 := hf_7 102 _ 4 rfl
                      have z5 : T1 102 (T 100 (T 109 0 5 - 1) 7 + k) 1 = T 102 (T 100 (T 109 0 5 - 1) 7 + k) 1 := hf_7 102 _ 1 rfl
                      have z6 := hkm (T 100 (T 109 0 5 - 1) 7 + k) (by omega) (by omega)
                      rw [dl_f (by omega) (by unfold OD7_; omega), up_k hU38 (by exact Nat.ne_of_beq_eq_false rfl) 0 9]
                      exact ⟨ol1.1, fun j a b => (up_k hU38 (by exact Nat.ne_of_beq_eq_false rfl) 0 j).trans (ol1.2 j a b)⟩
                    · have z0 : T1 102 (T 100 (T 109 0 5 - 1) 7 + k) 6 = T 102 (T 100 (T 109 0 5 - 1) 7 + k) 6 := hf_7 102 _ 6 rfl
                      have z1 : T1 102 (T 100 (T 109 0 5 - 1) 7 + k) 10 = T 102 (T 100 (T 109 0 5 - 1) 7 + k) 10 := hf_7 102 _ 10 rfl
                      have z2 : T1 103 (T 100 (T 109 0 5 - 1) 7 + k) 3 = T 103 (T 100 (T 109 0 5 - 1) 7 + k) 3 := hf_7 103 _ 3 rfl
                      have z3 : T1 102 (T 100 (T 109 0 5 - 1) 7 + k) 3 = T 102 (T 100 (T 109 0 5 - 1) 7 + k) 3 := hf_7 102 _ 3 rfl
                      have z4 : T1 102 (T 100 (T 109 0 5 - 1) 7 + k) 4 = T 102 (T 100 (T 109 0 5 - 1) 7 + k) 4 := hf_7 102 _ 4 rfl
                      have z5 : T1 102 (T 100 (T 109 0 5 - 1) 7 + k) 1 = T 102 (T 100 (T 109 0 5 - 1) 7 + k) 1 := hf_7 102 _ 1 rfl
                      have z6 := hkm (T 100 (T 109 0 5 - 1) 7 + k) (by omega) (by omega)
                      intro j a b c9
                      by_cases y : j = k
                      · rw [y]
                        have y1 := up_f hU38
                        have y2 : U38 584 0 (T 100 (T 109 0 5 - 1) 7 + k) = 0 := by rw [← show T 102 ((T 100 (T 109 0 5 - 1) 7) + k) 1 = T 100 (T 109 0 5 - 1) 7 + k by omega]; exact y1
                        rw [y2]
                        first
                        | (rw [cz_t (by omega)])
                        | (rw [cz_f (by omega)])
                      · rw [up_g hU38 (fun q => y (by omega))]
                        exact rw1 j a (by omega) c9
                    · have z0 : T1 102 (T 100 (T 109 0 5 - 1) 7 + k) 6 = T 102 (T 100 (T 109 0 5 - 1) 7 + k) 6 := hf_7 102 _ 6 rfl
                      have z1 : T1 102 (T 100 (T 109 0 5 - 1) 7 + k) 10 = T 102 (T 100 (T 109 0 5 - 1) 7 + k) 10 := hf_7 102 _ 10 rfl
                      have z2 : T1 103 (T 100 (T 109 0 5 - 1) 7 + k) 3 = T 103 (T 100 (T 109 0 5 - 1) 7 + k) 3 := hf_7 103 _ 3 rfl
                      have z3 : T1 102 (T 100 (T 109 0 5 - 1) 7 + k) 3 = T 102 (T 100 (T 109 0 5 - 1) 7 + k) 3 := hf_7 102 _ 3 rfl
                      have z4 : T1 102 (T 100 (T 109 0 5 - 1) 7 + k) 4 = T 102 (T 100 (T 109 0 5 - 1) 7 + k) 4 := hf_7 102 _ 4 rfl
                      have z5 : T1 102 (T 100 (T 109 0 5 - 1) 7 + k) 1 = T 102 (T 100 (T 109 0 5 - 1) 7 + k) 1 := hf_7 102 _ 1 rfl
                      have z6 := hkm (T 100 (T 109 0 5 - 1) 7 + k) (by omega) (by omega)
                      intro y hy
                      rw [up_g hU38 (fun q => hy k (by omega) (by omega) (by unfold OM7_; omega) (by omega))]
                      exact ro1 y (fun j a b => hy j a (by omega))
              · replace hx14 := hx14.resolve_right (fun z => c15 z.1)
                clear c15
                refine hK 118 _ [] T1 ?_
                refine j_blx (F := fX9) tb_X9 (nn_ _) bk_X9_listOpen_e_118 bs_X9_listOpen_e_118 hz (fun K hK => ?_)
                refine rg_i (by omega) ?_
                refine hK 7 [some (vR 109 0), some (vI b), some (vI n), some (vI (k + 1)), some (vR 102 ((T 100 (T 109 0 5 - 1) 7) + k))] [] T1 ?_
                refine j_drq [some (vR 109 0), some (vI b), some (vI n), some (vI (k + 1)), none] (drq_s (drq_s (drq_s (drq_s (drq_n drq_0))))) ?_
                refine ih_7 _ ?_ (k + 1) T1 (Nat.le_refl _) ?_ ?_ ?_ ?_ ?_
                · have hm_7 := hm_7 (); omega
                · exact fr_t (fr_0 _ _) (fr_s hf_7 rfl)
                · omega
                · have z0 : T1 102 (T 100 (T 109 0 5 - 1) 7 + k) 6 = T 102 (T 100 (T 109 0 5 - 1) 7 + k) 6 := hf_7 102 _ 6 rfl
                  have z1 : T1 102 (T 100 (T 109 0 5 - 1) 7 + k) 10 = T 102 (T 100 (T 109 0 5 - 1) 7 + k) 10 := hf_7 102 _ 10 rfl
                  have z2 : T1 103 (T 100 (T 109 0 5 - 1) 7 + k) 3 = T 103 (T 100 (T 109 0 5 - 1) 7 + k) 3 := hf_7 103 _ 3 rfl
                  have z3 : T1 102 (T 100 (T 109 0 5 - 1) 7 + k) 3 = T 102 (T 100 (T 109 0 5 - 1) 7 + k) 3 := hf_7 102 _ 3 rfl
                  have z4 : T1 102 (T 100 (T 109 0 5 - 1) 7 + k) 4 = T 102 (T 100 (T 109 0 5 - 1) 7 + k) 4 := hf_7 102 _ 4 rfl
                  have z5 : T1 102 (T 100 (T 109 0 5 - 1) 7 + k) 1 = T 102 (T 100 (T 109 0 5 - 1) 7 + k) 1 := hf_7 102 _ 1 rfl
                  have z6 := hkm (T 100 (T 109 0 5 - 1) 7 + k) (by omega) (by omega)
                  rw [dl_f (by omega) (by unfold OD7_; omega)]
                  exact ol1
                · have z0 : T1 102 (T 100 (T 109 0 5 - 1) 7 + k) 6 = T 102 (T 100 (T 109 0 5 - 1) 7 + k) 6 := hf_7 102 _ 6 rfl
                  have z1 : T1 102 (T 100 (T 109 0 5 - 1) 7 + k) 10 = T 102 (T 100 (T 109 0 5 - 1) 7 + k) 10 := hf_7 102 _ 10 rfl
                  have z2 : T1 103 (T 100 (T 109 0 5 - 1) 7 + k) 3 = T 103 (T 100 (T 109 0 5 - 1) 7 + k) 3 := hf_7 103 _ 3 rfl
                  have z3 : T1 102 (T 100 (T 109 0 5 - 1) 7 + k) 3 = T 102 (T 100 (T 109 0 5 - 1) 7 + k) 3 := hf_7 102 _ 3 rfl
                  have z4 : T1 102 (T 100 (T 109 0 5 - 1) 7 + k) 4 = T 102 (T 100 (T 109 0 5 - 1) 7 + k) 4 := hf_7 102 _ 4 rfl
                  have z5 : T1 102 (T 100 (T 109 0 5 - 1) 7 + k) 1 = T 102 (T 100 (T 109 0 5 - 1) 7 + k) 1 := hf_7 102 _ 1 rfl
                  have z6 := hkm (T 100 (T 109 0 5 - 1) 7 + k) (by omega) (by omega)
                  intro j a b c9
                  exact rw1 j a (by rcases (by omega : j = k ∨ j < k) with y | y; (rw [y] at c9; unfold OM7_ at c9; omega); exact y) c9
                · exact fun y hy => ro1 y (fun j a b => hy j a (by omega))
  refine j_blx (F := fX9) tb_X9 (nn_ _) bk_X9_listOpen_e_0 bs_X9_listOpen_e_0 hz (fun K hK => ?_)
  refine bd_i (by omega) ?_
  refine x_nm (fun U41 hU41 => ?_)
  have e42 := up_f hU41
  refine hK 7 [some (vR 109 0), some (vI b), some (vI n), some (vI 0), none] [] U41 ?_
  have e43 : U41 109 0 9 = 0 := up_f hU41
  refine c_7 _ 0 U41 (Nat.le_refl _) ?_ ?_ ?_ ?_ ?_
  · exact fr_u (fr_0 _ _) hU41 rfl
  · omega
  · exact ⟨by show _ = (0 : Int); exact up_f hU41, fun j a b => by have y := up_f hU41; omega⟩
  · intro j a b; omega
  · exact fun y _ => up_k hU41 (by exact Nat.ne_of_beq_eq_false rfl) 0 y
