/-- of the scores and the yellow cards only match m's, and only on its sheets, have changed -/
def SO_ (T T1 : Zt) (m : Int) : Prop := (∀ j, j ≠ m → T1 236 0 j = T 236 0 j ∧ T1 237 0 j = T 237 0 j) ∧ ∀ j, ¬ (20 * m ≤ j ∧ j < 20 * m + 20 ∧ j % 10 < T 239 0 (j / 10)) → T1 242 0 j = T 242 0 j
theorem so_r {T : Zt} {m : Int} : SO_ T T m := ⟨fun _ _ => ⟨rfl, rfl⟩, fun _ _ => rfl⟩
theorem so_0 {T T1 T2 : Zt} {m v : Int} (h : SO_ T T1 m) (e : T2 = up_ T1 236 0 m v) : SO_ T T2 m := ⟨fun j hj => ⟨by rw [up_g e (fun q => hj q.2.2)]; exact (h.1 j hj).1, by rw [up_k e (by exact Nat.ne_of_beq_eq_false rfl)]; exact (h.1 j hj).2⟩, fun j hj => by rw [up_k e (by exact Nat.ne_of_beq_eq_false rfl)]; exact h.2 j hj⟩
theorem so_1 {T T1 T2 : Zt} {m v : Int} (h : SO_ T T1 m) (e : T2 = up_ T1 237 0 m v) : SO_ T T2 m := ⟨fun j hj => ⟨by rw [up_k e (by exact Nat.ne_of_beq_eq_false rfl)]; exact (h.1 j hj).1, by rw [up_g e (fun q => hj q.2.2)]; exact (h.1 j hj).2⟩, fun j hj => by rw [up_k e (by exact Nat.ne_of_beq_eq_false rfl)]; exact h.2 j hj⟩
theorem so_y {T T1 T2 : Zt} {m v x : Int} (h : SO_ T T1 m) (e : T2 = up_ T1 242 0 x v) (sh : Int) (hx : 2 * m ≤ sh ∧ sh ≤ 2 * m + 1 ∧ 10 * sh ≤ x ∧ x < 10 * sh + 10 ∧ x < 10 * sh + T 239 0 sh) : SO_ T T2 m := ⟨fun j hj => ⟨by rw [up_k e (by exact Nat.ne_of_beq_eq_false rfl)]; exact (h.1 j hj).1, by rw [up_k e (by exact Nat.ne_of_beq_eq_false rfl)]; exact (h.1 j hj).2⟩, fun j hj => by
  by_cases z : j = x
  · refine absurd ⟨by omega, by omega, ?_⟩ hj
    rw [show j / 10 = sh by omega]; omega
  · rw [up_g e (fun q => z q.2.2)]; exact h.2 j hj⟩
theorem so_f {ws : List (Nat × List Int)} {T T1 T2 : Zt} {m : Int} (h : SO_ T T1 m) (f : fr_ ws T1 T2) (w : (∀ j, fw_ ws 236 j = false) ∧ (∀ j, fw_ ws 237 j = false) ∧ ∀ j, fw_ ws 242 j = false) : SO_ T T2 m := ⟨fun j hj => ⟨(f 236 0 j (w.1 j)).trans (h.1 j hj).1, (f 237 0 j (w.2.1 j)).trans (h.1 j hj).2⟩, fun j hj => (f 242 0 j (w.2.2 j)).trans (h.2 j hj)⟩
theorem so_t {T T1 T2 : Zt} {m : Int} (h : SO_ T T1 m) (g : SO_ T1 T2 m) (e : ∀ j, T1 239 0 j = T 239 0 j) : SO_ T T2 m := ⟨fun j hj => ⟨(g.1 j hj).1.trans (h.1 j hj).1, (g.1 j hj).2.trans (h.1 j hj).2⟩, fun j hj => (g.2 j (by rw [e]; exact hj)).trans (h.2 j hj)⟩
/-- match m's scores, and four times its yellow cards, are within b -/
def SB1_ (T : Zt) (m b : Int) : Prop := (0 ≤ T 236 0 m ∧ T 236 0 m ≤ b) ∧ (0 ≤ T 237 0 m ∧ T 237 0 m ≤ b) ∧ ∀ j, 20 * m ≤ j → j < 20 * m + 20 → 0 ≤ T 242 0 j ∧ 4 * T 242 0 j ≤ b
theorem sb1_0 {T T1 : Zt} {m b v : Int} (h : SB1_ T m b) (e : T1 = up_ T 236 0 m v) (hv : 0 ≤ v ∧ v ≤ b) : SB1_ T1 m b := ⟨by rw [up_f e]; exact hv, by rw [up_k e (by exact Nat.ne_of_beq_eq_false rfl)]; exact h.2.1, fun j p q => by rw [up_k e (by exact Nat.ne_of_beq_eq_false rfl)]; exact h.2.2 j p q⟩
theorem sb1_1 {T T1 : Zt} {m b v : Int} (h : SB1_ T m b) (e : T1 = up_ T 237 0 m v) (hv : 0 ≤ v ∧ v ≤ b) : SB1_ T1 m b := ⟨by rw [up_k e (by exact Nat.ne_of_beq_eq_false rfl)]; exact h.1, by rw [up_f e]; exact hv, fun j p q => by rw [up_k e (by exact Nat.ne_of_beq_eq_false rfl)]; exact h.2.2 j p q⟩
theorem sb1_y {T T1 : Zt} {m b v x : Int} (h : SB1_ T m b) (e : T1 = up_ T 242 0 x v) (hv : 0 ≤ v ∧ 4 * v ≤ b) : SB1_ T1 m b := ⟨by rw [up_k e (by exact Nat.ne_of_beq_eq_false rfl)]; exact h.1, by rw [up_k e (by exact Nat.ne_of_beq_eq_false rfl)]; exact h.2.1, fun j p q => by
  by_cases z : j = x
  · rw [z, up_f e]; exact hv
  · rw [up_g e (fun q => z q.2.2)]; exact h.2.2 j p q⟩
theorem sb1_f {ws : List (Nat × List Int)} {T T1 : Zt} {m b : Int} (h : SB1_ T m b) (f : fr_ ws T T1) (w : (∀ j, fw_ ws 236 j = false) ∧ (∀ j, fw_ ws 237 j = false) ∧ ∀ j, fw_ ws 242 j = false) : SB1_ T1 m b := ⟨by rw [f 236 0 m (w.1 m)]; exact h.1, by rw [f 237 0 m (w.2.1 m)]; exact h.2.1, fun j p q => by rw [f 242 0 j (w.2.2 j)]; exact h.2.2 j p q⟩
theorem sb1_m {T : Zt} {m b c : Int} (h : SB1_ T m b) (e : b ≤ c) : SB1_ T m c := ⟨by have := h.1; omega, by have := h.2.1; omega, fun j p q => by have := h.2.2 j p q; omega⟩
/-- every match's scores and cards are within what its rows can have given, but perhaps match x's -/
def GX_ (T : Zt) (x : Int) : Prop := ∀ m, 0 ≤ m → m < 400 → m ≠ x → SB1_ T m (4 * T 254 0 m + 9)
theorem gx_o {T T1 : Zt} {x : Int} (h : GX_ T x) (o : SO_ T T1 x) (s : SB1_ T1 x (4 * T1 254 0 x + 9)) (e : ∀ j, j ≠ x → T1 254 0 j = T 254 0 j) : GX_ T1 (-1) := fun m a b _ => by
  by_cases z : m = x
  · rw [z]; exact s
  · rw [e m z]
    have k := h m a b z
    unfold SB1_
    rw [(o.1 m z).1, (o.1 m z).2]
    exact ⟨k.1, k.2.1, fun j p q => by rw [o.2 j (fun w => z (by omega))]; exact k.2.2 j p q⟩
theorem gx_x {T : Zt} {x : Int} (h : GX_ T (-1)) : GX_ T x := fun m a b _ => h m a b (by omega)
theorem gx_f {ws : List (Nat × List Int)} {T T1 : Zt} {x y : Int} (h : GX_ T x) (f : fr_ ws T T1) (w : (∀ j, fw_ ws 236 j = false) ∧ (∀ j, fw_ ws 237 j = false) ∧ ∀ j, fw_ ws 242 j = false) (e : ∀ j, j ≠ y → T1 254 0 j = T 254 0 j) (hy : x = -1 ∨ x = y) : GX_ T1 y := fun m a b c => by
  rw [e m c]
  exact sb1_f (h m a b (by omega)) f w
def ZS_ (T : Zt) : Prop := ∀ j : Int, 0 ≤ j → j < 8000 → T 239 0 (j / 10) ≤ j % 10 → T 242 0 j = 0
theorem ZS__f {ws : List (Nat × List Int)} {T T' : Zt} (h : ZS_ T) (f : fr_ ws T T') (w : (∀ j, fw_ ws 239 j = false) ∧ (∀ j, fw_ ws 242 j = false) ∧ True) : ZS_ T' := by
  have e0 : ∀ i j, T' 239 i j = T 239 i j := fun i j => f 239 i j (w.1 j)
  have e1 : ∀ i j, T' 242 i j = T 242 i j := fun i j => f 242 i j (w.2.1 j)
  simp only [ZS_, e0, e1] at h ⊢
  exact h
theorem zs_o {T T1 : Zt} {m : Int} (h : ZS_ T) (o : SO_ T T1 m) (e : ∀ j, T1 239 0 j = T 239 0 j) : ZS_ T1 := fun j a b c => by
  rw [e] at c
  rw [o.2 j (fun w => by omega)]
  exact h j a b c
def FM_ (T : Zt) : Prop := ∀ m s : Int, 0 ≤ m → m < 400 → 0 ≤ s → s ≤ 1 → T 235 0 m = 1 → 1 ≤ T 244 0 (2 * m + s)
theorem FM__f {ws : List (Nat × List Int)} {T T' : Zt} (h : FM_ T) (f : fr_ ws T T') (w : (∀ j, fw_ ws 235 j = false) ∧ (∀ j, fw_ ws 244 j = false) ∧ True) : FM_ T' := by
  have e0 : ∀ i j, T' 235 i j = T 235 i j := fun i j => f 235 i j (w.1 j)
  have e1 : ∀ i j, T' 244 i j = T 244 i j := fun i j => f 244 i j (w.2.1 j)
  simp only [FM_, e0, e1] at h ⊢
  exact h
theorem fm_w {T T1 : Zt} {x v : Int} (h : FM_ T) (e : T1 = up_ T 235 0 x v) (hv : v ≠ 1) : FM_ T1 := fun m s a b c d g => by
  by_cases z : m = x
  · subst z; exact absurd ((up_f e).symm.trans g) hv
  · rw [up_g e (fun q => z q.2.2)] at g
    rw [up_k e (by exact Nat.ne_of_beq_eq_false rfl)]; exact h m s a b c d g
theorem fm_1 {T T1 : Zt} {x : Int} (h : FM_ T) (e : T1 = up_ T 235 0 x 1) (hx : T 235 0 x = 1) : FM_ T1 := fun m s a b c d g => by
  rw [up_k e (by exact Nat.ne_of_beq_eq_false rfl)]
  by_cases z : m = x
  · subst z; exact h m s a b c d hx
  · rw [up_g e (fun q => z q.2.2)] at g
    exact h m s a b c d g
theorem fm_4 {T T1 : Zt} {x : Int} (h : FM_ T) (e : T1 = up_ T 235 0 x 1) (hx : ∀ s, 0 ≤ s → s ≤ 1 → 1 ≤ T 244 0 (2 * x + s)) : FM_ T1 := fun m s a b c d g => by
  rw [up_k e (by exact Nat.ne_of_beq_eq_false rfl)]
  by_cases z : m = x
  · subst z; exact hx s c d
  · rw [up_g e (fun q => z q.2.2)] at g
    exact h m s a b c d g
theorem fm_f {T T1 : Zt} {x v : Int} (h : FM_ T) (e : T1 = up_ T 244 0 x v) (hv : 1 ≤ v) : FM_ T1 := fun m s a b c d g => by
  rw [up_k e (by exact Nat.ne_of_beq_eq_false rfl)] at g
  by_cases z : 2 * m + s = x
  · rw [z, up_f e]; exact hv
  · rw [up_g e (fun q => z q.2.2)]; exact h m s a b c d g
theorem fm_3 {T T1 : Zt} {x t : Int} (h : FM_ T) (ht : 0 ≤ t ∧ t ≤ 1) (e1 : ∀ j, j ≠ x → T1 235 0 j = T 235 0 j) (e2 : ∀ j, j ≠ 2 * x + t → T1 244 0 j = T 244 0 j) (g : T1 235 0 x ≠ 1) : FM_ T1 := fun m s a b c d k => by
  by_cases z : m = x
  · subst z; exact absurd k g
  · rw [e1 m z] at k
    rw [e2 _ (by omega)]; exact h m s a b c d k
abbrev cX11_layBeginning : ByteArray := prog_13_method_47_code
def yX11_layBeginning : MethodName := ⟨RX11, "layBeginning", "(I)V"⟩
def zX11_layBeginning : Zm := (RX11, cX11_layBeginning, 5, none, { frames := 1, cells := 0, slots := 0, locals := 22 })
abbrev cX11_start : ByteArray := prog_13_method_48_code
def yX11_start : MethodName := ⟨RX11, "start", "(I)I"⟩
def zX11_start : Zm := (RX11, cX11_start, 3, (some .int), { frames := 2, cells := 0, slots := 0, locals := 46 })
set_option maxRecDepth 100000 in
theorem cl_X11_390 : cv_ RX11 390 yX11_layBeginning zX11_layBeginning 11 1 := ⟨gi_V (lw_b9 27 (by decide +kernel) rfl : Cond.methodLink RX11 390 yX11_layBeginning ∈ lw_g) (lw_b9 29 (by decide +kernel) rfl : Cond.instanceMethod yX11_layBeginning ∈ lw_g) (lw_sel 31 rfl : Cond.selects yX11_layBeginning.cls yX11_layBeginning yX11_layBeginning ∈ lw_g) (lw_b1 10 (by decide +kernel) rfl : Cond.initialized yX11_layBeginning.cls ∈ lw_g) (lw_b9 30 rfl rfl : Cond.code yX11_layBeginning cX11_layBeginning 5 none ∈ lw_g), ⟨by decide, by decide, by decide +kernel⟩, ⟨_, _, rfl⟩⟩
abbrev po_X11_start (T : Zt) (m : Int) : Zt → Option Zv → Prop := fun T' r => ∃ x : Int, r = some (vI x) ∧ fr_ [(244, []), (241, []), (242, []), (243, []), (245, []), (246, []), (236, []), (237, []), (235, [])] T T' ∧ (FM_ T' ∧ ZS_ T' ∧ GX_ T' (-1))
abbrev cX11_walkOver : ByteArray := prog_13_method_49_code
def yX11_walkOver : MethodName := ⟨RX11, "walkOver", "(II)I"⟩
def zX11_walkOver : Zm := (RX11, cX11_walkOver, 3, (some .int), { frames := 2, cells := 0, slots := 0, locals := 43 })
abbrev po_X11_walkOver (T : Zt) (m s : Int) : Zt → Option Zv → Prop := fun T' r => ∃ x : Int, r = some (vI x) ∧ fr_ [(235, []), (236, []), (237, [])] T T' ∧ (FM_ T' ∧ ZS_ T' ∧ GX_ T' (-1))
abbrev cX11_setLive : ByteArray := prog_13_method_51_code
def yX11_setLive : MethodName := ⟨RX11, "setLive", "(III)V"⟩
def zX11_setLive : Zm := (RX11, cX11_setLive, 4, none, { frames := 0, cells := 0, slots := 0, locals := 0 })
abbrev cX11_isKind : ByteArray := prog_13_method_52_code
def yX11_isKind : MethodName := ⟨RX11, "isKind", "(II)Z"⟩
def zX11_isKind : Zm := (RX11, cX11_isKind, 3, (some .boolean), { frames := 1, cells := 0, slots := 0, locals := 22 })
theorem bk_X11_isKind_0 : ck_ fX11 (some .boolean) cX11_isKind 0 [.iload 1] 1 = true := qck_r (nn_ _) (by decide +kernel)
theorem bs_X11_isKind_0 {P : Zt → Option Zv → Prop} (K : Int → Zl → List Zv → Zt → Prop) : sx_ K P [.iload 1] 1 = x_iload 1 (K 1) := ((xe_iload 1).trans (congrArg (x_iload 1) xe_nil))
theorem ds_X11_isKind_1 : decode cX11_isKind 1 = .ok (.tableswitch 67 0 2 #[27, 34, 50], 27) := by decide +kernel
theorem bk_X11_isKind_28 : ck_ fX11 (some .boolean) cX11_isKind 28 [.iload 2, .iconst 0, .iconst 5] 31 = true := qck_r (nn_ _) (by decide +kernel)
theorem bs_X11_isKind_28 {P : Zt → Option Zv → Prop} (K : Int → Zl → List Zv → Zt → Prop) : sx_ K P [.iload 2, .iconst 0, .iconst 5] 31 = x_iload 2 (x_iconst 0 (x_iconst 5 (K 31))) := ((xe_iload 2).trans (congrArg (x_iload 2) ((xe_iconst 0).trans (congrArg (x_iconst 0) ((xe_iconst 5).trans (congrArg (x_iconst 5) xe_nil))))))
theorem bk_X11_isKind_34 : ck_ fX11 (some .boolean) cX11_isKind 34 [.ireturn] 35 = true := qck_r (nn_ _) (by decide +kernel)
theorem bs_X11_isKind_34 {P : Zt → Option Zv → Prop} (K : Int → Zl → List Zv → Zt → Prop) : sx_ K P [.ireturn] 35 = x_ireturn P := (xe_ireturn)
theorem bk_X11_isKind_35 : ck_ fX11 (some .boolean) cX11_isKind 35 [.iload 2, .iconst 1, .if_icmp .eq 45, .iload 2, .iconst 5, .if_icmp .ne 49, .iconst 1, .goto 50] 49 = true := qck_r (nn_ _) (by decide +kernel)
theorem bs_X11_isKind_35 {P : Zt → Option Zv → Prop} (K : Int → Zl → List Zv → Zt → Prop) : sx_ K P [.iload 2, .iconst 1, .if_icmp .eq 45, .iload 2, .iconst 5, .if_icmp .ne 49, .iconst 1, .goto 50] 49 = x_iload 2 (x_iconst 1 (x_if_icmp .eq 45 K (x_iload 2 (x_iconst 5 (x_if_icmp .ne 49 K (x_iconst 1 (x_goto 50 K))))))) := ((xe_iload 2).trans (congrArg (x_iload 2) ((xe_iconst 1).trans (congrArg (x_iconst 1) ((xe_if_icmp .eq 45).trans (congrArg (x_if_icmp .eq 45 K) ((xe_iload 2).trans (congrArg (x_iload 2) ((xe_iconst 5).trans (congrArg (x_iconst 5) ((xe_if_icmp .ne 49).trans (congrArg (x_if_icmp .ne 49 K) ((xe_iconst 1).trans (congrArg (x_iconst 1) (xe_goto 50)))))))))))))))
theorem bk_X11_isKind_45 : ck_ fX11 (some .boolean) cX11_isKind 45 [.iconst 1, .goto 50] 49 = true := qck_r (nn_ _) (by decide +kernel)
theorem bs_X11_isKind_45 {P : Zt → Option Zv → Prop} (K : Int → Zl → List Zv → Zt → Prop) : sx_ K P [.iconst 1, .goto 50] 49 = x_iconst 1 (x_goto 50 K) := ((xe_iconst 1).trans (congrArg (x_iconst 1) (xe_goto 50)))
theorem bk_X11_isKind_50 : ck_ fX11 (some .boolean) cX11_isKind 50 [.ireturn] 51 = true := qck_r (nn_ _) (by decide +kernel)
theorem bs_X11_isKind_50 {P : Zt → Option Zv → Prop} (K : Int → Zl → List Zv → Zt → Prop) : sx_ K P [.ireturn] 51 = x_ireturn P := (xe_ireturn)
theorem bk_X11_isKind_49 : ck_ fX11 (some .boolean) cX11_isKind 49 [.iconst 0, .ireturn] 51 = true := qck_r (nn_ _) (by decide +kernel)
theorem bs_X11_isKind_49 {P : Zt → Option Zv → Prop} (K : Int → Zl → List Zv → Zt → Prop) : sx_ K P [.iconst 0, .ireturn] 51 = x_iconst 0 (x_ireturn P) := ((xe_iconst 0).trans (congrArg (x_iconst 0) (xe_ireturn)))
theorem bk_X11_isKind_51 : ck_ fX11 (some .boolean) cX11_isKind 51 [.iload 2, .iconst 1, .if_icmp .eq 62, .iload 2, .iconst 6, .if_icmp .ne 66, .iconst 1, .goto 67] 66 = true := qck_r (nn_ _) (by decide +kernel)
theorem bs_X11_isKind_51 {P : Zt → Option Zv → Prop} (K : Int → Zl → List Zv → Zt → Prop) : sx_ K P [.iload 2, .iconst 1, .if_icmp .eq 62, .iload 2, .iconst 6, .if_icmp .ne 66, .iconst 1, .goto 67] 66 = x_iload 2 (x_iconst 1 (x_if_icmp .eq 62 K (x_iload 2 (x_iconst 6 (x_if_icmp .ne 66 K (x_iconst 1 (x_goto 67 K))))))) := ((xe_iload 2).trans (congrArg (x_iload 2) ((xe_iconst 1).trans (congrArg (x_iconst 1) ((xe_if_icmp .eq 62).trans (congrArg (x_if_icmp .eq 62 K) ((xe_iload 2).trans (congrArg (x_iload 2) ((xe_iconst 6).trans (congrArg (x_iconst 6) ((xe_if_icmp .ne 66).trans (congrArg (x_if_icmp .ne 66 K) ((xe_iconst 1).trans (congrArg (x_iconst 1) (xe_goto 67)))))))))))))))
theorem bk_X11_isKind_62 : ck_ fX11 (some .boolean) cX11_isKind 62 [.iconst 1, .goto 67] 66 = true := qck_r (nn_ _) (by decide +kernel)
theorem bs_X11_isKind_62 {P : Zt → Option Zv → Prop} (K : Int → Zl → List Zv → Zt → Prop) : sx_ K P [.iconst 1, .goto 67] 66 = x_iconst 1 (x_goto 67 K) := ((xe_iconst 1).trans (congrArg (x_iconst 1) (xe_goto 67)))
theorem bk_X11_isKind_67 : ck_ fX11 (some .boolean) cX11_isKind 67 [.ireturn] 68 = true := qck_r (nn_ _) (by decide +kernel)
theorem bs_X11_isKind_67 {P : Zt → Option Zv → Prop} (K : Int → Zl → List Zv → Zt → Prop) : sx_ K P [.ireturn] 68 = x_ireturn P := (xe_ireturn)
theorem bk_X11_isKind_66 : ck_ fX11 (some .boolean) cX11_isKind 66 [.iconst 0, .ireturn] 68 = true := qck_r (nn_ _) (by decide +kernel)
theorem bs_X11_isKind_66 {P : Zt → Option Zv → Prop} (K : Int → Zl → List Zv → Zt → Prop) : sx_ K P [.iconst 0, .ireturn] 68 = x_iconst 0 (x_ireturn P) := ((xe_iconst 0).trans (congrArg (x_iconst 0) (xe_ireturn)))
theorem bk_X11_isKind_68 : ck_ fX11 (some .boolean) cX11_isKind 68 [.iload 2, .iconst 1, .iconst 4] 71 = true := qck_r (nn_ _) (by decide +kernel)
theorem bs_X11_isKind_68 {P : Zt → Option Zv → Prop} (K : Int → Zl → List Zv → Zt → Prop) : sx_ K P [.iload 2, .iconst 1, .iconst 4] 71 = x_iload 2 (x_iconst 1 (x_iconst 4 (K 71))) := ((xe_iload 2).trans (congrArg (x_iload 2) ((xe_iconst 1).trans (congrArg (x_iconst 1) ((xe_iconst 4).trans (congrArg (x_iconst 4) xe_nil))))))
theorem bk_X11_isKind_74 : ck_ fX11 (some .boolean) cX11_isKind 74 [.ireturn] 75 = true := qck_r (nn_ _) (by decide +kernel)
theorem bs_X11_isKind_74 {P : Zt → Option Zv → Prop} (K : Int → Zl → List Zv → Zt → Prop) : sx_ K P [.ireturn] 75 = x_ireturn P := (xe_ireturn)
abbrev cX11_isTold : ByteArray := prog_13_method_53_code
def yX11_isTold : MethodName := ⟨RX11, "isTold", "(III)Z"⟩
def zX11_isTold : Zm := (RX11, cX11_isTold, 4, (some .boolean), { frames := 2, cells := 0, slots := 0, locals := 44 })
theorem bk_X11_isTold_0 : ck_ fX11 (some .boolean) cX11_isTold 0 [.aload 0, .iload 1, .iload 2] 3 = true := qck_r (nn_ _) (by decide +kernel)
theorem bs_X11_isTold_0 {P : Zt → Option Zv → Prop} (K : Int → Zl → List Zv → Zt → Prop) : sx_ K P [.aload 0, .iload 1, .iload 2] 3 = x_aload 0 (x_iload 1 (x_iload 2 (K 3))) := ((xe_aload 0).trans (congrArg (x_aload 0) ((xe_iload 1).trans (congrArg (x_iload 1) ((xe_iload 2).trans (congrArg (x_iload 2) xe_nil))))))
set_option maxRecDepth 100000 in
theorem cl_X11_394 : cv_ RX11 394 yX11_isKind zX11_isKind 11 2 := ⟨gi_V (lw_b9 47 (by decide +kernel) rfl : Cond.methodLink RX11 394 yX11_isKind ∈ lw_g) (lw_b9 49 (by decide +kernel) rfl : Cond.instanceMethod yX11_isKind ∈ lw_g) (lw_sel 25 rfl : Cond.selects yX11_isKind.cls yX11_isKind yX11_isKind ∈ lw_g) (lw_b1 10 (by decide +kernel) rfl : Cond.initialized yX11_isKind.cls ∈ lw_g) (lw_b9 50 rfl rfl : Cond.code yX11_isKind cX11_isKind 3 (some .boolean) ∈ lw_g), ⟨by decide, by decide, by decide +kernel⟩, ⟨_, _, rfl⟩⟩
theorem bk_X11_isTold_6 : ck_ fX11 (some .boolean) cX11_isTold 6 [.ifCond .eq 30, .iload 1, .ifCond .ne 17, .iload 2, .ifCond .eq 26, .iload 3, .iconst 0, .iconst 1] 20 = true := qck_r (nn_ _) (by decide +kernel)
theorem bs_X11_isTold_6 {P : Zt → Option Zv → Prop} (K : Int → Zl → List Zv → Zt → Prop) : sx_ K P [.ifCond .eq 30, .iload 1, .ifCond .ne 17, .iload 2, .ifCond .eq 26, .iload 3, .iconst 0, .iconst 1] 20 = x_ifCond .eq 30 K (x_iload 1 (x_ifCond .ne 17 K (x_iload 2 (x_ifCond .eq 26 K (x_iload 3 (x_iconst 0 (x_iconst 1 (K 20)))))))) := ((xe_ifCond .eq 30).trans (congrArg (x_ifCond .eq 30 K) ((xe_iload 1).trans (congrArg (x_iload 1) ((xe_ifCond .ne 17).trans (congrArg (x_ifCond .ne 17 K) ((xe_iload 2).trans (congrArg (x_iload 2) ((xe_ifCond .eq 26).trans (congrArg (x_ifCond .eq 26 K) ((xe_iload 3).trans (congrArg (x_iload 3) ((xe_iconst 0).trans (congrArg (x_iconst 0) ((xe_iconst 1).trans (congrArg (x_iconst 1) xe_nil))))))))))))))))
theorem bk_X11_isTold_30 : ck_ fX11 (some .boolean) cX11_isTold 30 [.iconst 0, .ireturn] 32 = true := qck_r (nn_ _) (by decide +kernel)
theorem bs_X11_isTold_30 {P : Zt → Option Zv → Prop} (K : Int → Zl → List Zv → Zt → Prop) : sx_ K P [.iconst 0, .ireturn] 32 = x_iconst 0 (x_ireturn P) := ((xe_iconst 0).trans (congrArg (x_iconst 0) (xe_ireturn)))
theorem bk_X11_isTold_17 : ck_ fX11 (some .boolean) cX11_isTold 17 [.iload 3, .iconst 0, .iconst 1] 20 = true := qck_r (nn_ _) (by decide +kernel)
theorem bs_X11_isTold_17 {P : Zt → Option Zv → Prop} (K : Int → Zl → List Zv → Zt → Prop) : sx_ K P [.iload 3, .iconst 0, .iconst 1] 20 = x_iload 3 (x_iconst 0 (x_iconst 1 (K 20))) := ((xe_iload 3).trans (congrArg (x_iload 3) ((xe_iconst 0).trans (congrArg (x_iconst 0) ((xe_iconst 1).trans (congrArg (x_iconst 1) xe_nil))))))
theorem bk_X11_isTold_23 : ck_ fX11 (some .boolean) cX11_isTold 23 [.ifCond .eq 30, .iconst 1, .goto 31] 30 = true := qck_r (nn_ _) (by decide +kernel)
theorem bs_X11_isTold_23 {P : Zt → Option Zv → Prop} (K : Int → Zl → List Zv → Zt → Prop) : sx_ K P [.ifCond .eq 30, .iconst 1, .goto 31] 30 = x_ifCond .eq 30 K (x_iconst 1 (x_goto 31 K)) := ((xe_ifCond .eq 30).trans (congrArg (x_ifCond .eq 30 K) ((xe_iconst 1).trans (congrArg (x_iconst 1) (xe_goto 31)))))
theorem bk_X11_isTold_31 : ck_ fX11 (some .boolean) cX11_isTold 31 [.ireturn] 32 = true := qck_r (nn_ _) (by decide +kernel)
theorem bs_X11_isTold_31 {P : Zt → Option Zv → Prop} (K : Int → Zl → List Zv → Zt → Prop) : sx_ K P [.ireturn] 32 = x_ireturn P := (xe_ireturn)
theorem bk_X11_isTold_26 : ck_ fX11 (some .boolean) cX11_isTold 26 [.iconst 1, .goto 31] 30 = true := qck_r (nn_ _) (by decide +kernel)
theorem bs_X11_isTold_26 {P : Zt → Option Zv → Prop} (K : Int → Zl → List Zv → Zt → Prop) : sx_ K P [.iconst 1, .goto 31] 30 = x_iconst 1 (x_goto 31 K) := ((xe_iconst 1).trans (congrArg (x_iconst 1) (xe_goto 31)))
abbrev cX11_isBounded : ByteArray := prog_13_method_54_code
def yX11_isBounded : MethodName := ⟨RX11, "isBounded", "(III)Z"⟩
def zX11_isBounded : Zm := (RX11, cX11_isBounded, 3, (some .boolean), { frames := 1, cells := 0, slots := 0, locals := 22 })
theorem bk_X11_isBounded_0 : ck_ fX11 (some .boolean) cX11_isBounded 0 [.iload 0, .iconst 3, .if_icmp .ne 19, .iload 1, .iconst 1, .if_icmp .ne 19, .iload 2, .iconst 1, .iconst 4] 13 = true := qck_r (nn_ _) (by decide +kernel)
theorem bs_X11_isBounded_0 {P : Zt → Option Zv → Prop} (K : Int → Zl → List Zv → Zt → Prop) : sx_ K P [.iload 0, .iconst 3, .if_icmp .ne 19, .iload 1, .iconst 1, .if_icmp .ne 19, .iload 2, .iconst 1, .iconst 4] 13 = x_iload 0 (x_iconst 3 (x_if_icmp .ne 19 K (x_iload 1 (x_iconst 1 (x_if_icmp .ne 19 K (x_iload 2 (x_iconst 1 (x_iconst 4 (K 13))))))))) := ((xe_iload 0).trans (congrArg (x_iload 0) ((xe_iconst 3).trans (congrArg (x_iconst 3) ((xe_if_icmp .ne 19).trans (congrArg (x_if_icmp .ne 19 K) ((xe_iload 1).trans (congrArg (x_iload 1) ((xe_iconst 1).trans (congrArg (x_iconst 1) ((xe_if_icmp .ne 19).trans (congrArg (x_if_icmp .ne 19 K) ((xe_iload 2).trans (congrArg (x_iload 2) ((xe_iconst 1).trans (congrArg (x_iconst 1) ((xe_iconst 4).trans (congrArg (x_iconst 4) xe_nil))))))))))))))))))
theorem bk_X11_isBounded_19 : ck_ fX11 (some .boolean) cX11_isBounded 19 [.iconst 1, .goto 24] 23 = true := qck_r (nn_ _) (by decide +kernel)
theorem bs_X11_isBounded_19 {P : Zt → Option Zv → Prop} (K : Int → Zl → List Zv → Zt → Prop) : sx_ K P [.iconst 1, .goto 24] 23 = x_iconst 1 (x_goto 24 K) := ((xe_iconst 1).trans (congrArg (x_iconst 1) (xe_goto 24)))
theorem bk_X11_isBounded_24 : ck_ fX11 (some .boolean) cX11_isBounded 24 [.ireturn] 25 = true := qck_r (nn_ _) (by decide +kernel)
theorem bs_X11_isBounded_24 {P : Zt → Option Zv → Prop} (K : Int → Zl → List Zv → Zt → Prop) : sx_ K P [.ireturn] 25 = x_ireturn P := (xe_ireturn)
theorem bk_X11_isBounded_16 : ck_ fX11 (some .boolean) cX11_isBounded 16 [.ifCond .eq 23, .iconst 1, .goto 24] 23 = true := qck_r (nn_ _) (by decide +kernel)
theorem bs_X11_isBounded_16 {P : Zt → Option Zv → Prop} (K : Int → Zl → List Zv → Zt → Prop) : sx_ K P [.ifCond .eq 23, .iconst 1, .goto 24] 23 = x_ifCond .eq 23 K (x_iconst 1 (x_goto 24 K)) := ((xe_ifCond .eq 23).trans (congrArg (x_ifCond .eq 23 K) ((xe_iconst 1).trans (congrArg (x_iconst 1) (xe_goto 24)))))
theorem bk_X11_isBounded_23 : ck_ fX11 (some .boolean) cX11_isBounded 23 [.iconst 0, .ireturn] 25 = true := qck_r (nn_ _) (by decide +kernel)
theorem bs_X11_isBounded_23 {P : Zt → Option Zv → Prop} (K : Int → Zl → List Zv → Zt → Prop) : sx_ K P [.iconst 0, .ireturn] 25 = x_iconst 0 (x_ireturn P) := ((xe_iconst 0).trans (congrArg (x_iconst 0) (xe_ireturn)))
abbrev cX11_stands : ByteArray := prog_13_method_55_code
def yX11_stands : MethodName := ⟨RX11, "stands", "(IIII)Z"⟩
def zX11_stands : Zm := (RX11, cX11_stands, 6, (some .boolean), { frames := 1, cells := 0, slots := 0, locals := 24 })
/-- what the laws have asked of an event -/
def LW_ (T : Zt) (m k s p q : Int) : Prop := T 235 0 m = 1 ∧ (T 205 0 (23 * T 230 0 m + 0) = 0 → 0 ≤ k ∧ k ≤ 5 ∧ (k = 0 ∨ (0 ≤ s ∧ s ≤ 1 ∧ SL_ T (2 * m + s) p)) ∧ (k = 5 → SL_ T (2 * m + s) q)) ∧ (T 205 0 (23 * T 230 0 m + 0) = 1 → (k = 1 ∨ k = 5) ∧ 0 ≤ s ∧ s ≤ 1 ∧ (k = 5 → SL_ T (2 * m + s) p ∧ SL_ T (2 * m + s) q)) ∧ (2 ≤ T 205 0 (23 * T 230 0 m + 0) → 0 ≤ s ∧ s ≤ 1)
theorem LW_f {T T' : Zt} {m k s p q : Int} (h : LW_ T m k s p q) (e : ∀ c j, c = 235 ∨ c = 205 ∨ c = 230 ∨ c = 239 ∨ c = 240 → T' c 0 j = T c 0 j) : LW_ T' m k s p q := by
  have f : ∀ sh y, SL_ T sh y → SL_ T' sh y := fun sh y g => SL_f g (fun j => e _ j (by decide)) (fun j => e _ j (by decide))
  obtain ⟨a, b, c, d⟩ := h
  unfold LW_
  rw [e 235 _ (by decide), e 205 _ (by decide), e 230 m (by decide)]
  refine ⟨a, fun y => ?_, fun y => ?_, d⟩
  · have b' := b y
    exact ⟨b'.1, b'.2.1, b'.2.2.1.imp id (fun y => ⟨y.1, y.2.1, f _ _ y.2.2⟩), fun y => f _ _ (b'.2.2.2 y)⟩
  · have c' := c y
    exact ⟨c'.1, c'.2.1, c'.2.2.1, fun y => ⟨f _ _ (c'.2.2.2 y).1, f _ _ (c'.2.2.2 y).2⟩⟩
abbrev cX11_lawOf : ByteArray := prog_13_method_56_code
def yX11_lawOf : MethodName := ⟨RX11, "lawOf", "(IIIII)I"⟩
def zX11_lawOf : Zm := (RX11, cX11_lawOf, 9, (some .int), { frames := 3, cells := 0, slots := 0, locals := 67 })
set_option maxRecDepth 100000 in
theorem cl_X11_407 : cs_ RX11 407 yX11_isBounded zX11_isBounded 3 := ⟨gi_S (lw_b9 59 (by decide +kernel) rfl : Cond.methodLink RX11 407 yX11_isBounded ∈ lw_g) (lw_b9 60 (by decide +kernel) rfl : Cond.static yX11_isBounded ∈ lw_g) (lw_b1 10 (by decide +kernel) rfl : Cond.initialized yX11_isBounded.cls ∈ lw_g) (lw_b9 61 rfl rfl : Cond.code yX11_isBounded cX11_isBounded 3 (some .boolean) ∈ lw_g), ⟨by decide, by decide, by decide +kernel⟩⟩
set_option maxRecDepth 100000 in
theorem cl_X11_400 : cv_ RX11 400 yX11_liveOf zX11_liveOf 11 2 := ⟨gi_V (lw_b9 51 (by decide +kernel) rfl : Cond.methodLink RX11 400 yX11_liveOf ∈ lw_g) (lw_b9 53 (by decide +kernel) rfl : Cond.instanceMethod yX11_liveOf ∈ lw_g) (lw_sel 35 rfl : Cond.selects yX11_liveOf.cls yX11_liveOf yX11_liveOf ∈ lw_g) (lw_b1 10 (by decide +kernel) rfl : Cond.initialized yX11_liveOf.cls ∈ lw_g) (lw_b9 54 rfl rfl : Cond.code yX11_liveOf cX11_liveOf 3 (some .int) ∈ lw_g), ⟨by decide, by decide, by decide +kernel⟩, ⟨_, _, rfl⟩⟩
set_option maxRecDepth 100000 in
theorem cl_X11_403 : cv_ RX11 403 yX11_stands zX11_stands 11 4 := ⟨gi_V (lw_b9 55 (by decide +kernel) rfl : Cond.methodLink RX11 403 yX11_stands ∈ lw_g) (lw_b9 57 (by decide +kernel) rfl : Cond.instanceMethod yX11_stands ∈ lw_g) (lw_sel 70 rfl : Cond.selects yX11_stands.cls yX11_stands yX11_stands ∈ lw_g) (lw_b1 10 (by decide +kernel) rfl : Cond.initialized yX11_stands.cls ∈ lw_g) (lw_b9 58 rfl rfl : Cond.code yX11_stands cX11_stands 6 (some .boolean) ∈ lw_g), ⟨by decide, by decide, by decide +kernel⟩, ⟨_, _, rfl⟩⟩
set_option maxRecDepth 100000 in
theorem cl_X11_397 : cv_ RX11 397 yX11_isTold zX11_isTold 11 3 := ⟨gi_V (lw_b9 43 (by decide +kernel) rfl : Cond.methodLink RX11 397 yX11_isTold ∈ lw_g) (lw_b9 45 (by decide +kernel) rfl : Cond.instanceMethod yX11_isTold ∈ lw_g) (lw_sel 28 rfl : Cond.selects yX11_isTold.cls yX11_isTold yX11_isTold ∈ lw_g) (lw_b1 10 (by decide +kernel) rfl : Cond.initialized yX11_isTold.cls ∈ lw_g) (lw_b9 46 rfl rfl : Cond.code yX11_isTold cX11_isTold 4 (some .boolean) ∈ lw_g), ⟨by decide, by decide, by decide +kernel⟩, ⟨_, _, rfl⟩⟩
abbrev cX11_addScore : ByteArray := prog_13_method_57_code
def yX11_addScore : MethodName := ⟨RX11, "addScore", "(III)V"⟩
def zX11_addScore : Zm := (RX11, cX11_addScore, 4, none, { frames := 0, cells := 0, slots := 0, locals := 0 })
abbrev cX11_scoreOf : ByteArray := prog_13_method_58_code
def yX11_scoreOf : MethodName := ⟨RX11, "scoreOf", "(II)I"⟩
def zX11_scoreOf : Zm := (RX11, cX11_scoreOf, 3, (some .int), { frames := 0, cells := 0, slots := 0, locals := 0 })
theorem bk_X11_scoreOf_0 : ck_ fX11 (some .int) cX11_scoreOf 0 [.iload 2, .ifCond .ne 13, .aload 0, .tableswitch 0 11 36 #[], .iload 1, .iaload, .goto 19] 13 = true := qck_r (nn_ _) (by decide +kernel)
theorem bs_X11_scoreOf_0 {P : Zt → Option Zv → Prop} (K : Int → Zl → List Zv → Zt → Prop) : sx_ K P [.iload 2, .ifCond .ne 13, .aload 0, .tableswitch 0 11 36 #[], .iload 1, .iaload, .goto 19] 13 = x_iload 2 (x_ifCond .ne 13 K (x_aload 0 (x_g1 111 236 (x_iload 1 (x_iaload (x_goto 19 K)))))) := ((xe_iload 2).trans (congrArg (x_iload 2) ((xe_ifCond .ne 13).trans (congrArg (x_ifCond .ne 13 K) ((xe_aload 0).trans (congrArg (x_aload 0) ((xe_g1 (kk := 111) rfl tl_11_36).trans (congrArg (x_g1 111 236) ((xe_iload 1).trans (congrArg (x_iload 1) ((xe_iaload).trans (congrArg (x_iaload) (xe_goto 19)))))))))))))
theorem bk_X11_scoreOf_13 : ck_ fX11 (some .int) cX11_scoreOf 13 [.aload 0, .tableswitch 0 11 37 #[], .iload 1, .iaload, .ireturn] 20 = true := qck_r (nn_ _) (by decide +kernel)
theorem bs_X11_scoreOf_13 {P : Zt → Option Zv → Prop} (K : Int → Zl → List Zv → Zt → Prop) : sx_ K P [.aload 0, .tableswitch 0 11 37 #[], .iload 1, .iaload, .ireturn] 20 = x_aload 0 (x_g1 111 237 (x_iload 1 (x_iaload (x_ireturn P)))) := ((xe_aload 0).trans (congrArg (x_aload 0) ((xe_g1 (kk := 111) rfl tl_11_37).trans (congrArg (x_g1 111 237) ((xe_iload 1).trans (congrArg (x_iload 1) ((xe_iaload).trans (congrArg (x_iaload) (xe_ireturn)))))))))
theorem bk_X11_scoreOf_19 : ck_ fX11 (some .int) cX11_scoreOf 19 [.ireturn] 20 = true := qck_r (nn_ _) (by decide +kernel)
theorem bs_X11_scoreOf_19 {P : Zt → Option Zv → Prop} (K : Int → Zl → List Zv → Zt → Prop) : sx_ K P [.ireturn] 20 = x_ireturn P := (xe_ireturn)
abbrev cX11_sendOff : ByteArray := prog_13_method_59_code
def yX11_sendOff : MethodName := ⟨RX11, "sendOff", "(III)V"⟩
def zX11_sendOff : Zm := (RX11, cX11_sendOff, 7, none, { frames := 1, cells := 0, slots := 0, locals := 22 })
abbrev cX11_substitute : ByteArray := prog_13_method_60_code
def yX11_substitute : MethodName := ⟨RX11, "substitute", "(IIII)V"⟩
def zX11_substitute : Zm := (RX11, cX11_substitute, 9, none, { frames := 1, cells := 0, slots := 0, locals := 24 })
set_option maxRecDepth 100000 in
theorem cl_X11_410 : cv_ RX11 410 yX11_setLive zX11_setLive 11 3 := ⟨gi_V (lw_b9 78 (by decide +kernel) rfl : Cond.methodLink RX11 410 yX11_setLive ∈ lw_g) (lw_b9 80 (by decide +kernel) rfl : Cond.instanceMethod yX11_setLive ∈ lw_g) (lw_sel 64 rfl : Cond.selects yX11_setLive.cls yX11_setLive yX11_setLive ∈ lw_g) (lw_b1 10 (by decide +kernel) rfl : Cond.initialized yX11_setLive.cls ∈ lw_g) (lw_b9 81 rfl rfl : Cond.code yX11_setLive cX11_setLive 4 none ∈ lw_g), ⟨by decide, by decide, by decide +kernel⟩, ⟨_, _, rfl⟩⟩
abbrev cX11_playFootball : ByteArray := prog_13_method_61_code
def yX11_playFootball : MethodName := ⟨RX11, "playFootball", "(IIIII)V"⟩
def zX11_playFootball : Zm := (RX11, cX11_playFootball, 7, none, { frames := 2, cells := 0, slots := 0, locals := 52 })
theorem ds_X11_playFootball_1 : decode cX11_playFootball 1 = .ok (.tableswitch 161 0 4 #[35, 73, 83, 95, 141], 35) := by decide +kernel
set_option maxRecDepth 100000 in
theorem cl_X11_413 : cv_ RX11 413 yX11_addScore zX11_addScore 11 3 := ⟨gi_V (lw_b9 82 (by decide +kernel) rfl : Cond.methodLink RX11 413 yX11_addScore ∈ lw_g) (lw_b9 84 (by decide +kernel) rfl : Cond.instanceMethod yX11_addScore ∈ lw_g) (lw_sel 5 rfl : Cond.selects yX11_addScore.cls yX11_addScore yX11_addScore ∈ lw_g) (lw_b1 10 (by decide +kernel) rfl : Cond.initialized yX11_addScore.cls ∈ lw_g) (lw_b9 85 rfl rfl : Cond.code yX11_addScore cX11_addScore 4 none ∈ lw_g), ⟨by decide, by decide, by decide +kernel⟩, ⟨_, _, rfl⟩⟩
set_option maxRecDepth 100000 in
theorem cl_X11_416 : cv_ RX11 416 yX11_sendOff zX11_sendOff 11 3 := ⟨gi_V (lw_b9 86 (by decide +kernel) rfl : Cond.methodLink RX11 416 yX11_sendOff ∈ lw_g) (lw_b9 88 (by decide +kernel) rfl : Cond.instanceMethod yX11_sendOff ∈ lw_g) (lw_sel 63 rfl : Cond.selects yX11_sendOff.cls yX11_sendOff yX11_sendOff ∈ lw_g) (lw_b1 10 (by decide +kernel) rfl : Cond.initialized yX11_sendOff.cls ∈ lw_g) (lw_b9 89 rfl rfl : Cond.code yX11_sendOff cX11_sendOff 7 none ∈ lw_g), ⟨by decide, by decide, by decide +kernel⟩, ⟨_, _, rfl⟩⟩
set_option maxRecDepth 100000 in
theorem cl_X11_419 : cv_ RX11 419 yX11_substitute zX11_substitute 11 4 := ⟨gi_V (lw_b9 90 (by decide +kernel) rfl : Cond.methodLink RX11 419 yX11_substitute ∈ lw_g) (lw_b9 92 (by decide +kernel) rfl : Cond.instanceMethod yX11_substitute ∈ lw_g) (lw_sel 71 rfl : Cond.selects yX11_substitute.cls yX11_substitute yX11_substitute ∈ lw_g) (lw_b1 10 (by decide +kernel) rfl : Cond.initialized yX11_substitute.cls ∈ lw_g) (lw_b9 93 rfl rfl : Cond.code yX11_substitute cX11_substitute 9 none ∈ lw_g), ⟨by decide, by decide, by decide +kernel⟩, ⟨_, _, rfl⟩⟩
abbrev cX11_rotate : ByteArray := prog_13_method_62_code
def yX11_rotate : MethodName := ⟨RX11, "rotate", "(I)V"⟩
def zX11_rotate : Zm := (RX11, cX11_rotate, 5, none, { frames := 0, cells := 0, slots := 0, locals := 0 })
abbrev cX11_playVolleyball : ByteArray := prog_13_method_63_code
def yX11_playVolleyball : MethodName := ⟨RX11, "playVolleyball", "(IIIII)V"⟩
def zX11_playVolleyball : Zm := (RX11, cX11_playVolleyball, 9, none, { frames := 2, cells := 0, slots := 0, locals := 52 })
set_option maxRecDepth 100000 in
theorem cl_X11_426 : cv_ RX11 426 yX11_scoreOf zX11_scoreOf 11 2 := ⟨gi_V (lw_b9 102 (by decide +kernel) rfl : Cond.methodLink RX11 426 yX11_scoreOf ∈ lw_g) (lw_b9 104 (by decide +kernel) rfl : Cond.instanceMethod yX11_scoreOf ∈ lw_g) (lw_sel 62 rfl : Cond.selects yX11_scoreOf.cls yX11_scoreOf yX11_scoreOf ∈ lw_g) (lw_b1 10 (by decide +kernel) rfl : Cond.initialized yX11_scoreOf.cls ∈ lw_g) (lw_b9 105 rfl rfl : Cond.code yX11_scoreOf cX11_scoreOf 3 (some .int) ∈ lw_g), ⟨by decide, by decide, by decide +kernel⟩, ⟨_, _, rfl⟩⟩
set_option maxRecDepth 100000 in
theorem cl_X11_423 : cv_ RX11 423 yX11_rotate zX11_rotate 11 1 := ⟨gi_V (lw_b9 98 (by decide +kernel) rfl : Cond.methodLink RX11 423 yX11_rotate ∈ lw_g) (lw_b9 100 (by decide +kernel) rfl : Cond.instanceMethod yX11_rotate ∈ lw_g) (lw_sel 57 rfl : Cond.selects yX11_rotate.cls yX11_rotate yX11_rotate ∈ lw_g) (lw_b1 10 (by decide +kernel) rfl : Cond.initialized yX11_rotate.cls ∈ lw_g) (lw_b9 101 rfl rfl : Cond.code yX11_rotate cX11_rotate 5 none ∈ lw_g), ⟨by decide, by decide, by decide +kernel⟩, ⟨_, _, rfl⟩⟩
abbrev cX11_playTennis : ByteArray := prog_13_method_64_code
def yX11_playTennis : MethodName := ⟨RX11, "playTennis", "(III)V"⟩
def zX11_playTennis : Zm := (RX11, cX11_playTennis, 8, none, { frames := 1, cells := 0, slots := 0, locals := 23 })
abbrev cX11_turnSides : ByteArray := prog_13_method_65_code
def yX11_turnSides : MethodName := ⟨RX11, "turnSides", "(I)V"⟩
def zX11_turnSides : Zm := (RX11, cX11_turnSides, 4, none, { frames := 1, cells := 0, slots := 0, locals := 23 })
abbrev cX11_out : ByteArray := prog_13_method_66_code
def yX11_out : MethodName := ⟨RX11, "out", "(I)V"⟩
def zX11_out : Zm := (RX11, cX11_out, 2, none, { frames := 2, cells := 0, slots := 0, locals := 46 })
set_option maxRecDepth 100000 in
theorem cl_X11_429 : cv_ RX11 429 yX11_turnSides zX11_turnSides 11 1 := ⟨gi_V (lw_b9 130 (by decide +kernel) rfl : Cond.methodLink RX11 429 yX11_turnSides ∈ lw_g) (lw_b9 132 (by decide +kernel) rfl : Cond.instanceMethod yX11_turnSides ∈ lw_g) (lw_sel 76 rfl : Cond.selects yX11_turnSides.cls yX11_turnSides yX11_turnSides ∈ lw_g) (lw_b1 10 (by decide +kernel) rfl : Cond.initialized yX11_turnSides.cls ∈ lw_g) (lw_b9 133 rfl rfl : Cond.code yX11_turnSides cX11_turnSides 4 none ∈ lw_g), ⟨by decide, by decide, by decide +kernel⟩, ⟨_, _, rfl⟩⟩
abbrev cX11_advance : ByteArray := prog_13_method_67_code
def yX11_advance : MethodName := ⟨RX11, "advance", "(IIII)V"⟩
def zX11_advance : Zm := (RX11, cX11_advance, 5, none, { frames := 1, cells := 0, slots := 0, locals := 23 })
abbrev cX11_hit : ByteArray := prog_13_method_68_code
def yX11_hit : MethodName := ⟨RX11, "hit", "(III)V"⟩
def zX11_hit : Zm := (RX11, cX11_hit, 8, none, { frames := 2, cells := 0, slots := 0, locals := 47 })
set_option maxRecDepth 100000 in
theorem cl_X11_432 : cv_ RX11 432 yX11_advance zX11_advance 11 4 := ⟨gi_V (lw_b9 118 (by decide +kernel) rfl : Cond.methodLink RX11 432 yX11_advance ∈ lw_g) (lw_b9 120 (by decide +kernel) rfl : Cond.instanceMethod yX11_advance ∈ lw_g) (lw_sel 6 rfl : Cond.selects yX11_advance.cls yX11_advance yX11_advance ∈ lw_g) (lw_b1 10 (by decide +kernel) rfl : Cond.initialized yX11_advance.cls ∈ lw_g) (lw_b9 121 rfl rfl : Cond.code yX11_advance cX11_advance 5 none ∈ lw_g), ⟨by decide, by decide, by decide +kernel⟩, ⟨_, _, rfl⟩⟩
abbrev cX11_walk : ByteArray := prog_13_method_69_code
def yX11_walk : MethodName := ⟨RX11, "walk", "(II)V"⟩
def zX11_walk : Zm := (RX11, cX11_walk, 5, none, { frames := 2, cells := 0, slots := 0, locals := 47 })
abbrev cX11_playBaseball : ByteArray := prog_13_method_70_code
def yX11_playBaseball : MethodName := ⟨RX11, "playBaseball", "(IIII)V"⟩
def zX11_playBaseball : Zm := (RX11, cX11_playBaseball, 5, none, { frames := 3, cells := 0, slots := 0, locals := 74 })
theorem ds_X11_playBaseball_1 : decode cX11_playBaseball 1 = .ok (.tableswitch 103 1 3 #[27, 38, 71], 27) := by decide +kernel
set_option maxRecDepth 100000 in
theorem cl_X11_435 : cv_ RX11 435 yX11_hit zX11_hit 11 3 := ⟨gi_V (lw_b9 114 (by decide +kernel) rfl : Cond.methodLink RX11 435 yX11_hit ∈ lw_g) (lw_b9 116 (by decide +kernel) rfl : Cond.instanceMethod yX11_hit ∈ lw_g) (lw_sel 20 rfl : Cond.selects yX11_hit.cls yX11_hit yX11_hit ∈ lw_g) (lw_b1 10 (by decide +kernel) rfl : Cond.initialized yX11_hit.cls ∈ lw_g) (lw_b9 117 rfl rfl : Cond.code yX11_hit cX11_hit 8 none ∈ lw_g), ⟨by decide, by decide, by decide +kernel⟩, ⟨_, _, rfl⟩⟩
set_option maxRecDepth 100000 in
theorem cl_X11_438 : cv_ RX11 438 yX11_walk zX11_walk 11 2 := ⟨gi_V (lw_b9 122 (by decide +kernel) rfl : Cond.methodLink RX11 438 yX11_walk ∈ lw_g) (lw_b9 124 (by decide +kernel) rfl : Cond.instanceMethod yX11_walk ∈ lw_g) (lw_sel 77 rfl : Cond.selects yX11_walk.cls yX11_walk yX11_walk ∈ lw_g) (lw_b1 10 (by decide +kernel) rfl : Cond.initialized yX11_walk.cls ∈ lw_g) (lw_b9 125 rfl rfl : Cond.code yX11_walk cX11_walk 5 none ∈ lw_g), ⟨by decide, by decide, by decide +kernel⟩, ⟨_, _, rfl⟩⟩
set_option maxRecDepth 100000 in
theorem cl_X11_441 : cv_ RX11 441 yX11_out zX11_out 11 1 := ⟨gi_V (lw_b9 126 (by decide +kernel) rfl : Cond.methodLink RX11 441 yX11_out ∈ lw_g) (lw_b9 128 (by decide +kernel) rfl : Cond.instanceMethod yX11_out ∈ lw_g) (lw_sel 44 rfl : Cond.selects yX11_out.cls yX11_out yX11_out ∈ lw_g) (lw_b1 10 (by decide +kernel) rfl : Cond.initialized yX11_out.cls ∈ lw_g) (lw_b9 129 rfl rfl : Cond.code yX11_out cX11_out 2 none ∈ lw_g), ⟨by decide, by decide, by decide +kernel⟩, ⟨_, _, rfl⟩⟩
abbrev cX11_play : ByteArray := prog_13_method_71_code
def yX11_play : MethodName := ⟨RX11, "play", "(IIIII)V"⟩
def zX11_play : Zm := (RX11, cX11_play, 6, none, { frames := 4, cells := 0, slots := 0, locals := 98 })
theorem ds_X11_play_11 : decode cX11_play 11 = .ok (.tableswitch 63 0 2 #[25, 39, 53], 25) := by decide +kernel
set_option maxRecDepth 100000 in
theorem cl_X11_444 : cv_ RX11 444 yX11_playFootball zX11_playFootball 11 5 := ⟨gi_V (lw_b9 74 (by decide +kernel) rfl : Cond.methodLink RX11 444 yX11_playFootball ∈ lw_g) (lw_b9 76 (by decide +kernel) rfl : Cond.instanceMethod yX11_playFootball ∈ lw_g) (lw_sel 49 rfl : Cond.selects yX11_playFootball.cls yX11_playFootball yX11_playFootball ∈ lw_g) (lw_b1 10 (by decide +kernel) rfl : Cond.initialized yX11_playFootball.cls ∈ lw_g) (lw_b9 77 rfl rfl : Cond.code yX11_playFootball cX11_playFootball 7 none ∈ lw_g), ⟨by decide, by decide, by decide +kernel⟩, ⟨_, _, rfl⟩⟩
set_option maxRecDepth 100000 in
theorem cl_X11_447 : cv_ RX11 447 yX11_playVolleyball zX11_playVolleyball 11 5 := ⟨gi_V (lw_b9 94 (by decide +kernel) rfl : Cond.methodLink RX11 447 yX11_playVolleyball ∈ lw_g) (lw_b9 96 (by decide +kernel) rfl : Cond.instanceMethod yX11_playVolleyball ∈ lw_g) (lw_sel 51 rfl : Cond.selects yX11_playVolleyball.cls yX11_playVolleyball yX11_playVolleyball ∈ lw_g) (lw_b1 10 (by decide +kernel) rfl : Cond.initialized yX11_playVolleyball.cls ∈ lw_g) (lw_b9 97 rfl rfl : Cond.code yX11_playVolleyball cX11_playVolleyball 9 none ∈ lw_g), ⟨by decide, by decide, by decide +kernel⟩, ⟨_, _, rfl⟩⟩
set_option maxRecDepth 100000 in
theorem cl_X11_450 : cv_ RX11 450 yX11_playTennis zX11_playTennis 11 3 := ⟨gi_V (lw_b9 106 (by decide +kernel) rfl : Cond.methodLink RX11 450 yX11_playTennis ∈ lw_g) (lw_b9 108 (by decide +kernel) rfl : Cond.instanceMethod yX11_playTennis ∈ lw_g) (lw_sel 50 rfl : Cond.selects yX11_playTennis.cls yX11_playTennis yX11_playTennis ∈ lw_g) (lw_b1 10 (by decide +kernel) rfl : Cond.initialized yX11_playTennis.cls ∈ lw_g) (lw_b9 109 rfl rfl : Cond.code yX11_playTennis cX11_playTennis 8 none ∈ lw_g), ⟨by decide, by decide, by decide +kernel⟩, ⟨_, _, rfl⟩⟩
set_option maxRecDepth 100000 in
theorem cl_X11_453 : cv_ RX11 453 yX11_playBaseball zX11_playBaseball 11 4 := ⟨gi_V (lw_b9 110 (by decide +kernel) rfl : Cond.methodLink RX11 453 yX11_playBaseball ∈ lw_g) (lw_b9 112 (by decide +kernel) rfl : Cond.instanceMethod yX11_playBaseball ∈ lw_g) (lw_sel 48 rfl : Cond.selects yX11_playBaseball.cls yX11_playBaseball yX11_playBaseball ∈ lw_g) (lw_b1 10 (by decide +kernel) rfl : Cond.initialized yX11_playBaseball.cls ∈ lw_g) (lw_b9 113 rfl rfl : Cond.code yX11_playBaseball cX11_playBaseball 5 none ∈ lw_g), ⟨by decide, by decide, by decide +kernel⟩, ⟨_, _, rfl⟩⟩
/-- a chain of rows -/
def lk_ (T : Zt) : Int → List Int → Prop
  | f, [] => f = -1
  | f, x :: l => f = x ∧ (0 ≤ x ∧ x < 3000) ∧ lk_ T (T 252 0 x) l
theorem lk_e {T T' : Zt} : ∀ {l : List Int} {f : Int}, lk_ T f l → (∀ x ∈ l, T' 252 0 x = T 252 0 x) → lk_ T' f l
  | [], _, h, _ => h
  | x :: l, _, h, e => ⟨h.1, h.2.1, by
      rw [e x List.mem_cons_self]
      exact lk_e h.2.2 (fun z hz => e z (List.mem_cons_of_mem _ hz))⟩
theorem lk_s {T : Zt} {l : List Int} {f i : Int} (h0 : 0 ≤ i) (hi : i < l.length) (h : lk_ T f (l.drop i.toNat)) : (0 ≤ f ∧ f < 3000) ∧ lk_ T (T 252 0 f) (l.drop (i + 1).toNat) := by
  rw [List.drop_eq_getElem_cons (by omega)] at h
  obtain ⟨h1, h2, h3⟩ := h
  subst h1
  rw [show (i + 1).toNat = i.toNat + 1 by omega]
  exact ⟨h2, h3⟩
theorem lk_g {T : Zt} {l : List Int} {f i : Int} (h0 : 0 ≤ i) (hi : i < l.length) (h : lk_ T f (l.drop i.toNat)) : l[i.toNat]? = some f ∧ 0 ≤ f ∧ f < 3000 := by
  rw [List.drop_eq_getElem_cons (by omega)] at h
  obtain ⟨h1, h2, h3⟩ := h
  exact ⟨by rw [h1]; exact List.getElem?_eq_getElem (by omega), by omega, by omega⟩
theorem lk_c {T : Zt} {l : List Int} {f : Int} (h : lk_ T f l) (hf : f ≠ -1) : ∃ l', l = f :: l' ∧ (0 ≤ f ∧ f < 3000) ∧ lk_ T (T 252 0 f) l' := by
  cases l with
  | nil => exact absurd h hf
  | cons x l => obtain ⟨h1, h2, h3⟩ := h; subst h1; exact ⟨l, rfl, h2, h3⟩
theorem lk_app {T T' : Zt} {x y : Int} (hx : 0 ≤ x ∧ x < 3000) (e1 : T' 252 0 x = -1) (e2 : T' 252 0 y = x) : ∀ {l : List Int} {f : Int}, lk_ T f l → l.Nodup → l.getLast? = some y → (∀ z ∈ l, z ≠ y → T' 252 0 z = T 252 0 z) → lk_ T' f (l ++ [x])
  | [], _, _, _, g, _ => by cases g
  | [a], _, h, _, g, _ => by
      cases g
      exact ⟨h.1, h.2.1, e2, hx, e1⟩
  | a :: b :: l, _, h, n, g, e => by
      have n2 := List.nodup_cons.mp n
      have gy : (b :: l).getLast? = some y := by rw [List.getLast?_cons_cons] at g; exact g
      have hy : y ∈ b :: l := List.mem_of_getLast? gy
      have ha : a ≠ y := fun q => n2.1 (q ▸ hy)
      refine ⟨h.1, h.2.1, ?_⟩
      rw [e a List.mem_cons_self ha]
      exact lk_app hx e1 e2 h.2.2 n2.2 gy (fun z hz => e z (List.mem_cons_of_mem _ hz))
theorem lk_del {T T' : Zt} {x p : Int} (e1 : T' 252 0 p = T 252 0 x) : ∀ {i : Nat} {l : List Int} {f : Int}, lk_ T f l → l.Nodup → l[i + 1]? = some x → l[i]? = some p → (∀ z ∈ l, z ≠ p → T' 252 0 z = T 252 0 z) → lk_ T' f (l.eraseIdx (i + 1))
  | _, [], _, _, _, g, _, _ => by simp at g
  | 0, [a], _, _, _, g, _, _ => by simp at g
  | 0, a :: b :: l, _, h, n, g, k, e => by
      simp at g k
      subst g; subst k
      have n2 := List.nodup_cons.mp n
      obtain ⟨h1, h2, h3, h4, h5⟩ := h
      refine ⟨h1, h2, ?_⟩
      rw [e1]
      exact lk_e h5 (fun z (hz : z ∈ l) => e z (List.mem_cons_of_mem _ (List.mem_cons_of_mem _ hz)) (fun q => n2.1 (q ▸ List.mem_cons_of_mem _ hz)))
  | i + 1, a :: l, _, h, n, g, k, e => by
      have n2 := List.nodup_cons.mp n
      have g2 : l[i + 1]? = some x := by simpa using g
      have k2 : l[i]? = some p := by simpa using k
      have ha : a ≠ p := fun q => n2.1 (q ▸ List.mem_of_getElem? k2)
      refine ⟨h.1, h.2.1, ?_⟩
      rw [e a List.mem_cons_self ha]
      exact lk_del e1 h.2.2 n2.2 g2 k2 (fun z hz => e z (List.mem_cons_of_mem _ hz))

def kf_ (b : Int) : Nat := if b = 0 then 253 else 255
def km_ (b : Int) : Nat := if b = 0 then 254 else 256
/-- the rows of the matches: chains, all apart -/
def RB_ (T : Zt) (L : Int → Int → List Int) : Prop :=
  (∀ m b, 0 ≤ m → m < T 111 0 29 → 0 ≤ b → b ≤ 1 → lk_ T (T (kf_ b) 0 m) (L m b) ∧ T (km_ b) 0 m = ((L m b).length : Int)) ∧
  (∀ m b x, x ∈ L m b → 0 ≤ x ∧ x < T 111 0 47) ∧ (∀ m b, (L m b).Nodup) ∧
  (∀ m b m' b' x, x ∈ L m b → x ∈ L m' b' → m = m' ∧ b = b')
/-- and rows that are in no chain -/
def RR_ (T : Zt) (L : Int → Int → List Int) (rest : List Int) : Prop :=
  (∀ x ∈ rest, 0 ≤ x ∧ x < T 111 0 47) ∧ rest.Nodup ∧ (∀ m b x, x ∈ rest → x ∉ L m b)
def RX_ (T : Zt) (rest : List Int) : Prop := ∃ L, RB_ T L ∧ RR_ T L rest
/-- what other pictures keep of it -/
theorem rb_f {T T' : Zt} {L : Int → Int → List Int} (h : RB_ T L) (e29 : T' 111 0 29 = T 111 0 29) (e47 : T' 111 0 47 = T 111 0 47) (e : ∀ k j, k = 252 ∨ k = 253 ∨ k = 254 ∨ k = 255 ∨ k = 256 → T' k 0 j = T k 0 j) : RB_ T' L := by
  obtain ⟨a, b, c, d⟩ := h
  refine ⟨fun m b' h1 h2 h3 h4 => ?_, fun m b' x hx => by rw [e47]; exact b m b' x hx, c, d⟩
  have y := a m b' h1 (by omega) h3 h4
  have z1 : kf_ b' = 253 ∨ kf_ b' = 255 := by unfold kf_; split <;> simp
  have z2 : km_ b' = 254 ∨ km_ b' = 256 := by unfold km_; split <;> simp
  rw [e (kf_ b') m (by omega), e (km_ b') m (by omega)]
  exact ⟨lk_e y.1 (fun x _ => e 252 x (by decide)), y.2⟩
theorem rx_f {T T' : Zt} {rest : List Int} (h : RX_ T rest) (e29 : T' 111 0 29 = T 111 0 29) (e47 : T' 111 0 47 = T 111 0 47) (e : ∀ k j, k = 252 ∨ k = 253 ∨ k = 254 ∨ k = 255 ∨ k = 256 → T' k 0 j = T k 0 j) : RX_ T' rest := by
  obtain ⟨L, h1, h2, h3, h4⟩ := h
  exact ⟨L, rb_f h1 e29 e47 e, fun x hx => by rw [e47]; exact h2 x hx, h3, h4⟩
/-- apart, within bounds: so not more than the bound -/
theorem nd_len {l : List Int} {n : Int} (h0 : 0 ≤ n) (h : ∀ x ∈ l, 0 ≤ x ∧ x < n) (d : l.Nodup) : (l.length : Int) ≤ n := by
  refine ph_i (n := l.length) (m := n) (fun i => l.getD i.toNat 0) (by omega) h0 (fun i a b => ?_) (fun i j a b c => ?_)
  · have hi : i.toNat < l.length := by omega
    simp only [List.getD_eq_getElem?_getD, List.getElem?_eq_getElem hi, Option.getD_some]
    exact h _ (List.getElem_mem hi)
  · have hi : i.toNat < l.length := by omega
    have hj : j.toNat < l.length := by omega
    simp only [List.getD_eq_getElem?_getD, List.getElem?_eq_getElem hi, List.getElem?_eq_getElem hj, Option.getD_some]
    exact (List.pairwise_iff_getElem.mp d) _ _ hi hj (by omega)
/-- rows that no match has yet -/
def RZ_ (T : Zt) : Prop := ∀ m, T 111 0 29 ≤ m → m < 400 → T 254 0 m = 0 ∧ T 256 0 m = 0
theorem rx_am {T T' : Zt} (h : RX_ T []) (rz : RZ_ T) (h0 : 0 ≤ T 111 0 29) (hle : T 111 0 29 ≤ T' 111 0 29) (h4 : T' 111 0 29 ≤ 400) (e47 : T' 111 0 47 = T 111 0 47) (en : ∀ z, T' 252 0 z = T 252 0 z) (e4 : ∀ j, T' 254 0 j = T 254 0 j) (e6 : ∀ j, T' 256 0 j = T 256 0 j)
    (eo : ∀ j, j < T 111 0 29 → T' 253 0 j = T 253 0 j ∧ T' 255 0 j = T 255 0 j) (en2 : ∀ j, T 111 0 29 ≤ j → j < T' 111 0 29 → T' 253 0 j = -1 ∧ T' 255 0 j = -1) : RX_ T' [] ∧ RZ_ T' := by
  obtain ⟨L, ⟨a, b, c, d⟩, -⟩ := h
  refine ⟨⟨fun m' b' => if m' < T 111 0 29 then L m' b' else [], ⟨?_, ?_, ?_, ?_⟩, (by simp), List.nodup_nil, (by simp)⟩, fun m h1 h2 => by rw [e4, e6]; exact rz m (by omega) h2⟩
  · intro m' b' h1 h2 h3 h5
    by_cases k : m' < T 111 0 29
    · simp only [k, if_true]
      have g := a m' b' h1 k h3 h5
      rcases (by omega : b' = 0 ∨ b' = 1) with z | z
      · subst z
        have f1 : T' (kf_ 0) 0 m' = T (kf_ 0) 0 m' := (eo m' k).1
        have f2 : T' (km_ 0) 0 m' = T (km_ 0) 0 m' := e4 m'
        rw [f1, f2]; exact ⟨lk_e g.1 (fun x _ => en x), g.2⟩
      · subst z
        have f1 : T' (kf_ 1) 0 m' = T (kf_ 1) 0 m' := (eo m' k).2
        have f2 : T' (km_ 1) 0 m' = T (km_ 1) 0 m' := e6 m'
        rw [f1, f2]; exact ⟨lk_e g.1 (fun x _ => en x), g.2⟩
    · simp only [k, if_false]
      have n := en2 m' (by omega) h2
      have q := rz m' (by omega) (by omega)
      rcases (by omega : b' = 0 ∨ b' = 1) with z | z
      · subst z; exact ⟨n.1, (e4 m').trans q.1⟩
      · subst z; exact ⟨n.2, (e6 m').trans q.2⟩
  · intro m' b' z hz
    rw [e47]
    by_cases k : m' < T 111 0 29
    · simp only [k, if_true] at hz; exact b m' b' z hz
    · simp [k] at hz
  · intro m' b'
    by_cases k : m' < T 111 0 29
    · simp only [k, if_true]; exact c m' b'
    · simp [k]
  · intro m1 b1 m2 b2 z h1 h2
    by_cases k : m1 < T 111 0 29
    · by_cases k2 : m2 < T 111 0 29
      · simp only [k, k2, if_true] at h1 h2; exact d m1 b1 m2 b2 z h1 h2
      · simp [k2] at h2
    · simp [k] at h1
theorem rx_nil {T : Zt} {l : List Int} (h : RX_ T l) : RX_ T [] := by
  obtain ⟨L, h1, h2⟩ := h
  exact ⟨L, h1, (fun _ hx => absurd hx List.not_mem_nil), List.nodup_nil, (fun _ _ _ hx => absurd hx List.not_mem_nil)⟩
abbrev cX11_rowAt : ByteArray := prog_13_method_72_code
def yX11_rowAt : MethodName := ⟨RX11, "rowAt", "(II)I"⟩
def zX11_rowAt : Zm := (RX11, cX11_rowAt, 5, (some .int), { frames := 0, cells := 0, slots := 0, locals := 0 })
theorem bk_X11_rowAt_5 : ck_ fX11 (some .int) cX11_rowAt 5 [.iload 4, .iload 2, .if_icmp .ge 24, .aload 0, .tableswitch 0 11 52 #[], .iload 3, .iaload, .istore 3, .iinc 4 1, .goto 5] 24 = true := qck_r (nn_ _) (by decide +kernel)
theorem bs_X11_rowAt_5 {P : Zt → Option Zv → Prop} (K : Int → Zl → List Zv → Zt → Prop) : sx_ K P [.iload 4, .iload 2, .if_icmp .ge 24, .aload 0, .tableswitch 0 11 52 #[], .iload 3, .iaload, .istore 3, .iinc 4 1, .goto 5] 24 = x_iload 4 (x_iload 2 (x_if_icmp .ge 24 K (x_aload 0 (x_g1 111 252 (x_iload 3 (x_iaload (x_istore 3 (x_iinc 4 1 (x_goto 5 K))))))))) := ((xe_iload 4).trans (congrArg (x_iload 4) ((xe_iload 2).trans (congrArg (x_iload 2) ((xe_if_icmp .ge 24).trans (congrArg (x_if_icmp .ge 24 K) ((xe_aload 0).trans (congrArg (x_aload 0) ((xe_g1 (kk := 111) rfl tl_11_52).trans (congrArg (x_g1 111 252) ((xe_iload 3).trans (congrArg (x_iload 3) ((xe_iaload).trans (congrArg (x_iaload) ((xe_istore 3).trans (congrArg (x_istore 3) ((xe_iinc 4 1).trans (congrArg (x_iinc 4 1) (xe_goto 5)))))))))))))))))))
theorem bk_X11_rowAt_24 : ck_ fX11 (some .int) cX11_rowAt 24 [.iload 3, .ireturn] 26 = true := qck_r (nn_ _) (by decide +kernel)
theorem bs_X11_rowAt_24 {P : Zt → Option Zv → Prop} (K : Int → Zl → List Zv → Zt → Prop) : sx_ K P [.iload 3, .ireturn] 26 = x_iload 3 (x_ireturn P) := ((xe_iload 3).trans (congrArg (x_iload 3) (xe_ireturn)))
theorem bk_X11_rowAt_0 : ck_ fX11 (some .int) cX11_rowAt 0 [.iload 1, .istore 3, .iconst 0, .istore 4] 5 = true := qck_r (nn_ _) (by decide +kernel)
theorem bs_X11_rowAt_0 {P : Zt → Option Zv → Prop} (K : Int → Zl → List Zv → Zt → Prop) : sx_ K P [.iload 1, .istore 3, .iconst 0, .istore 4] 5 = x_iload 1 (x_istore 3 (x_iconst 0 (x_istore 4 (K 5)))) := ((xe_iload 1).trans (congrArg (x_iload 1) ((xe_istore 3).trans (congrArg (x_istore 3) ((xe_iconst 0).trans (congrArg (x_iconst 0) ((xe_istore 4).trans (congrArg (x_istore 4) xe_nil))))))))
abbrev po_X11_rowAt (T : Zt) (l : List Int) (f k : Int) : Zt → Option Zv → Prop := fun T' r => T = T' ∧ ∃ x : Int, r = some (vI x) ∧ l[k.toNat]? = some x ∧ 0 ≤ x ∧ x < 3000
set_option maxHeartbeats 4000000 in
theorem ct_X11_rowAt {T : Zt} {l : List Int} {f k : Int} (hl : lk_ T f l) (hk : 0 ≤ k ∧ k < (l.length : Int)) : Ct_ yX11_rowAt zX11_rowAt T [vR 111 0, vI f, vI k] (po_X11_rowAt T l f k) := by
  refine ct_of pn_11 rfl rfl (Nat.le_of_ble_eq_true rfl) (fun hT hav => ?_)
  have hr_f : -2147483648 ≤ f ∧ f ≤ 2147483647 := hav (vI f) (by simp)
  have hr_k : -2147483648 ≤ k ∧ k ≤ 2147483647 := hav (vI k) (by simp)
  have hz : zX11_rowAt.2.2.2.1 = some .boolean → ∀ (T' : Zt) (x : Int), po_X11_rowAt T l f k T' (some (vI x)) → 0 ≤ x ∧ x ≤ 1 := fun h => by cases h
  show J_ zX11_rowAt T (po_X11_rowAt T l f k) 0 0 0 [some (vR 111 0), some (vI f), some (vI k), none, none] [] T
  have c_5 : ∀ (nn : Nat) (w : Int) (i : Int), ((k - i).toNat) ≤ nn → (0 ≤ i ∧ i ≤ k) → (lk_ T w (l.drop i.toNat)) → J_ zX11_rowAt T (po_X11_rowAt T l f k) 0 0 5 [some (vR 111 0), some (vI f), some (vI k), some (vI w), some (vI i)] [] T := by
    intro nn
    induction nn using Nat.strongRecOn with
    | _ nn ih_5 =>
      intro w i hm_5 i1 i2
      refine j_blx (F := fX11) tb_X11 (nn_ _) bk_X11_rowAt_5 bs_X11_rowAt_5 hz (fun K hK => ?_)
      refine And.intro (fun c1 => ?_) (fun c1 => ?_)
      · refine hK 24 _ [] T ?_
        refine j_blx (F := fX11) tb_X11 (nn_ _) bk_X11_rowAt_24 bs_X11_rowAt_24 hz (fun K hK => ?_)
        refine (show po_X11_rowAt T l f k T (some (vI w)) from ?_)
        exact ⟨rfl, _, rfl, lk_g (by omega) (by omega) (by rw [show k = i by omega]; exact i2)⟩
      · have hw := lk_s i1.1 (by omega) i2
        refine ix_i (by omega) ?_
        intro b2 b2b
        refine rg_i (by omega) ?_
        refine hK 5 [some (vR 111 0), some (vI f), some (vI k), some (vI (T 252 0 w)), some (vI (i + 1))] [] T ?_
        refine ih_5 _ ?_ (T 252 0 w) (i + 1) (Nat.le_refl _) ?_ ?_
        · omega
        · omega
        · exact hw.2
  refine j_blx (F := fX11) tb_X11 (nn_ _) bk_X11_rowAt_0 bs_X11_rowAt_0 hz (fun K hK => ?_)
  refine hK 5 [some (vR 111 0), some (vI f), some (vI k), some (vI f), some (vI 0)] [] T ?_
  refine c_5 _ f 0 (Nat.le_refl _) ?_ ?_
  · omega
  · exact hl
abbrev cX11_putBehind : ByteArray := prog_13_method_73_code
def yX11_putBehind : MethodName := ⟨RX11, "putBehind", "(IIZ)V"⟩
def zX11_putBehind : Zm := (RX11, cX11_putBehind, 5, none, { frames := 1, cells := 0, slots := 0, locals := 24 })
set_option maxRecDepth 100000 in
theorem cl_X11_456 : cv_ RX11 456 yX11_rowAt zX11_rowAt 11 2 := ⟨gi_V (lw_b9 66 (by decide +kernel) rfl : Cond.methodLink RX11 456 yX11_rowAt ∈ lw_g) (lw_b9 68 (by decide +kernel) rfl : Cond.instanceMethod yX11_rowAt ∈ lw_g) (lw_sel 58 rfl : Cond.selects yX11_rowAt.cls yX11_rowAt yX11_rowAt ∈ lw_g) (lw_b1 10 (by decide +kernel) rfl : Cond.initialized yX11_rowAt.cls ∈ lw_g) (lw_b9 69 rfl rfl : Cond.code yX11_rowAt cX11_rowAt 5 (some .int) ∈ lw_g), ⟨by decide, by decide, by decide +kernel⟩, ⟨_, _, rfl⟩⟩
abbrev cX11_event : ByteArray := prog_13_method_74_code
def yX11_event : MethodName := ⟨RX11, "event", "(IIIII)I"⟩
def zX11_event : Zm := (RX11, cX11_event, 8, (some .int), { frames := 5, cells := 0, slots := 0, locals := 123 })
set_option maxRecDepth 100000 in
theorem cl_X11_459 : cv_ RX11 459 yX11_lawOf zX11_lawOf 11 5 := ⟨gi_V (lw_b9 39 (by decide +kernel) rfl : Cond.methodLink RX11 459 yX11_lawOf ∈ lw_g) (lw_b9 41 (by decide +kernel) rfl : Cond.instanceMethod yX11_lawOf ∈ lw_g) (lw_sel 29 rfl : Cond.selects yX11_lawOf.cls yX11_lawOf yX11_lawOf ∈ lw_g) (lw_b1 10 (by decide +kernel) rfl : Cond.initialized yX11_lawOf.cls ∈ lw_g) (lw_b9 42 rfl rfl : Cond.code yX11_lawOf cX11_lawOf 9 (some .int) ∈ lw_g), ⟨by decide, by decide, by decide +kernel⟩, ⟨_, _, rfl⟩⟩
set_option maxRecDepth 100000 in
theorem cl_X11_466 : cv_ RX11 466 yX11_putBehind zX11_putBehind 11 3 := ⟨gi_V (lw_b9 62 (by decide +kernel) rfl : Cond.methodLink RX11 466 yX11_putBehind ∈ lw_g) (lw_b9 64 (by decide +kernel) rfl : Cond.instanceMethod yX11_putBehind ∈ lw_g) (lw_sel 52 rfl : Cond.selects yX11_putBehind.cls yX11_putBehind yX11_putBehind ∈ lw_g) (lw_b1 10 (by decide +kernel) rfl : Cond.initialized yX11_putBehind.cls ∈ lw_g) (lw_b9 65 rfl rfl : Cond.code yX11_putBehind cX11_putBehind 5 none ∈ lw_g), ⟨by decide, by decide, by decide +kernel⟩, ⟨_, _, rfl⟩⟩
set_option maxRecDepth 100000 in
theorem cl_X11_470 : cv_ RX11 470 yX11_play zX11_play 11 5 := ⟨gi_V (lw_b9 70 (by decide +kernel) rfl : Cond.methodLink RX11 470 yX11_play ∈ lw_g) (lw_b9 72 (by decide +kernel) rfl : Cond.instanceMethod yX11_play ∈ lw_g) (lw_sel 46 rfl : Cond.selects yX11_play.cls yX11_play yX11_play ∈ lw_g) (lw_b1 10 (by decide +kernel) rfl : Cond.initialized yX11_play.cls ∈ lw_g) (lw_b9 73 rfl rfl : Cond.code yX11_play cX11_play 6 none ∈ lw_g), ⟨by decide, by decide, by decide +kernel⟩, ⟨_, _, rfl⟩⟩
abbrev po_X11_event (T : Zt) (m k s p q : Int) : Zt → Option Zv → Prop := fun T' r => ∃ x : Int, r = some (vI x) ∧ fr_ [(111, [47]), (248, []), (249, []), (250, []), (251, []), (252, []), (253, []), (254, []), (256, []), (244, []), (241, []), (242, []), (243, []), (245, []), (246, []), (236, []), (237, []), (235, [])] T T' ∧ (FM_ T' ∧ RX_ T' [] ∧ ZS_ T' ∧ GX_ T' (-1) ∧ ∀ j, j ≠ m ∨ T 111 0 29 ≤ j → T' 254 0 j = T 254 0 j ∧ T' 256 0 j = T 256 0 j)
abbrev cX11_playAnew : ByteArray := prog_13_method_75_code
def yX11_playAnew : MethodName := ⟨RX11, "playAnew", "(I)I"⟩
def zX11_playAnew : Zm := (RX11, cX11_playAnew, 6, (some .int), { frames := 5, cells := 0, slots := 0, locals := 123 })
abbrev cX11_review : ByteArray := prog_13_method_76_code
def yX11_review : MethodName := ⟨RX11, "review", "(IIIIII)I"⟩
def zX11_review : Zm := (RX11, cX11_review, 9, (some .int), { frames := 6, cells := 0, slots := 0, locals := 148 })
set_option maxRecDepth 100000 in
theorem cl_X11_473 : cv_ RX11 473 yX11_playAnew zX11_playAnew 11 1 := ⟨gi_V (lw_b9 138 (by decide +kernel) rfl : Cond.methodLink RX11 473 yX11_playAnew ∈ lw_g) (lw_b9 140 (by decide +kernel) rfl : Cond.instanceMethod yX11_playAnew ∈ lw_g) (lw_sel 47 rfl : Cond.selects yX11_playAnew.cls yX11_playAnew yX11_playAnew ∈ lw_g) (lw_b1 10 (by decide +kernel) rfl : Cond.initialized yX11_playAnew.cls ∈ lw_g) (lw_b9 141 rfl rfl : Cond.code yX11_playAnew cX11_playAnew 6 (some .int) ∈ lw_g), ⟨by decide, by decide, by decide +kernel⟩, ⟨_, _, rfl⟩⟩
abbrev po_X11_review (T : Zt) (m i k s p q : Int) : Zt → Option Zv → Prop := fun T' r => ∃ x : Int, r = some (vI x) ∧ fr_ [(252, []), (253, []), (255, []), (254, []), (256, []), (244, []), (241, []), (242, []), (243, []), (245, []), (246, []), (236, []), (237, []), (235, []), (248, []), (249, []), (250, []), (251, [])] T T' ∧ (FM_ T' ∧ RX_ T' [] ∧ ZS_ T' ∧ GX_ T' (-1) ∧ ∀ j, j ≠ m ∨ T 111 0 29 ≤ j → T' 254 0 j = T 254 0 j ∧ T' 256 0 j = T 256 0 j)
abbrev cX11_row : ByteArray := prog_13_method_78_code
def yX11_row : MethodName := ⟨RX11, "row", "(III)I"⟩
def zX11_row : Zm := (RX11, cX11_row, 5, (some .int), { frames := 2, cells := 0, slots := 0, locals := 43 })
theorem bk_X11_row_0 : ck_ fX11 (some .int) cX11_row 0 [.iload 1, .aload 0, .tableswitch 0 11 29 #[]] 5 = true := qck_r (nn_ _) (by decide +kernel)
theorem bs_X11_row_0 {P : Zt → Option Zv → Prop} (K : Int → Zl → List Zv → Zt → Prop) : sx_ K P [.iload 1, .aload 0, .tableswitch 0 11 29 #[]] 5 = x_iload 1 (x_aload 0 (x_g0 111 29 0 400 (K 5))) := ((xe_iload 1).trans (congrArg (x_iload 1) ((xe_aload 0).trans (congrArg (x_aload 0) ((xe_g0 (kk := 111) rfl tl_11_29).trans (congrArg (x_g0 111 29 0 400) xe_nil))))))
theorem bk_X11_row_8 : ck_ fX11 (some .int) cX11_row 8 [.ifCond .ne 14, .iconst (-2), .ireturn] 14 = true := qck_r (nn_ _) (by decide +kernel)
theorem bs_X11_row_8 {P : Zt → Option Zv → Prop} (K : Int → Zl → List Zv → Zt → Prop) : sx_ K P [.ifCond .ne 14, .iconst (-2), .ireturn] 14 = x_ifCond .ne 14 K (x_iconst (-2) (x_ireturn P)) := ((xe_ifCond .ne 14).trans (congrArg (x_ifCond .ne 14 K) ((xe_iconst (-2)).trans (congrArg (x_iconst (-2)) (xe_ireturn)))))
theorem bk_X11_row_14 : ck_ fX11 (some .int) cX11_row 14 [.iload 3, .iconst 0, .iconst 7] 18 = true := qck_r (nn_ _) (by decide +kernel)
theorem bs_X11_row_14 {P : Zt → Option Zv → Prop} (K : Int → Zl → List Zv → Zt → Prop) : sx_ K P [.iload 3, .iconst 0, .iconst 7] 18 = x_iload 3 (x_iconst 0 (x_iconst 7 (K 18))) := ((xe_iload 3).trans (congrArg (x_iload 3) ((xe_iconst 0).trans (congrArg (x_iconst 0) ((xe_iconst 7).trans (congrArg (x_iconst 7) xe_nil))))))
theorem bk_X11_row_21 : ck_ fX11 (some .int) cX11_row 21 [.ifCond .ne 27, .iconst (-3), .ireturn] 27 = true := qck_r (nn_ _) (by decide +kernel)
theorem bs_X11_row_21 {P : Zt → Option Zv → Prop} (K : Int → Zl → List Zv → Zt → Prop) : sx_ K P [.ifCond .ne 27, .iconst (-3), .ireturn] 27 = x_ifCond .ne 27 K (x_iconst (-3) (x_ireturn P)) := ((xe_ifCond .ne 27).trans (congrArg (x_ifCond .ne 27 K) ((xe_iconst (-3)).trans (congrArg (x_iconst (-3)) (xe_ireturn)))))
theorem bk_X11_row_27 : ck_ fX11 (some .int) cX11_row 27 [.iload 2, .iload 3, .iconst 4, .if_icmp .ge 42, .aload 0, .tableswitch 0 11 54 #[], .iload 1, .iaload, .goto 48] 42 = true := qck_r (nn_ _) (by decide +kernel)
theorem bs_X11_row_27 {P : Zt → Option Zv → Prop} (K : Int → Zl → List Zv → Zt → Prop) : sx_ K P [.iload 2, .iload 3, .iconst 4, .if_icmp .ge 42, .aload 0, .tableswitch 0 11 54 #[], .iload 1, .iaload, .goto 48] 42 = x_iload 2 (x_iload 3 (x_iconst 4 (x_if_icmp .ge 42 K (x_aload 0 (x_g1 111 254 (x_iload 1 (x_iaload (x_goto 48 K)))))))) := ((xe_iload 2).trans (congrArg (x_iload 2) ((xe_iload 3).trans (congrArg (x_iload 3) ((xe_iconst 4).trans (congrArg (x_iconst 4) ((xe_if_icmp .ge 42).trans (congrArg (x_if_icmp .ge 42 K) ((xe_aload 0).trans (congrArg (x_aload 0) ((xe_g1 (kk := 111) rfl tl_11_54).trans (congrArg (x_g1 111 254) ((xe_iload 1).trans (congrArg (x_iload 1) ((xe_iaload).trans (congrArg (x_iaload) (xe_goto 48)))))))))))))))))
theorem bk_X11_row_42 : ck_ fX11 (some .int) cX11_row 42 [.aload 0, .tableswitch 0 11 56 #[], .iload 1, .iaload] 48 = true := qck_r (nn_ _) (by decide +kernel)
theorem bs_X11_row_42 {P : Zt → Option Zv → Prop} (K : Int → Zl → List Zv → Zt → Prop) : sx_ K P [.aload 0, .tableswitch 0 11 56 #[], .iload 1, .iaload] 48 = x_aload 0 (x_g1 111 256 (x_iload 1 (x_iaload (K 48)))) := ((xe_aload 0).trans (congrArg (x_aload 0) ((xe_g1 (kk := 111) rfl tl_11_56).trans (congrArg (x_g1 111 256) ((xe_iload 1).trans (congrArg (x_iload 1) ((xe_iaload).trans (congrArg (x_iaload) xe_nil))))))))
theorem bk_X11_row_51 : ck_ fX11 (some .int) cX11_row 51 [.ifCond .ne 57, .iconst (-2), .ireturn] 57 = true := qck_r (nn_ _) (by decide +kernel)
theorem bs_X11_row_51 {P : Zt → Option Zv → Prop} (K : Int → Zl → List Zv → Zt → Prop) : sx_ K P [.ifCond .ne 57, .iconst (-2), .ireturn] 57 = x_ifCond .ne 57 K (x_iconst (-2) (x_ireturn P)) := ((xe_ifCond .ne 57).trans (congrArg (x_ifCond .ne 57 K) ((xe_iconst (-2)).trans (congrArg (x_iconst (-2)) (xe_ireturn)))))
theorem bk_X11_row_57 : ck_ fX11 (some .int) cX11_row 57 [.aload 0, .iload 3, .iconst 4, .if_icmp .ge 72, .aload 0, .tableswitch 0 11 53 #[], .iload 1, .iaload, .goto 78] 72 = true := qck_r (nn_ _) (by decide +kernel)
theorem bs_X11_row_57 {P : Zt → Option Zv → Prop} (K : Int → Zl → List Zv → Zt → Prop) : sx_ K P [.aload 0, .iload 3, .iconst 4, .if_icmp .ge 72, .aload 0, .tableswitch 0 11 53 #[], .iload 1, .iaload, .goto 78] 72 = x_aload 0 (x_iload 3 (x_iconst 4 (x_if_icmp .ge 72 K (x_aload 0 (x_g1 111 253 (x_iload 1 (x_iaload (x_goto 78 K)))))))) := ((xe_aload 0).trans (congrArg (x_aload 0) ((xe_iload 3).trans (congrArg (x_iload 3) ((xe_iconst 4).trans (congrArg (x_iconst 4) ((xe_if_icmp .ge 72).trans (congrArg (x_if_icmp .ge 72 K) ((xe_aload 0).trans (congrArg (x_aload 0) ((xe_g1 (kk := 111) rfl tl_11_53).trans (congrArg (x_g1 111 253) ((xe_iload 1).trans (congrArg (x_iload 1) ((xe_iaload).trans (congrArg (x_iaload) (xe_goto 78)))))))))))))))))
theorem bk_X11_row_72 : ck_ fX11 (some .int) cX11_row 72 [.aload 0, .tableswitch 0 11 55 #[], .iload 1, .iaload, .iload 2] 79 = true := qck_r (nn_ _) (by decide +kernel)
theorem bs_X11_row_72 {P : Zt → Option Zv → Prop} (K : Int → Zl → List Zv → Zt → Prop) : sx_ K P [.aload 0, .tableswitch 0 11 55 #[], .iload 1, .iaload, .iload 2] 79 = x_aload 0 (x_g1 111 255 (x_iload 1 (x_iaload (x_iload 2 (K 79))))) := ((xe_aload 0).trans (congrArg (x_aload 0) ((xe_g1 (kk := 111) rfl tl_11_55).trans (congrArg (x_g1 111 255) ((xe_iload 1).trans (congrArg (x_iload 1) ((xe_iaload).trans (congrArg (x_iaload) ((xe_iload 2).trans (congrArg (x_iload 2) xe_nil))))))))))
theorem bk_X11_row_82 : ck_ fX11 (some .int) cX11_row 82 [.istore 4, .iload 3, .iconst 4, .irem, .ifCond .ne 100, .aload 0, .tableswitch 0 11 48 #[], .iload 4, .iaload, .goto 141] 100 = true := qck_r (nn_ _) (by decide +kernel)
theorem bs_X11_row_82 {P : Zt → Option Zv → Prop} (K : Int → Zl → List Zv → Zt → Prop) : sx_ K P [.istore 4, .iload 3, .iconst 4, .irem, .ifCond .ne 100, .aload 0, .tableswitch 0 11 48 #[], .iload 4, .iaload, .goto 141] 100 = x_istore 4 (x_iload 3 (x_iconst 4 (x_irem (x_ifCond .ne 100 K (x_aload 0 (x_g1 111 248 (x_iload 4 (x_iaload (x_goto 141 K))))))))) := ((xe_istore 4).trans (congrArg (x_istore 4) ((xe_iload 3).trans (congrArg (x_iload 3) ((xe_iconst 4).trans (congrArg (x_iconst 4) ((xe_irem).trans (congrArg (x_irem) ((xe_ifCond .ne 100).trans (congrArg (x_ifCond .ne 100 K) ((xe_aload 0).trans (congrArg (x_aload 0) ((xe_g1 (kk := 111) rfl tl_11_48).trans (congrArg (x_g1 111 248) ((xe_iload 4).trans (congrArg (x_iload 4) ((xe_iaload).trans (congrArg (x_iaload) (xe_goto 141)))))))))))))))))))
theorem bk_X11_row_100 : ck_ fX11 (some .int) cX11_row 100 [.iload 3, .iconst 4, .irem, .iconst 1, .if_icmp .ne 117, .aload 0, .tableswitch 0 11 49 #[], .iload 4, .iaload, .goto 141] 117 = true := qck_r (nn_ _) (by decide +kernel)
theorem bs_X11_row_100 {P : Zt → Option Zv → Prop} (K : Int → Zl → List Zv → Zt → Prop) : sx_ K P [.iload 3, .iconst 4, .irem, .iconst 1, .if_icmp .ne 117, .aload 0, .tableswitch 0 11 49 #[], .iload 4, .iaload, .goto 141] 117 = x_iload 3 (x_iconst 4 (x_irem (x_iconst 1 (x_if_icmp .ne 117 K (x_aload 0 (x_g1 111 249 (x_iload 4 (x_iaload (x_goto 141 K))))))))) := ((xe_iload 3).trans (congrArg (x_iload 3) ((xe_iconst 4).trans (congrArg (x_iconst 4) ((xe_irem).trans (congrArg (x_irem) ((xe_iconst 1).trans (congrArg (x_iconst 1) ((xe_if_icmp .ne 117).trans (congrArg (x_if_icmp .ne 117 K) ((xe_aload 0).trans (congrArg (x_aload 0) ((xe_g1 (kk := 111) rfl tl_11_49).trans (congrArg (x_g1 111 249) ((xe_iload 4).trans (congrArg (x_iload 4) ((xe_iaload).trans (congrArg (x_iaload) (xe_goto 141)))))))))))))))))))
theorem bk_X11_row_117 : ck_ fX11 (some .int) cX11_row 117 [.iload 3, .iconst 4, .irem, .iconst 2, .if_icmp .ne 134, .aload 0, .tableswitch 0 11 50 #[], .iload 4, .iaload, .goto 141] 134 = true := qck_r (nn_ _) (by decide +kernel)
theorem bs_X11_row_117 {P : Zt → Option Zv → Prop} (K : Int → Zl → List Zv → Zt → Prop) : sx_ K P [.iload 3, .iconst 4, .irem, .iconst 2, .if_icmp .ne 134, .aload 0, .tableswitch 0 11 50 #[], .iload 4, .iaload, .goto 141] 134 = x_iload 3 (x_iconst 4 (x_irem (x_iconst 2 (x_if_icmp .ne 134 K (x_aload 0 (x_g1 111 250 (x_iload 4 (x_iaload (x_goto 141 K))))))))) := ((xe_iload 3).trans (congrArg (x_iload 3) ((xe_iconst 4).trans (congrArg (x_iconst 4) ((xe_irem).trans (congrArg (x_irem) ((xe_iconst 2).trans (congrArg (x_iconst 2) ((xe_if_icmp .ne 134).trans (congrArg (x_if_icmp .ne 134 K) ((xe_aload 0).trans (congrArg (x_aload 0) ((xe_g1 (kk := 111) rfl tl_11_50).trans (congrArg (x_g1 111 250) ((xe_iload 4).trans (congrArg (x_iload 4) ((xe_iaload).trans (congrArg (x_iaload) (xe_goto 141)))))))))))))))))))
theorem bk_X11_row_134 : ck_ fX11 (some .int) cX11_row 134 [.aload 0, .tableswitch 0 11 51 #[], .iload 4, .iaload, .ireturn] 142 = true := qck_r (nn_ _) (by decide +kernel)
theorem bs_X11_row_134 {P : Zt → Option Zv → Prop} (K : Int → Zl → List Zv → Zt → Prop) : sx_ K P [.aload 0, .tableswitch 0 11 51 #[], .iload 4, .iaload, .ireturn] 142 = x_aload 0 (x_g1 111 251 (x_iload 4 (x_iaload (x_ireturn P)))) := ((xe_aload 0).trans (congrArg (x_aload 0) ((xe_g1 (kk := 111) rfl tl_11_51).trans (congrArg (x_g1 111 251) ((xe_iload 4).trans (congrArg (x_iload 4) ((xe_iaload).trans (congrArg (x_iaload) (xe_ireturn)))))))))
theorem bk_X11_row_141 : ck_ fX11 (some .int) cX11_row 141 [.ireturn] 142 = true := qck_r (nn_ _) (by decide +kernel)
theorem bs_X11_row_141 {P : Zt → Option Zv → Prop} (K : Int → Zl → List Zv → Zt → Prop) : sx_ K P [.ireturn] 142 = x_ireturn P := (xe_ireturn)
theorem bk_X11_row_78 : ck_ fX11 (some .int) cX11_row 78 [.iload 2] 79 = true := qck_r (nn_ _) (by decide +kernel)
theorem bs_X11_row_78 {P : Zt → Option Zv → Prop} (K : Int → Zl → List Zv → Zt → Prop) : sx_ K P [.iload 2] 79 = x_iload 2 (K 79) := ((xe_iload 2).trans (congrArg (x_iload 2) xe_nil))
abbrev po_X11_row (T : Zt) (m i w : Int) : Zt → Option Zv → Prop := fun T' r => T = T' ∧ ∃ x : Int, r = some (vI x) ∧ (0 = (0 : Int))
set_option maxHeartbeats 4000000 in
theorem ct_X11_row {T : Zt} {m i w : Int} (hrx : RX_ T []) : Ct_ yX11_row zX11_row T [vR 111 0, vI m, vI i, vI w] (po_X11_row T m i w) := by
  refine ct_of pn_11 rfl rfl (Nat.le_of_ble_eq_true rfl) (fun hT hav => ?_)
  have hr_m : -2147483648 ≤ m ∧ m ≤ 2147483647 := hav (vI m) (by simp)
  have hr_i : -2147483648 ≤ i ∧ i ≤ 2147483647 := hav (vI i) (by simp)
  have hr_w : -2147483648 ≤ w ∧ w ≤ 2147483647 := hav (vI w) (by simp)
  have hz : zX11_row.2.2.2.1 = some .boolean → ∀ (T' : Zt) (x : Int), po_X11_row T m i w T' (some (vI x)) → 0 ≤ x ∧ x ≤ 1 := fun h => by cases h
  have hb_29 : 0 ≤ T 111 0 29 ∧ T 111 0 29 ≤ 400 := bd_f hT 111 29 (by decide +kernel : (tf_ 111)[29]? = some (0, 0, 0, 400)) 0
  show J_ zX11_row T (po_X11_row T m i w) 0 0 0 [some (vR 111 0), some (vI m), some (vI i), some (vI w), none] [] T
  refine j_blx (F := fX11) tb_X11 (nn_ _) bk_X11_row_0 bs_X11_row_0 hz (fun K hK => ?_)
  intro b1 b1b
  refine hK 5 _ [vI (T 111 0 29), vI m] T ?_
  refine j_callS (y := yX11_isOf) (Yc := zX11_isOf) (rest := []) [vI m, vI (T 111 0 29)] (ct_X11_isOf (T := T) (by omega)) cl_X11_317 (qd_c (by decide +kernel)) (nn_ _) rfl (rf_of rfl) (Nat.le_of_ble_eq_true rfl) (Nat.le_of_ble_eq_true rfl) (Nat.le_of_ble_eq_true rfl) rfl ?_
  rintro _ _ ⟨rfl, x2, rfl, hx2⟩
  show J_ zX11_row T (po_X11_row T m i w) 0 0 8 _ [vI x2] T
  refine j_blx (F := fX11) tb_X11 (nn_ _) bk_X11_row_8 bs_X11_row_8 hz (fun K hK => ?_)
  refine And.intro (fun c3 => ?_) (fun c3 => ?_)
  · refine hK 14 _ [] T ?_
    refine j_blx (F := fX11) tb_X11 (nn_ _) bk_X11_row_14 bs_X11_row_14 hz (fun K hK => ?_)
    refine hK 18 _ [vI 7, vI 0, vI w] T ?_
    refine j_callS (y := yX11_in) (Yc := zX11_in) (rest := []) [vI w, vI 0, vI 7] (ct_X11_in (T := T)) cl_X11_255 (qd_c (by decide +kernel)) (nn_ _) rfl (rf_of rfl) (Nat.le_of_ble_eq_true rfl) (Nat.le_of_ble_eq_true rfl) (Nat.le_of_ble_eq_true rfl) rfl ?_
    rintro _ _ ⟨rfl, x4, rfl, hx4⟩
    show J_ zX11_row T (po_X11_row T m i w) 0 0 21 _ [vI x4] T
    refine j_blx (F := fX11) tb_X11 (nn_ _) bk_X11_row_21 bs_X11_row_21 hz (fun K hK => ?_)
    refine And.intro (fun c5 => ?_) (fun c5 => ?_)
    · refine hK 27 _ [] T ?_
      refine j_blx (F := fX11) tb_X11 (nn_ _) bk_X11_row_27 bs_X11_row_27 hz (fun K hK => ?_)
      refine And.intro (fun c6 => ?_) (fun c6 => ?_)
      · refine hK 42 _ [vI i] T ?_
        refine j_blx (F := fX11) tb_X11 (nn_ _) bk_X11_row_42 bs_X11_row_42 hz (fun K hK => ?_)
        refine ix_i (by omega) ?_
        intro b7 b7b
        refine hK 48 _ [vI (T 256 0 m), vI i] T ?_
        refine j_callS (y := yX11_isOf) (Yc := zX11_isOf) (rest := []) [vI i, vI (T 256 0 m)] (ct_X11_isOf (T := T) (by omega)) cl_X11_317 (qd_c (by decide +kernel)) (nn_ _) rfl (rf_of rfl) (Nat.le_of_ble_eq_true rfl) (Nat.le_of_ble_eq_true rfl) (Nat.le_of_ble_eq_true rfl) rfl ?_
        rintro _ _ ⟨rfl, x8, rfl, hx8⟩
        show J_ zX11_row T (po_X11_row T m i w) 0 0 51 _ [vI x8] T
        refine j_blx (F := fX11) tb_X11 (nn_ _) bk_X11_row_51 bs_X11_row_51 hz (fun K hK => ?_)
        refine And.intro (fun c9 => ?_) (fun c9 => ?_)
        · refine hK 57 _ [] T ?_
          have hry := hrx
          obtain ⟨L, hB, hR⟩ := hry
          have hl : lk_ T (T 253 0 m) (L m 0) ∧ T 254 0 m = ((L m 0).length : Int) := hB.1 m 0 (by omega) (by omega) (by decide) (by decide)
          have hl2 : lk_ T (T 255 0 m) (L m 1) ∧ T 256 0 m = ((L m 1).length : Int) := hB.1 m 1 (by omega) (by omega) (by decide) (by decide)
          refine j_blx (F := fX11) tb_X11 (nn_ _) bk_X11_row_57 bs_X11_row_57 hz (fun K hK => ?_)
          refine And.intro (fun c10 => ?_) (fun c10 => ?_)
          · refine hK 72 _ [vR 111 0] T ?_
            refine j_blx (F := fX11) tb_X11 (nn_ _) bk_X11_row_72 bs_X11_row_72 hz (fun K hK => ?_)
            refine ix_i (by omega) ?_
            intro b11 b11b
            refine hK 79 _ [vI i, vI (T 255 0 m), vR 111 0] T ?_
            refine j_callV (y := yX11_rowAt) (Yc := zX11_rowAt) (rest := []) [vI (T 255 0 m), vI i] (ct_X11_rowAt (T := T) (l := L m 1) (by exact hl2.1) (by omega)) cl_X11_456 (qd_c (by decide +kernel)) (nn_ _) rfl (rf_of rfl) (Nat.le_of_ble_eq_true rfl) (Nat.le_of_ble_eq_true rfl) (Nat.le_of_ble_eq_true rfl) rfl ?_
            rintro _ _ ⟨rfl, x12, rfl, hx12⟩
            show J_ zX11_row T (po_X11_row T m i w) 0 0 82 _ [vI x12] T
            refine j_blx (F := fX11) tb_X11 (nn_ _) bk_X11_row_82 bs_X11_row_82 hz (fun K hK => ?_)
            refine dv_i (by omega) ?_
            refine And.intro (fun c13 => ?_) (fun c13 => ?_)
            · refine hK 100 [some (vR 111 0), some (vI m), some (vI i), some (vI w), some (vI x12)] [] T ?_
              refine j_blx (F := fX11) tb_X11 (nn_ _) bk_X11_row_100 bs_X11_row_100 hz (fun K hK => ?_)
              refine dv_i (by omega) ?_
              refine And.intro (fun c14 => ?_) (fun c14 => ?_)
              · refine hK 117 _ [] T ?_
                refine j_blx (F := fX11) tb_X11 (nn_ _) bk_X11_row_117 bs_X11_row_117 hz (fun K hK => ?_)
                refine dv_i (by omega) ?_
                refine And.intro (fun c15 => ?_) (fun c15 => ?_)
                · refine hK 134 _ [] T ?_
                  refine j_blx (F := fX11) tb_X11 (nn_ _) bk_X11_row_134 bs_X11_row_134 hz (fun K hK => ?_)
                  refine ix_i (by omega) ?_
                  intro b16 b16b
                  refine (show po_X11_row T m i w T (some (vI (T 251 0 x12))) from ?_)
                  exact ⟨rfl, _, rfl, by rfl⟩
                · refine ix_i (by omega) ?_
                  intro b17 b17b
                  refine hK 141 _ [vI (T 250 0 x12)] T ?_
                  refine j_blx (F := fX11) tb_X11 (nn_ _) bk_X11_row_141 bs_X11_row_141 hz (fun K hK => ?_)
                  refine (show po_X11_row T m i w T (some (vI (T 250 0 x12))) from ?_)
                  exact ⟨rfl, _, rfl, by rfl⟩
              · refine ix_i (by omega) ?_
                intro b18 b18b
                refine hK 141 _ [vI (T 249 0 x12)] T ?_
                refine j_blx (F := fX11) tb_X11 (nn_ _) bk_X11_row_141 bs_X11_row_141 hz (fun K hK => ?_)
                refine (show po_X11_row T m i w T (some (vI (T 249 0 x12))) from ?_)
                exact ⟨rfl, _, rfl, by rfl⟩
            · refine ix_i (by omega) ?_
              intro b19 b19b
              refine hK 141 _ [vI (T 248 0 x12)] T ?_
              refine j_blx (F := fX11) tb_X11 (nn_ _) bk_X11_row_141 bs_X11_row_141 hz (fun K hK => ?_)
              refine (show po_X11_row T m i w T (some (vI (T 248 0 x12))) from ?_)
              exact ⟨rfl, _, rfl, by rfl⟩
          · refine ix_i (by omega) ?_
            intro b20 b20b
            refine hK 78 _ [vI (T 253 0 m), vR 111 0] T ?_
            refine j_blx (F := fX11) tb_X11 (nn_ _) bk_X11_row_78 bs_X11_row_78 hz (fun K hK => ?_)
            refine hK 79 _ [vI i, vI (T 253 0 m), vR 111 0] T ?_
            refine j_callV (y := yX11_rowAt) (Yc := zX11_rowAt) (rest := []) [vI (T 253 0 m), vI i] (ct_X11_rowAt (T := T) (l := L m 0) (by exact hl.1) (by omega)) cl_X11_456 (qd_c (by decide +kernel)) (nn_ _) rfl (rf_of rfl) (Nat.le_of_ble_eq_true rfl) (Nat.le_of_ble_eq_true rfl) (Nat.le_of_ble_eq_true rfl) rfl ?_
            rintro _ _ ⟨rfl, x21, rfl, hx21⟩
            show J_ zX11_row T (po_X11_row T m i w) 0 0 82 _ [vI x21] T
            refine j_blx (F := fX11) tb_X11 (nn_ _) bk_X11_row_82 bs_X11_row_82 hz (fun K hK => ?_)
            refine dv_i (by omega) ?_
            refine And.intro (fun c22 => ?_) (fun c22 => ?_)
            · refine hK 100 [some (vR 111 0), some (vI m), some (vI i), some (vI w), some (vI x21)] [] T ?_
              refine j_blx (F := fX11) tb_X11 (nn_ _) bk_X11_row_100 bs_X11_row_100 hz (fun K hK => ?_)
              refine dv_i (by omega) ?_
              refine And.intro (fun c23 => ?_) (fun c23 => ?_)
              · refine hK 117 _ [] T ?_
                refine j_blx (F := fX11) tb_X11 (nn_ _) bk_X11_row_117 bs_X11_row_117 hz (fun K hK => ?_)
                refine dv_i (by omega) ?_
                refine And.intro (fun c24 => ?_) (fun c24 => ?_)
                · refine hK 134 _ [] T ?_
                  refine j_blx (F := fX11) tb_X11 (nn_ _) bk_X11_row_134 bs_X11_row_134 hz (fun K hK => ?_)
                  refine ix_i (by omega) ?_
                  intro b25 b25b
                  refine (show po_X11_row T m i w T (some (vI (T 251 0 x21))) from ?_)
                  exact ⟨rfl, _, rfl, by rfl⟩
                · refine ix_i (by omega) ?_
                  intro b26 b26b
                  refine hK 141 _ [vI (T 250 0 x21)] T ?_
                  refine j_blx (F := fX11) tb_X11 (nn_ _) bk_X11_row_141 bs_X11_row_141 hz (fun K hK => ?_)
                  refine (show po_X11_row T m i w T (some (vI (T 250 0 x21))) from ?_)
                  exact ⟨rfl, _, rfl, by rfl⟩
              · refine ix_i (by omega) ?_
                intro b27 b27b
                refine hK 141 _ [vI (T 249 0 x21)] T ?_
                refine j_blx (F := fX11) tb_X11 (nn_ _) bk_X11_row_141 bs_X11_row_141 hz (fun K hK => ?_)
                refine (show po_X11_row T m i w T (some (vI (T 249 0 x21))) from ?_)
                exact ⟨rfl, _, rfl, by rfl⟩
            · refine ix_i (by omega) ?_
              intro b28 b28b
              refine hK 141 _ [vI (T 248 0 x21)] T ?_
              refine j_blx (F := fX11) tb_X11 (nn_ _) bk_X11_row_141 bs_X11_row_141 hz (fun K hK => ?_)
              refine (show po_X11_row T m i w T (some (vI (T 248 0 x21))) from ?_)
              exact ⟨rfl, _, rfl, by rfl⟩
        · refine (show po_X11_row T m i w T (some (vI (-2))) from ?_)
          exact ⟨rfl, _, rfl, by rfl⟩
      · refine ix_i (by omega) ?_
        intro b29 b29b
        refine hK 48 _ [vI (T 254 0 m), vI i] T ?_
        refine j_callS (y := yX11_isOf) (Yc := zX11_isOf) (rest := []) [vI i, vI (T 254 0 m)] (ct_X11_isOf (T := T) (by omega)) cl_X11_317 (qd_c (by decide +kernel)) (nn_ _) rfl (rf_of rfl) (Nat.le_of_ble_eq_true rfl) (Nat.le_of_ble_eq_true rfl) (Nat.le_of_ble_eq_true rfl) rfl ?_
        rintro _ _ ⟨rfl, x30, rfl, hx30⟩
        show J_ zX11_row T (po_X11_row T m i w) 0 0 51 _ [vI x30] T
        refine j_blx (F := fX11) tb_X11 (nn_ _) bk_X11_row_51 bs_X11_row_51 hz (fun K hK => ?_)
        refine And.intro (fun c31 => ?_) (fun c31 => ?_)
        · refine hK 57 _ [] T ?_
          have hry := hrx
          obtain ⟨L, hB, hR⟩ := hry
          have hl : lk_ T (T 253 0 m) (L m 0) ∧ T 254 0 m = ((L m 0).length : Int) := hB.1 m 0 (by omega) (by omega) (by decide) (by decide)
          have hl2 : lk_ T (T 255 0 m) (L m 1) ∧ T 256 0 m = ((L m 1).length : Int) := hB.1 m 1 (by omega) (by omega) (by decide) (by decide)
          refine j_blx (F := fX11) tb_X11 (nn_ _) bk_X11_row_57 bs_X11_row_57 hz (fun K hK => ?_)
          refine And.intro (fun c32 => ?_) (fun c32 => ?_)
          · refine hK 72 _ [vR 111 0] T ?_
            refine j_blx (F := fX11) tb_X11 (nn_ _) bk_X11_row_72 bs_X11_row_72 hz (fun K hK => ?_)
            refine ix_i (by omega) ?_
            intro b33 b33b
            refine hK 79 _ [vI i, vI (T 255 0 m), vR 111 0] T ?_
            refine j_callV (y := yX11_rowAt) (Yc := zX11_rowAt) (rest := []) [vI (T 255 0 m), vI i] (ct_X11_rowAt (T := T) (l := L m 1) (by exact hl2.1) (by omega)) cl_X11_456 (qd_c (by decide +kernel)) (nn_ _) rfl (rf_of rfl) (Nat.le_of_ble_eq_true rfl) (Nat.le_of_ble_eq_true rfl) (Nat.le_of_ble_eq_true rfl) rfl ?_
            rintro _ _ ⟨rfl, x34, rfl, hx34⟩
            show J_ zX11_row T (po_X11_row T m i w) 0 0 82 _ [vI x34] T
            refine j_blx (F := fX11) tb_X11 (nn_ _) bk_X11_row_82 bs_X11_row_82 hz (fun K hK => ?_)
            refine dv_i (by omega) ?_
            refine And.intro (fun c35 => ?_) (fun c35 => ?_)
            · refine hK 100 [some (vR 111 0), some (vI m), some (vI i), some (vI w), some (vI x34)] [] T ?_
              refine j_blx (F := fX11) tb_X11 (nn_ _) bk_X11_row_100 bs_X11_row_100 hz (fun K hK => ?_)
              refine dv_i (by omega) ?_
              refine And.intro (fun c36 => ?_) (fun c36 => ?_)
              · refine hK 117 _ [] T ?_
                refine j_blx (F := fX11) tb_X11 (nn_ _) bk_X11_row_117 bs_X11_row_117 hz (fun K hK => ?_)
                refine dv_i (by omega) ?_
                refine And.intro (fun c37 => ?_) (fun c37 => ?_)
                · refine hK 134 _ [] T ?_
                  refine j_blx (F := fX11) tb_X11 (nn_ _) bk_X11_row_134 bs_X11_row_134 hz (fun K hK => ?_)
                  refine ix_i (by omega) ?_
                  intro b38 b38b
                  refine (show po_X11_row T m i w T (some (vI (T 251 0 x34))) from ?_)
                  exact ⟨rfl, _, rfl, by rfl⟩
                · refine ix_i (by omega) ?_
                  intro b39 b39b
                  refine hK 141 _ [vI (T 250 0 x34)] T ?_
                  refine j_blx (F := fX11) tb_X11 (nn_ _) bk_X11_row_141 bs_X11_row_141 hz (fun K hK => ?_)
                  refine (show po_X11_row T m i w T (some (vI (T 250 0 x34))) from ?_)
                  exact ⟨rfl, _, rfl, by rfl⟩
              · refine ix_i (by omega) ?_
                intro b40 b40b
                refine hK 141 _ [vI (T 249 0 x34)] T ?_
                refine j_blx (F := fX11) tb_X11 (nn_ _) bk_X11_row_141 bs_X11_row_141 hz (fun K hK => ?_)
                refine (show po_X11_row T m i w T (some (vI (T 249 0 x34))) from ?_)
                exact ⟨rfl, _, rfl, by rfl⟩
            · refine ix_i (by omega) ?_
              intro b41 b41b
              refine hK 141 _ [vI (T 248 0 x34)] T ?_
              refine j_blx (F := fX11) tb_X11 (nn_ _) bk_X11_row_141 bs_X11_row_141 hz (fun K hK => ?_)
              refine (show po_X11_row T m i w T (some (vI (T 248 0 x34))) from ?_)
              exact ⟨rfl, _, rfl, by rfl⟩
          · refine ix_i (by omega) ?_
            intro b42 b42b
            refine hK 78 _ [vI (T 253 0 m), vR 111 0] T ?_
            refine j_blx (F := fX11) tb_X11 (nn_ _) bk_X11_row_78 bs_X11_row_78 hz (fun K hK => ?_)
            refine hK 79 _ [vI i, vI (T 253 0 m), vR 111 0] T ?_
            refine j_callV (y := yX11_rowAt) (Yc := zX11_rowAt) (rest := []) [vI (T 253 0 m), vI i] (ct_X11_rowAt (T := T) (l := L m 0) (by exact hl.1) (by omega)) cl_X11_456 (qd_c (by decide +kernel)) (nn_ _) rfl (rf_of rfl) (Nat.le_of_ble_eq_true rfl) (Nat.le_of_ble_eq_true rfl) (Nat.le_of_ble_eq_true rfl) rfl ?_
            rintro _ _ ⟨rfl, x43, rfl, hx43⟩
            show J_ zX11_row T (po_X11_row T m i w) 0 0 82 _ [vI x43] T
            refine j_blx (F := fX11) tb_X11 (nn_ _) bk_X11_row_82 bs_X11_row_82 hz (fun K hK => ?_)
            refine dv_i (by omega) ?_
            refine And.intro (fun c44 => ?_) (fun c44 => ?_)
            · refine hK 100 [some (vR 111 0), some (vI m), some (vI i), some (vI w), some (vI x43)] [] T ?_
              refine j_blx (F := fX11) tb_X11 (nn_ _) bk_X11_row_100 bs_X11_row_100 hz (fun K hK => ?_)
              refine dv_i (by omega) ?_
              refine And.intro (fun c45 => ?_) (fun c45 => ?_)
              · refine hK 117 _ [] T ?_
                refine j_blx (F := fX11) tb_X11 (nn_ _) bk_X11_row_117 bs_X11_row_117 hz (fun K hK => ?_)
                refine dv_i (by omega) ?_
                refine And.intro (fun c46 => ?_) (fun c46 => ?_)
                · refine hK 134 _ [] T ?_
                  refine j_blx (F := fX11) tb_X11 (nn_ _) bk_X11_row_134 bs_X11_row_134 hz (fun K hK => ?_)
                  refine ix_i (by omega) ?_
                  intro b47 b47b
                  refine (show po_X11_row T m i w T (some (vI (T 251 0 x43))) from ?_)
                  exact ⟨rfl, _, rfl, by rfl⟩
                · refine ix_i (by omega) ?_
                  intro b48 b48b
                  refine hK 141 _ [vI (T 250 0 x43)] T ?_
                  refine j_blx (F := fX11) tb_X11 (nn_ _) bk_X11_row_141 bs_X11_row_141 hz (fun K hK => ?_)
                  refine (show po_X11_row T m i w T (some (vI (T 250 0 x43))) from ?_)
                  exact ⟨rfl, _, rfl, by rfl⟩
              · refine ix_i (by omega) ?_
                intro b49 b49b
                refine hK 141 _ [vI (T 249 0 x43)] T ?_
                refine j_blx (F := fX11) tb_X11 (nn_ _) bk_X11_row_141 bs_X11_row_141 hz (fun K hK => ?_)
                refine (show po_X11_row T m i w T (some (vI (T 249 0 x43))) from ?_)
                exact ⟨rfl, _, rfl, by rfl⟩
            · refine ix_i (by omega) ?_
              intro b50 b50b
              refine hK 141 _ [vI (T 248 0 x43)] T ?_
              refine j_blx (F := fX11) tb_X11 (nn_ _) bk_X11_row_141 bs_X11_row_141 hz (fun K hK => ?_)
              refine (show po_X11_row T m i w T (some (vI (T 248 0 x43))) from ?_)
              exact ⟨rfl, _, rfl, by rfl⟩
        · refine (show po_X11_row T m i w T (some (vI (-2))) from ?_)
          exact ⟨rfl, _, rfl, by rfl⟩
    · refine (show po_X11_row T m i w T (some (vI (-3))) from ?_)
      exact ⟨rfl, _, rfl, by rfl⟩
  · refine (show po_X11_row T m i w T (some (vI (-2))) from ?_)
    exact ⟨rfl, _, rfl, by rfl⟩
abbrev cX11_rows : ByteArray := prog_13_method_77_code
def yX11_rows : MethodName := ⟨RX11, "rows", "(II)I"⟩
def zX11_rows : Zm := (RX11, cX11_rows, 3, (some .int), { frames := 2, cells := 0, slots := 0, locals := 43 })
abbrev cX11_state : ByteArray := prog_13_method_79_code
def yX11_state : MethodName := ⟨RX11, "state", "(II)I"⟩
def zX11_state : Zm := (RX11, cX11_state, 3, (some .int), { frames := 2, cells := 0, slots := 0, locals := 43 })
abbrev cX11_onField : ByteArray := prog_13_method_80_code
def yX11_onField : MethodName := ⟨RX11, "onField", "(III)I"⟩
def zX11_onField : Zm := (RX11, cX11_onField, 5, (some .int), { frames := 2, cells := 0, slots := 0, locals := 43 })
