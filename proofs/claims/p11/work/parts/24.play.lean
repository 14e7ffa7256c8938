/-- of the scores and the yellow cards only match m's, and only on its sheets, have changed -/
def SO_ (T T1 : Zt) (m : Int) : Prop := (∀ j, j ≠ m → T1 236 0 j = T 236 0 j ∧ T1 237 0 j = T 237 0 j) ∧ ∀ j, ¬ (20 * m ≤ j ∧ j < 20 * m + 20 ∧ j % 10 < T 239 0 (j / 10)) → T1 242 0 j = T 242 0 j
theorem so_r {T : Zt} {m : Int} : SO_ T T m := ⟨fun _ _ => ⟨rfl, rfl⟩, fun _ _ => rfl⟩
theorem so_0 {T T1 T2 : Zt} {m v : Int} (h : SO_ T T1 m) (e : T2 = up_ T1 236 0 m v) : SO_ T T2 m := ⟨fun j hj => ⟨by rw [up_g e (fun q => hj q.2.2)]; exact (h.1 j hj).1, by rw [up_k e (by exact Nat.ne_of_beq_eq_false rfl)]; exact (h.1 j hj).2⟩, fun j hj => by rw [up_k e (by exact Nat.ne_of_beq_eq_false rfl)]; exact h.2 j hj⟩
theorem so_1 {T T1 T2 : Zt} {m v : Int} (h : SO_ T T1 m) (e : T2 = up_ T1 237 0 m v) : SO_ T T2 m := ⟨fun j hj => ⟨by rw [up_k e (by exact Nat.ne_of_beq_eq_false rfl)]; exact (h.1 j hj).1, by rw [up_g e (fun q => hj q.2.2)]; exact (h.1 j hj).2⟩, fun j hj => by rw [up_k e (by exact Nat.ne_of_beq_eq_false rfl)]; exact h.2 j hj⟩
theorem so_y {T T1 T2 : Zt} {m v x : Int} (h : SO_ T T1 m) (e : T2 = up_ T1 242 0 x v) (sh : Int) (hx : 2 * m ≤ sh ∧ sh ≤ 2 * m + 1 ∧ 10 * sh ≤ x ∧ x < 10 * sh + 10 ∧ x < 10 * sh + T 239 0 sh) : SO_ T T2 m := ⟨fun j hj => ⟨by rw [up_k e (by exact Nat.ne_of_beq_eq_false rfl)]; exact (h.1 j hj).1, by rw [up_k e (by exact Nat.ne_of_beq_eq_false rfl)]; exact (h.1 j hj).2⟩, fun j hj => by
  by_cases z : j = x
  · refine absurd ⟨by omega, by omega, ?_⟩ hj
    rw [show j / 10 = sh by omega]; omega
  · rw [up_g e (fun q => z q.2.2)]; exact h.2 j hj⟩
theorem so_f {ws : List (Nat × List Int)} {T T1 T2 : Zt} {m : Int} (h : SO_ T T1 m) (f : fr_ ws T1 T2) (w : (∀ j, fw_ ws 236 j = false) ∧ (∀ j, fw_ ws 237 j = false) ∧ ∀ j, fw_ ws 242 j = false) : SO_ T T2 m := ⟨fun j hj => ⟨(f 236 0 j (w.1 j)).trans (h.1 j hj).1, (f 237 0 j (w.2.1 j)).trans (h.1 j hj).2⟩, fun j hj => (f 242 0 j (w.2.2 j)).trans (h.2 j hj)⟩
theorem so_t {T T1 T2 : Zt} {m : Int} (h : SO_ T T1 m) (g : SO_ T1 T2 m) (e : ∀ j, T1 239 0 j = T 239 0 j) : SO_ T T2 m := ⟨fun j hj => ⟨(g.1 j hj).1.trans (h.1 j hj).1, (g.1 j hj).2.trans (h.1 j hj).2⟩, fun j hj => (g.2 j (by rw [e]; exact hj)).trans (h.2 j hj)⟩
/-- match m's scores, and four times its yellow cards, are within b -/
def SB1_ (T : Zt) (m b : Int) : Prop := (0 ≤ T 236 0 m ∧ T 236 0 m ≤ b) ∧ (0 ≤ T 237 0 m ∧ T 237 0 m ≤ b) ∧ ∀ j, 20 * m ≤ j → j < 20 * m + 20 → 0 ≤ T 242 0 j ∧ 4 * T 242 0 j ≤ b
theorem sb1_0 {T T1 : Zt} {m b v : Int} (h : SB1_ T m b) (e : T1 = up_ T 236 0 m v) (hv : 0 ≤ v ∧ v ≤ b) : SB1_ T1 m b := ⟨by rw [up_f e]; exact hv, by rw [up_k e (by exact Nat.ne_of_beq_eq_false rfl)]; exact h.2.1, fun j p q => by rw [up_k e (by exact Nat.ne_of_beq_eq_false rfl)]; exact h.2.2 j p q⟩
theorem sb1_1 {T T1 : Zt} {m b v : Int} (h : SB1_ T m b) (e : T1 = up_ T 237 0 m v) (hv : 0 ≤ v ∧ v ≤ b) : SB1_ T1 m b := ⟨by rw [up_k e (by exact Nat.ne_of_beq_eq_false rfl)]; exact h.1, by rw [up_f e]; exact hv, fun j p q => by rw [up_k e (by exact Nat.ne_of_beq_eq_false rfl)]; exact h.2.2 j p q⟩
theorem sb1_y {T T1 : Zt} {m b v x : Int} (h : SB1_ T m b) (e : T1 = up_ T 242 0 x v) (hv : 0 ≤ v ∧ 4 * v ≤ b) : SB1_ T1 m b := ⟨by rw [up_k e (by exact Nat.ne_of_beq_eq_false rfl)]; exact h.1, by rw [up_k e (by exact Nat.ne_of_beq_eq_false rfl)]; exact h.2.1, fun j p q => by
  by_cases z : j = x
  · rw [z, up_f e]; exact hv
  · rw [up_g e (fun q => z q.2.2)]; exact h.2.2 j p q⟩
theorem sb1_f {ws : List (Nat × List Int)} {T T1 : Zt} {m b : Int} (h : SB1_ T m b) (f : fr_ ws T T1) (w : (∀ j, fw_ ws 236 j = false) ∧ (∀ j, fw_ ws 237 j = false) ∧ ∀ j, fw_ ws 242 j = false) : SB1_ T1 m b := ⟨by rw [f 236 0 m (w.1 m)]; exact h.1, by rw [f 237 0 m (w.2.1 m)]; exact h.2.1, fun j p q => by rw [f 242 0 j (w.2.2 j)]; exact h.2.2 j p q⟩
theorem sb1_m {T : Zt} {m b c : Int} (h : SB1_ T m b) (e : b ≤ c) : SB1_ T m c := ⟨by have := h.1; omega, by have := h.2.1; omega, fun j p q => by have := h.2.2 j p q; omega⟩
/-- every match's scores and cards are within what its rows can have given, but perhaps match x's -/
def GX_ (T : Zt) (x : Int) : Prop := ∀ m, 0 ≤ m → m < 400 → m ≠ x → SB1_ T m (4 * T 254 0 m + 9)
theorem gx_o {T T1 : Zt} {x : Int} (h : GX_ T x) (o : SO_ T T1 x) (s : SB1_ T1 x (4 * T1 254 0 x + 9)) (e : ∀ j, j ≠ x → T1 254 0 j = T 254 0 j) : GX_ T1 (-1) := fun m a b _ => by
  by_cases z : m = x
  · rw [z]; exact s
  · rw [e m z]
    have k := h m a b z
    unfold SB1_
    rw [(o.1 m z).1, (o.1 m z).2]
    exact ⟨k.1, k.2.1, fun j p q => by rw [o.2 j (fun w => z (by omega))]; exact k.2.2 j p q⟩
theorem gx_x {T : Zt} {x : Int} (h : GX_ T (-1)) : GX_ T x := fun m a b _ => h m a b (by omega)
theorem gx_f {ws : List (Nat × List Int)} {T T1 : Zt} {x y : Int} (h : GX_ T x) (f : fr_ ws T T1) (w : (∀ j, fw_ ws 236 j = false) ∧ (∀ j, fw_ ws 237 j = false) ∧ ∀ j, fw_ ws 242 j = false) (e : ∀ j, j ≠ y → T1 254 0 j = T 254 0 j) (hy : x = -1 ∨ x = y) : GX_ T1 y := fun m a b c => by
  rw [e m c]
  exact sb1_f (h m a b (by omega)) f w
def ZS_ (T : Zt) : Prop := ∀ j : Int, 0 ≤ j → j < 8000 → T 239 0 (j / 10) ≤ j % 10 → T 242 0 j = 0
theorem ZS__f {ws : List (Nat × List Int)} {T T' : Zt} (h : ZS_ T) (f : fr_ ws T T') (w : (∀ j, fw_ ws 239 j = false) ∧ (∀ j, fw_ ws 242 j = false) ∧ True) : ZS_ T' := by
  have e0 : ∀ i j, T' 239 i j = T 239 i j := fun i j => f 239 i j (w.1 j)
  have e1 : ∀ i j, T' 242 i j = T 242 i j := fun i j => f 242 i j (w.2.1 j)
  simp only [ZS_, e0, e1] at h ⊢
  exact h
theorem zs_o {T T1 : Zt} {m : Int} (h : ZS_ T) (o : SO_ T T1 m) (e : ∀ j, T1 239 0 j = T 239 0 j) : ZS_ T1 := fun j a b c => by
  rw [e] at c
  rw [o.2 j (fun w => by omega)]
  exact h j a b c
def FM_ (T : Zt) : Prop := ∀ m s : Int, 0 ≤ m → m < 400 → 0 ≤ s → s ≤ 1 → T 235 0 m = 1 → 1 ≤ T 244 0 (2 * m + s)
theorem FM__f {ws : List (Nat × List Int)} {T T' : Zt} (h : FM_ T) (f : fr_ ws T T') (w : (∀ j, fw_ ws 235 j = false) ∧ (∀ j, fw_ ws 244 j = false) ∧ True) : FM_ T' := by
  have e0 : ∀ i j, T' 235 i j = T 235 i j := fun i j => f 235 i j (w.1 j)
  have e1 : ∀ i j, T' 244 i j = T 244 i j := fun i j => f 244 i j (w.2.1 j)
  simp only [FM_, e0, e1] at h ⊢
  exact h
theorem fm_w {T T1 : Zt} {x v : Int} (h : FM_ T) (e : T1 = up_ T 235 0 x v) (hv : v ≠ 1) : FM_ T1 := fun m s a b c d g => by
  by_cases z : m = x
  · subst z; exact absurd ((up_f e).symm.trans g) hv
  · rw [up_g e (fun q => z q.2.2)] at g
    rw [up_k e (by exact Nat.ne_of_beq_eq_false rfl)]; exact h m s a b c d g
theorem fm_1 {T T1 : Zt} {x : Int} (h : FM_ T) (e : T1 = up_ T 235 0 x 1) (hx : T 235 0 x = 1) : FM_ T1 := fun m s a b c d g => by
  rw [up_k e (by exact Nat.ne_of_beq_eq_false rfl)]
  by_cases z : m = x
  · subst z; exact h m s a b c d hx
  · rw [up_g e (fun q => z q.2.2)] at g
    exact h m s a b c d g
theorem fm_4 {T T1 : Zt} {x : Int} (h : FM_ T) (e : T1 = up_ T 235 0 x 1) (hx : ∀ s, 0 ≤ s → s ≤ 1 → 1 ≤ T 244 0 (2 * x + s)) : FM_ T1 := fun m s a b c d g => by
  rw [up_k e (by exact Nat.ne_of_beq_eq_false rfl)]
  by_cases z : m = x
  · subst z; exact hx s c d
  · rw [up_g e (fun q => z q.2.2)] at g
    exact h m s a b c d g
theorem fm_f {T T1 : Zt} {x v : Int} (h : FM_ T) (e : T1 = up_ T 244 0 x v) (hv : 1 ≤ v) : FM_ T1 := fun m s a b c d g => by
  rw [up_k e (by exact Nat.ne_of_beq_eq_false rfl)] at g
  by_cases z : 2 * m + s = x
  · rw [z, up_f e]; exact hv
  · rw [up_g e (fun q => z q.2.2)]; exact h m s a b c d g
theorem fm_3 {T T1 : Zt} {x t : Int} (h : FM_ T) (ht : 0 ≤ t ∧ t ≤ 1) (e1 : ∀ j, j ≠ x → T1 235 0 j = T 235 0 j) (e2 : ∀ j, j ≠ 2 * x + t → T1 244 0 j = T 244 0 j) (g : T1 235 0 x ≠ 1) : FM_ T1 := fun m s a b c d k => by
  by_cases z : m = x
  · subst z; exact absurd k g
  · rw [e1 m z] at k
    rw [e2 _ (by omega)]; exact h m s a b c d k
abbrev cX11_layBeginning : ByteArray := prog_13_method_47_code
def yX11_layBeginning : MethodName := ⟨RX11, "layBeginning", "(I)V"⟩
def zX11_layBeginning : Zm := (RX11, cX11_layBeginning, 5, none, { frames := 1, cells := 0, slots := 0, locals := 22 })
theorem bk_X11_layBeginning_144 : ck_ fX11 none cX11_layBeginning 144 [.iload 3, .iconst 8, .if_icmp .ge 168, .aload 0, .tableswitch 0 11 46 #[], .iconst 8, .iload 1, .imul, .iload 3, .iadd, .iconst 0, .iastore, .iinc 3 1, .goto 144] 168 = true := qck_r (nn_ _) (by decide +kernel)
theorem bs_X11_layBeginning_144 {P : Zt → Option Zv → Prop} (K : Int → Zl → List Zv → Zt → Prop) : sx_ K P [.iload 3, .iconst 8, .if_icmp .ge 168, .aload 0, .tableswitch 0 11 46 #[], .iconst 8, .iload 1, .imul, .iload 3, .iadd, .iconst 0, .iastore, .iinc 3 1, .goto 144] 168 = x_iload 3 (x_iconst 8 (x_if_icmp .ge 168 K (x_aload 0 (x_g1 111 246 (x_iconst 8 (x_iload 1 (x_imul (x_iload 3 (x_iadd (x_iconst 0 (x_iastore (x_iinc 3 1 (x_goto 144 K))))))))))))) := ((xe_iload 3).trans (congrArg (x_iload 3) ((xe_iconst 8).trans (congrArg (x_iconst 8) ((xe_if_icmp .ge 168).trans (congrArg (x_if_icmp .ge 168 K) ((xe_aload 0).trans (congrArg (x_aload 0) ((xe_g1 (kk := 111) rfl tl_11_46).trans (congrArg (x_g1 111 246) ((xe_iconst 8).trans (congrArg (x_iconst 8) ((xe_iload 1).trans (congrArg (x_iload 1) ((xe_imul).trans (congrArg (x_imul) ((xe_iload 3).trans (congrArg (x_iload 3) ((xe_iadd).trans (congrArg (x_iadd) ((xe_iconst 0).trans (congrArg (x_iconst 0) ((xe_iastore).trans (congrArg (x_iastore) ((xe_iinc 3 1).trans (congrArg (x_iinc 3 1) (xe_goto 144)))))))))))))))))))))))))))
theorem bk_X11_layBeginning_168 : ck_ fX11 none cX11_layBeginning 168 [.aload 0, .tableswitch 0 11 46 #[], .iconst 8, .iload 1, .imul, .iconst 5, .iadd, .aload 0, .aload 0, .tableswitch 0 11 30 #[], .iload 1, .iaload, .iconst 0] 186 = true := qck_r (nn_ _) (by decide +kernel)
theorem bs_X11_layBeginning_168 {P : Zt → Option Zv → Prop} (K : Int → Zl → List Zv → Zt → Prop) : sx_ K P [.aload 0, .tableswitch 0 11 46 #[], .iconst 8, .iload 1, .imul, .iconst 5, .iadd, .aload 0, .aload 0, .tableswitch 0 11 30 #[], .iload 1, .iaload, .iconst 0] 186 = x_aload 0 (x_g1 111 246 (x_iconst 8 (x_iload 1 (x_imul (x_iconst 5 (x_iadd (x_aload 0 (x_aload 0 (x_g1 111 230 (x_iload 1 (x_iaload (x_iconst 0 (K 186))))))))))))) := ((xe_aload 0).trans (congrArg (x_aload 0) ((xe_g1 (kk := 111) rfl tl_11_46).trans (congrArg (x_g1 111 246) ((xe_iconst 8).trans (congrArg (x_iconst 8) ((xe_iload 1).trans (congrArg (x_iload 1) ((xe_imul).trans (congrArg (x_imul) ((xe_iconst 5).trans (congrArg (x_iconst 5) ((xe_iadd).trans (congrArg (x_iadd) ((xe_aload 0).trans (congrArg (x_aload 0) ((xe_aload 0).trans (congrArg (x_aload 0) ((xe_g1 (kk := 111) rfl tl_11_30).trans (congrArg (x_g1 111 230) ((xe_iload 1).trans (congrArg (x_iload 1) ((xe_iaload).trans (congrArg (x_iaload) ((xe_iconst 0).trans (congrArg (x_iconst 0) xe_nil))))))))))))))))))))))))))
theorem bk_X11_layBeginning_189 : ck_ fX11 none cX11_layBeginning 189 [.iconst 3, .if_icmp .ne 197, .iconst 1, .goto 198] 197 = true := qck_r (nn_ _) (by decide +kernel)
theorem bs_X11_layBeginning_189 {P : Zt → Option Zv → Prop} (K : Int → Zl → List Zv → Zt → Prop) : sx_ K P [.iconst 3, .if_icmp .ne 197, .iconst 1, .goto 198] 197 = x_iconst 3 (x_if_icmp .ne 197 K (x_iconst 1 (x_goto 198 K))) := ((xe_iconst 3).trans (congrArg (x_iconst 3) ((xe_if_icmp .ne 197).trans (congrArg (x_if_icmp .ne 197 K) ((xe_iconst 1).trans (congrArg (x_iconst 1) (xe_goto 198)))))))
theorem bk_X11_layBeginning_197 : ck_ fX11 none cX11_layBeginning 197 [.iconst 0, .iastore, .aload 0, .tableswitch 0 11 36 #[], .iload 1, .iconst 0, .iastore, .aload 0, .tableswitch 0 11 37 #[], .iload 1, .iconst 0, .iastore, .aload 0, .tableswitch 0 11 35 #[], .iload 1, .iconst 1, .iastore, .return_] 221 = true := qck_r (nn_ _) (by decide +kernel)
theorem bs_X11_layBeginning_197 {P : Zt → Option Zv → Prop} (K : Int → Zl → List Zv → Zt → Prop) : sx_ K P [.iconst 0, .iastore, .aload 0, .tableswitch 0 11 36 #[], .iload 1, .iconst 0, .iastore, .aload 0, .tableswitch 0 11 37 #[], .iload 1, .iconst 0, .iastore, .aload 0, .tableswitch 0 11 35 #[], .iload 1, .iconst 1, .iastore, .return_] 221 = x_iconst 0 (x_iastore (x_aload 0 (x_g1 111 236 (x_iload 1 (x_iconst 0 (x_iastore (x_aload 0 (x_g1 111 237 (x_iload 1 (x_iconst 0 (x_iastore (x_aload 0 (x_g1 111 235 (x_iload 1 (x_iconst 1 (x_iastore (x_return_ P))))))))))))))))) := ((xe_iconst 0).trans (congrArg (x_iconst 0) ((xe_iastore).trans (congrArg (x_iastore) ((xe_aload 0).trans (congrArg (x_aload 0) ((xe_g1 (kk := 111) rfl tl_11_36).trans (congrArg (x_g1 111 236) ((xe_iload 1).trans (congrArg (x_iload 1) ((xe_iconst 0).trans (congrArg (x_iconst 0) ((xe_iastore).trans (congrArg (x_iastore) ((xe_aload 0).trans (congrArg (x_aload 0) ((xe_g1 (kk := 111) rfl tl_11_37).trans (congrArg (x_g1 111 237) ((xe_iload 1).trans (congrArg (x_iload 1) ((xe_iconst 0).trans (congrArg (x_iconst 0) ((xe_iastore).trans (congrArg (x_iastore) ((xe_aload 0).trans (congrArg (x_aload 0) ((xe_g1 (kk := 111) rfl tl_11_35).trans (congrArg (x_g1 111 235) ((xe_iload 1).trans (congrArg (x_iload 1) ((xe_iconst 1).trans (congrArg (x_iconst 1) ((xe_iastore).trans (congrArg (x_iastore) (xe_return_)))))))))))))))))))))))))))))))))))
theorem bk_X11_layBeginning_198 : ck_ fX11 none cX11_layBeginning 198 [.iastore, .aload 0, .tableswitch 0 11 36 #[], .iload 1, .iconst 0, .iastore, .aload 0, .tableswitch 0 11 37 #[], .iload 1, .iconst 0, .iastore, .aload 0, .tableswitch 0 11 35 #[], .iload 1, .iconst 1, .iastore, .return_] 221 = true := qck_r (nn_ _) (by decide +kernel)
theorem bs_X11_layBeginning_198 {P : Zt → Option Zv → Prop} (K : Int → Zl → List Zv → Zt → Prop) : sx_ K P [.iastore, .aload 0, .tableswitch 0 11 36 #[], .iload 1, .iconst 0, .iastore, .aload 0, .tableswitch 0 11 37 #[], .iload 1, .iconst 0, .iastore, .aload 0, .tableswitch 0 11 35 #[], .iload 1, .iconst 1, .iastore, .return_] 221 = x_iastore (x_aload 0 (x_g1 111 236 (x_iload 1 (x_iconst 0 (x_iastore (x_aload 0 (x_g1 111 237 (x_iload 1 (x_iconst 0 (x_iastore (x_aload 0 (x_g1 111 235 (x_iload 1 (x_iconst 1 (x_iastore (x_return_ P)))))))))))))))) := ((xe_iastore).trans (congrArg (x_iastore) ((xe_aload 0).trans (congrArg (x_aload 0) ((xe_g1 (kk := 111) rfl tl_11_36).trans (congrArg (x_g1 111 236) ((xe_iload 1).trans (congrArg (x_iload 1) ((xe_iconst 0).trans (congrArg (x_iconst 0) ((xe_iastore).trans (congrArg (x_iastore) ((xe_aload 0).trans (congrArg (x_aload 0) ((xe_g1 (kk := 111) rfl tl_11_37).trans (congrArg (x_g1 111 237) ((xe_iload 1).trans (congrArg (x_iload 1) ((xe_iconst 0).trans (congrArg (x_iconst 0) ((xe_iastore).trans (congrArg (x_iastore) ((xe_aload 0).trans (congrArg (x_aload 0) ((xe_g1 (kk := 111) rfl tl_11_35).trans (congrArg (x_g1 111 235) ((xe_iload 1).trans (congrArg (x_iload 1) ((xe_iconst 1).trans (congrArg (x_iconst 1) ((xe_iastore).trans (congrArg (x_iastore) (xe_return_)))))))))))))))))))))))))))))))))
theorem bk_X11_layBeginning_105 : ck_ fX11 none cX11_layBeginning 105 [.iload 4, .iload 2, .if_icmp .ge 136, .aload 0, .tableswitch 0 11 45 #[], .iconst 6, .iload 3, .imul, .iload 4, .iadd, .iconst 10, .iload 3, .imul, .iload 4, .iadd, .iastore, .iinc 4 1, .goto 105] 136 = true := qck_r (nn_ _) (by decide +kernel)
theorem bs_X11_layBeginning_105 {P : Zt → Option Zv → Prop} (K : Int → Zl → List Zv → Zt → Prop) : sx_ K P [.iload 4, .iload 2, .if_icmp .ge 136, .aload 0, .tableswitch 0 11 45 #[], .iconst 6, .iload 3, .imul, .iload 4, .iadd, .iconst 10, .iload 3, .imul, .iload 4, .iadd, .iastore, .iinc 4 1, .goto 105] 136 = x_iload 4 (x_iload 2 (x_if_icmp .ge 136 K (x_aload 0 (x_g1 111 245 (x_iconst 6 (x_iload 3 (x_imul (x_iload 4 (x_iadd (x_iconst 10 (x_iload 3 (x_imul (x_iload 4 (x_iadd (x_iastore (x_iinc 4 1 (x_goto 105 K))))))))))))))))) := ((xe_iload 4).trans (congrArg (x_iload 4) ((xe_iload 2).trans (congrArg (x_iload 2) ((xe_if_icmp .ge 136).trans (congrArg (x_if_icmp .ge 136 K) ((xe_aload 0).trans (congrArg (x_aload 0) ((xe_g1 (kk := 111) rfl tl_11_45).trans (congrArg (x_g1 111 245) ((xe_iconst 6).trans (congrArg (x_iconst 6) ((xe_iload 3).trans (congrArg (x_iload 3) ((xe_imul).trans (congrArg (x_imul) ((xe_iload 4).trans (congrArg (x_iload 4) ((xe_iadd).trans (congrArg (x_iadd) ((xe_iconst 10).trans (congrArg (x_iconst 10) ((xe_iload 3).trans (congrArg (x_iload 3) ((xe_imul).trans (congrArg (x_imul) ((xe_iload 4).trans (congrArg (x_iload 4) ((xe_iadd).trans (congrArg (x_iadd) ((xe_iastore).trans (congrArg (x_iastore) ((xe_iinc 4 1).trans (congrArg (x_iinc 4 1) (xe_goto 105)))))))))))))))))))))))))))))))))))
theorem bk_X11_layBeginning_136 : ck_ fX11 none cX11_layBeginning 136 [.iinc 3 1, .goto 17] 142 = true := qck_r (nn_ _) (by decide +kernel)
theorem bs_X11_layBeginning_136 {P : Zt → Option Zv → Prop} (K : Int → Zl → List Zv → Zt → Prop) : sx_ K P [.iinc 3 1, .goto 17] 142 = x_iinc 3 1 (x_goto 17 K) := ((xe_iinc 3 1).trans (congrArg (x_iinc 3 1) (xe_goto 17)))
theorem bk_X11_layBeginning_36 : ck_ fX11 none cX11_layBeginning 36 [.iload 4, .aload 0, .tableswitch 0 11 39 #[], .iload 3, .iaload, .if_icmp .ge 102, .aload 0, .tableswitch 0 11 41 #[], .iconst 10, .iload 3, .imul, .iload 4, .iadd, .iload 4, .iload 2, .if_icmp .ge 68, .iconst 1, .goto 69] 68 = true := qck_r (nn_ _) (by decide +kernel)
theorem bs_X11_layBeginning_36 {P : Zt → Option Zv → Prop} (K : Int → Zl → List Zv → Zt → Prop) : sx_ K P [.iload 4, .aload 0, .tableswitch 0 11 39 #[], .iload 3, .iaload, .if_icmp .ge 102, .aload 0, .tableswitch 0 11 41 #[], .iconst 10, .iload 3, .imul, .iload 4, .iadd, .iload 4, .iload 2, .if_icmp .ge 68, .iconst 1, .goto 69] 68 = x_iload 4 (x_aload 0 (x_g1 111 239 (x_iload 3 (x_iaload (x_if_icmp .ge 102 K (x_aload 0 (x_g1 111 241 (x_iconst 10 (x_iload 3 (x_imul (x_iload 4 (x_iadd (x_iload 4 (x_iload 2 (x_if_icmp .ge 68 K (x_iconst 1 (x_goto 69 K))))))))))))))))) := ((xe_iload 4).trans (congrArg (x_iload 4) ((xe_aload 0).trans (congrArg (x_aload 0) ((xe_g1 (kk := 111) rfl tl_11_39).trans (congrArg (x_g1 111 239) ((xe_iload 3).trans (congrArg (x_iload 3) ((xe_iaload).trans (congrArg (x_iaload) ((xe_if_icmp .ge 102).trans (congrArg (x_if_icmp .ge 102 K) ((xe_aload 0).trans (congrArg (x_aload 0) ((xe_g1 (kk := 111) rfl tl_11_41).trans (congrArg (x_g1 111 241) ((xe_iconst 10).trans (congrArg (x_iconst 10) ((xe_iload 3).trans (congrArg (x_iload 3) ((xe_imul).trans (congrArg (x_imul) ((xe_iload 4).trans (congrArg (x_iload 4) ((xe_iadd).trans (congrArg (x_iadd) ((xe_iload 4).trans (congrArg (x_iload 4) ((xe_iload 2).trans (congrArg (x_iload 2) ((xe_if_icmp .ge 68).trans (congrArg (x_if_icmp .ge 68 K) ((xe_iconst 1).trans (congrArg (x_iconst 1) (xe_goto 69)))))))))))))))))))))))))))))))))))
theorem bk_X11_layBeginning_102 : ck_ fX11 none cX11_layBeginning 102 [.iconst 0, .istore 4] 105 = true := qck_r (nn_ _) (by decide +kernel)
theorem bs_X11_layBeginning_102 {P : Zt → Option Zv → Prop} (K : Int → Zl → List Zv → Zt → Prop) : sx_ K P [.iconst 0, .istore 4] 105 = x_iconst 0 (x_istore 4 (K 105)) := ((xe_iconst 0).trans (congrArg (x_iconst 0) ((xe_istore 4).trans (congrArg (x_istore 4) xe_nil))))
theorem bk_X11_layBeginning_68 : ck_ fX11 none cX11_layBeginning 68 [.iconst 0, .iastore, .aload 0, .tableswitch 0 11 42 #[], .iconst 10, .iload 3, .imul, .iload 4, .iadd, .iconst 0, .iastore, .aload 0, .tableswitch 0 11 43 #[], .iconst 10, .iload 3, .imul, .iload 4, .iadd, .iconst 0, .bastore, .iinc 4 1, .goto 36] 102 = true := qck_r (nn_ _) (by decide +kernel)
theorem bs_X11_layBeginning_68 {P : Zt → Option Zv → Prop} (K : Int → Zl → List Zv → Zt → Prop) : sx_ K P [.iconst 0, .iastore, .aload 0, .tableswitch 0 11 42 #[], .iconst 10, .iload 3, .imul, .iload 4, .iadd, .iconst 0, .iastore, .aload 0, .tableswitch 0 11 43 #[], .iconst 10, .iload 3, .imul, .iload 4, .iadd, .iconst 0, .bastore, .iinc 4 1, .goto 36] 102 = x_iconst 0 (x_iastore (x_aload 0 (x_g1 111 242 (x_iconst 10 (x_iload 3 (x_imul (x_iload 4 (x_iadd (x_iconst 0 (x_iastore (x_aload 0 (x_g1 111 243 (x_iconst 10 (x_iload 3 (x_imul (x_iload 4 (x_iadd (x_iconst 0 (x_bastore (x_iinc 4 1 (x_goto 36 K))))))))))))))))))))) := ((xe_iconst 0).trans (congrArg (x_iconst 0) ((xe_iastore).trans (congrArg (x_iastore) ((xe_aload 0).trans (congrArg (x_aload 0) ((xe_g1 (kk := 111) rfl tl_11_42).trans (congrArg (x_g1 111 242) ((xe_iconst 10).trans (congrArg (x_iconst 10) ((xe_iload 3).trans (congrArg (x_iload 3) ((xe_imul).trans (congrArg (x_imul) ((xe_iload 4).trans (congrArg (x_iload 4) ((xe_iadd).trans (congrArg (x_iadd) ((xe_iconst 0).trans (congrArg (x_iconst 0) ((xe_iastore).trans (congrArg (x_iastore) ((xe_aload 0).trans (congrArg (x_aload 0) ((xe_g1 (kk := 111) rfl tl_11_43).trans (congrArg (x_g1 111 243) ((xe_iconst 10).trans (congrArg (x_iconst 10) ((xe_iload 3).trans (congrArg (x_iload 3) ((xe_imul).trans (congrArg (x_imul) ((xe_iload 4).trans (congrArg (x_iload 4) ((xe_iadd).trans (congrArg (x_iadd) ((xe_iconst 0).trans (congrArg (x_iconst 0) ((xe_bastore).trans (congrArg (x_bastore) ((xe_iinc 4 1).trans (congrArg (x_iinc 4 1) (xe_goto 36)))))))))))))))))))))))))))))))))))))))))))
theorem bk_X11_layBeginning_69 : ck_ fX11 none cX11_layBeginning 69 [.iastore, .aload 0, .tableswitch 0 11 42 #[], .iconst 10, .iload 3, .imul, .iload 4, .iadd, .iconst 0, .iastore, .aload 0, .tableswitch 0 11 43 #[], .iconst 10, .iload 3, .imul, .iload 4, .iadd, .iconst 0, .bastore, .iinc 4 1, .goto 36] 102 = true := qck_r (nn_ _) (by decide +kernel)
theorem bs_X11_layBeginning_69 {P : Zt → Option Zv → Prop} (K : Int → Zl → List Zv → Zt → Prop) : sx_ K P [.iastore, .aload 0, .tableswitch 0 11 42 #[], .iconst 10, .iload 3, .imul, .iload 4, .iadd, .iconst 0, .iastore, .aload 0, .tableswitch 0 11 43 #[], .iconst 10, .iload 3, .imul, .iload 4, .iadd, .iconst 0, .bastore, .iinc 4 1, .goto 36] 102 = x_iastore (x_aload 0 (x_g1 111 242 (x_iconst 10 (x_iload 3 (x_imul (x_iload 4 (x_iadd (x_iconst 0 (x_iastore (x_aload 0 (x_g1 111 243 (x_iconst 10 (x_iload 3 (x_imul (x_iload 4 (x_iadd (x_iconst 0 (x_bastore (x_iinc 4 1 (x_goto 36 K)))))))))))))))))))) := ((xe_iastore).trans (congrArg (x_iastore) ((xe_aload 0).trans (congrArg (x_aload 0) ((xe_g1 (kk := 111) rfl tl_11_42).trans (congrArg (x_g1 111 242) ((xe_iconst 10).trans (congrArg (x_iconst 10) ((xe_iload 3).trans (congrArg (x_iload 3) ((xe_imul).trans (congrArg (x_imul) ((xe_iload 4).trans (congrArg (x_iload 4) ((xe_iadd).trans (congrArg (x_iadd) ((xe_iconst 0).trans (congrArg (x_iconst 0) ((xe_iastore).trans (congrArg (x_iastore) ((xe_aload 0).trans (congrArg (x_aload 0) ((xe_g1 (kk := 111) rfl tl_11_43).trans (congrArg (x_g1 111 243) ((xe_iconst 10).trans (congrArg (x_iconst 10) ((xe_iload 3).trans (congrArg (x_iload 3) ((xe_imul).trans (congrArg (x_imul) ((xe_iload 4).trans (congrArg (x_iload 4) ((xe_iadd).trans (congrArg (x_iadd) ((xe_iconst 0).trans (congrArg (x_iconst 0) ((xe_bastore).trans (congrArg (x_bastore) ((xe_iinc 4 1).trans (congrArg (x_iinc 4 1) (xe_goto 36)))))))))))))))))))))))))))))))))))))))))
theorem bk_X11_layBeginning_17 : ck_ fX11 none cX11_layBeginning 17 [.iload 3, .iconst 2, .iload 1, .imul, .iconst 1, .iadd, .if_icmp .gt 142, .aload 0, .tableswitch 0 11 44 #[], .iload 3, .iload 2, .iastore, .iconst 0, .istore 4] 36 = true := qck_r (nn_ _) (by decide +kernel)
theorem bs_X11_layBeginning_17 {P : Zt → Option Zv → Prop} (K : Int → Zl → List Zv → Zt → Prop) : sx_ K P [.iload 3, .iconst 2, .iload 1, .imul, .iconst 1, .iadd, .if_icmp .gt 142, .aload 0, .tableswitch 0 11 44 #[], .iload 3, .iload 2, .iastore, .iconst 0, .istore 4] 36 = x_iload 3 (x_iconst 2 (x_iload 1 (x_imul (x_iconst 1 (x_iadd (x_if_icmp .gt 142 K (x_aload 0 (x_g1 111 244 (x_iload 3 (x_iload 2 (x_iastore (x_iconst 0 (x_istore 4 (K 36)))))))))))))) := ((xe_iload 3).trans (congrArg (x_iload 3) ((xe_iconst 2).trans (congrArg (x_iconst 2) ((xe_iload 1).trans (congrArg (x_iload 1) ((xe_imul).trans (congrArg (x_imul) ((xe_iconst 1).trans (congrArg (x_iconst 1) ((xe_iadd).trans (congrArg (x_iadd) ((xe_if_icmp .gt 142).trans (congrArg (x_if_icmp .gt 142 K) ((xe_aload 0).trans (congrArg (x_aload 0) ((xe_g1 (kk := 111) rfl tl_11_44).trans (congrArg (x_g1 111 244) ((xe_iload 3).trans (congrArg (x_iload 3) ((xe_iload 2).trans (congrArg (x_iload 2) ((xe_iastore).trans (congrArg (x_iastore) ((xe_iconst 0).trans (congrArg (x_iconst 0) ((xe_istore 4).trans (congrArg (x_istore 4) xe_nil))))))))))))))))))))))))))))
theorem bk_X11_layBeginning_142 : ck_ fX11 none cX11_layBeginning 142 [.iconst 0, .istore 3] 144 = true := qck_r (nn_ _) (by decide +kernel)
theorem bs_X11_layBeginning_142 {P : Zt → Option Zv → Prop} (K : Int → Zl → List Zv → Zt → Prop) : sx_ K P [.iconst 0, .istore 3] 144 = x_iconst 0 (x_istore 3 (K 144)) := ((xe_iconst 0).trans (congrArg (x_iconst 0) ((xe_istore 3).trans (congrArg (x_istore 3) xe_nil))))
theorem bk_X11_layBeginning_0 : ck_ fX11 none cX11_layBeginning 0 [.aload 0, .aload 0, .tableswitch 0 11 30 #[], .iload 1, .iaload, .iconst 9] 9 = true := qck_r (nn_ _) (by decide +kernel)
theorem bs_X11_layBeginning_0 {P : Zt → Option Zv → Prop} (K : Int → Zl → List Zv → Zt → Prop) : sx_ K P [.aload 0, .aload 0, .tableswitch 0 11 30 #[], .iload 1, .iaload, .iconst 9] 9 = x_aload 0 (x_aload 0 (x_g1 111 230 (x_iload 1 (x_iaload (x_iconst 9 (K 9)))))) := ((xe_aload 0).trans (congrArg (x_aload 0) ((xe_aload 0).trans (congrArg (x_aload 0) ((xe_g1 (kk := 111) rfl tl_11_30).trans (congrArg (x_g1 111 230) ((xe_iload 1).trans (congrArg (x_iload 1) ((xe_iaload).trans (congrArg (x_iaload) ((xe_iconst 9).trans (congrArg (x_iconst 9) xe_nil))))))))))))
theorem bk_X11_layBeginning_12 : ck_ fX11 none cX11_layBeginning 12 [.istore 2, .iconst 2, .iload 1, .imul, .istore 3] 17 = true := qck_r (nn_ _) (by decide +kernel)
theorem bs_X11_layBeginning_12 {P : Zt → Option Zv → Prop} (K : Int → Zl → List Zv → Zt → Prop) : sx_ K P [.istore 2, .iconst 2, .iload 1, .imul, .istore 3] 17 = x_istore 2 (x_iconst 2 (x_iload 1 (x_imul (x_istore 3 (K 17))))) := ((xe_istore 2).trans (congrArg (x_istore 2) ((xe_iconst 2).trans (congrArg (x_iconst 2) ((xe_iload 1).trans (congrArg (x_iload 1) ((xe_imul).trans (congrArg (x_imul) ((xe_istore 3).trans (congrArg (x_istore 3) xe_nil))))))))))
abbrev po_X11_layBeginning (T : Zt) (m : Int) : Zt → Option Zv → Prop := fun T' r => r = none ∧ fr_ [(244, []), (241, []), (242, []), (243, []), (245, []), (246, []), (236, []), (237, []), (235, [])] T T' ∧ (FM_ T' ∧ SO_ T T' m ∧ SB1_ T' m 9)
set_option maxHeartbeats 4000000 in
theorem ct_X11_layBeginning {T : Zt} {m : Int} (h1 : 0 ≤ m ∧ m < T 111 0 29) (hmc : MC_ T) (hri : RI_ T) (hfm : FM_ T) (hzs : ZS_ T) : Ct_ yX11_layBeginning zX11_layBeginning T [vR 111 0, vI m] (po_X11_layBeginning T m) := by
  refine ct_of pn_11 rfl rfl (Nat.le_of_ble_eq_true rfl) (fun hT hav => ?_)
  have hr_m : -2147483648 ≤ m ∧ m ≤ 2147483647 := hav (vI m) (by simp)
  have hz : zX11_layBeginning.2.2.2.1 = some .boolean → ∀ (T' : Zt) (x : Int), po_X11_layBeginning T m T' (some (vI x)) → 0 ≤ x ∧ x ≤ 1 := fun h => by cases h
  have hb_29 : 0 ≤ T 111 0 29 ∧ T 111 0 29 ≤ 400 := bd_f hT 111 29 (by decide +kernel : (tf_ 111)[29]? = some (0, 0, 0, 400)) 0
  have hb_6 : 0 ≤ T 111 0 6 ∧ T 111 0 6 ≤ 4 := bd_f hT 111 6 (by decide +kernel : (tf_ 111)[6]? = some (0, 0, 0, 4)) 0
  have hcm := hmc m (by omega) (by omega)
  have hcb : 0 ≤ T 230 0 m ∧ T 230 0 m ≤ 3 := bd_a hT 230 (by decide +kernel : ta_ 230 = some (1, some 400, 0, 3)) 0 (by omega)
  have hr9 : (1 : Int) ≤ T 205 0 (23 * T 230 0 m + 9) ∧ T 205 0 (23 * T 230 0 m + 9) ≤ (6 : Int) := hri (T 230 0 m) 9 (by omega) (by omega) (by omega) (by omega)
  show J_ zX11_layBeginning T (po_X11_layBeginning T m) 0 0 0 [some (vR 111 0), some (vI m), none, none, none] [] T
  have c_144 : ∀ (nn : Nat) (i : Int) (T4 : Zt), ((8 - i).toNat) ≤ nn → (fr_ [(244, []), (241, []), (242, []), (243, []), (245, []), (246, [])] T T4) → (FM_ T4) → (SO_ T T4 m) → (∀ j, 20 * m ≤ j → j < 20 * m + 20 → j % 10 < T 239 0 (j / 10) → T4 242 0 j = 0) → (∀ j, 2 * m ≤ j → j < 2 * m + 2 → 1 ≤ T4 244 0 j) → (0 ≤ i) → J_ zX11_layBeginning T (po_X11_layBeginning T m) 0 0 144 [some (vR 111 0), some (vI m), none, some (vI i), none] [] T4 := by
    intro nn
    induction nn using Nat.strongRecOn with
    | _ nn ih_144 =>
      intro i T4 hm_144 hf_144 fm4 so4 y4 g4 i4
      refine j_blx (F := fX11) tb_X11 (nn_ _) bk_X11_layBeginning_144 bs_X11_layBeginning_144 hz (fun K hK => ?_)
      refine And.intro (fun c1 => ?_) (fun c1 => ?_)
      · refine hK 168 _ [] T4 ?_
        refine j_blx (F := fX11) tb_X11 (nn_ _) bk_X11_layBeginning_168 bs_X11_layBeginning_168 hz (fun K hK => ?_)
        refine rg_i (by omega) ?_
        refine rg_i (by omega) ?_
        refine ix_i (by omega) ?_
        intro b2 b2b
        have e3 : T4 230 0 m = T 230 0 m := hf_144 230 0 m rfl
        rw [e3] at b2 b2b ⊢
        refine hK 186 _ [vI 0, vI (T 230 0 m), vR 111 0, vI ((8 * m) + 5), vR 246 0] T4 ?_
        refine j_callV (y := yX11_rule0) (Yc := zX11_rule0) (rest := [vI ((8 * m) + 5), vR 246 0]) [vI (T 230 0 m), vI 0] (ct_X11_rule0 (T := T4) (by omega) (by omega)) cl_X11_321 (qd_c (by decide +kernel)) (nn_ _) rfl (rf_of rfl) (Nat.le_of_ble_eq_true rfl) (Nat.le_of_ble_eq_true rfl) (Nat.le_of_ble_eq_true rfl) rfl ?_
        rintro _ _ ⟨rfl, rfl⟩
        have e4 : T4 205 0 (23 * (T 230 0 m) + 0) = T 205 0 (23 * (T 230 0 m) + 0) := hf_144 205 0 (23 * (T 230 0 m) + 0) rfl
        show J_ zX11_layBeginning T (po_X11_layBeginning T m) 0 0 189 _ [vI (T4 205 0 (23 * (T 230 0 m) + 0)), vI ((8 * m) + 5), vR 246 0] T4
        refine j_blx (F := fX11) tb_X11 (nn_ _) bk_X11_layBeginning_189 bs_X11_layBeginning_189 hz (fun K hK => ?_)
        refine And.intro (fun c5 => ?_) (fun c5 => ?_)
        · refine hK 197 _ [vI ((8 * m) + 5), vR 246 0] T4 ?_
          refine j_blx (F := fX11) tb_X11 (nn_ _) bk_X11_layBeginning_197 bs_X11_layBeginning_197 hz (fun K hK => ?_)
          refine iy_i (by omega) (by omega) ?_
          refine x_nm (fun U6 hU6 => ?_)
          have e7 := up_f hU6
          refine iy_i (by omega) (by omega) ?_
          refine x_nm (fun U8 hU8 => ?_)
          have e9 := up_f hU8
          refine iy_i (by omega) (by omega) ?_
          refine x_nm (fun U10 hU10 => ?_)
          have e11 := up_f hU10
          refine iy_i (by omega) (by omega) ?_
          refine x_nm (fun U12 hU12 => ?_)
          have e13 := up_f hU12
          refine (show po_X11_layBeginning T m U12 (none) from ?_)
          have e14 : U12 236 0 m = 0 := (up_k hU12 (by exact Nat.ne_of_beq_eq_false rfl) 0 m).trans ((up_k hU10 (by exact Nat.ne_of_beq_eq_false rfl) 0 m).trans (up_f hU8))
          have e15 : U12 237 0 m = 0 := (up_k hU12 (by exact Nat.ne_of_beq_eq_false rfl) 0 m).trans (up_f hU10)
          have so5 : SO_ T U12 m := so_f (ws := [(235, [])]) (so_1 (so_0 (so_f (ws := [(246, [])]) (so4) (fr_u (fr_0 _ _) hU6 rfl) ⟨fun _ => rfl, fun _ => rfl, fun _ => rfl⟩) hU8) hU10) (fr_u (fr_0 _ _) hU12 rfl) ⟨fun _ => rfl, fun _ => rfl, fun _ => rfl⟩
          have y5 : ∀ j, 20 * m ≤ j → j < 20 * m + 20 → U12 242 0 j = 0 := by
            intro j a b
            by_cases c : j % 10 < T 239 0 (j / 10)
            · rw [(up_k hU12 (by exact Nat.ne_of_beq_eq_false rfl) 0 j).trans ((up_k hU10 (by exact Nat.ne_of_beq_eq_false rfl) 0 j).trans ((up_k hU8 (by exact Nat.ne_of_beq_eq_false rfl) 0 j).trans (up_k hU6 (by exact Nat.ne_of_beq_eq_false rfl) 0 j)))]; exact y4 j a b c
            · rw [so5.2 j (fun w => c w.2.2)]; exact hzs j (by omega) (by omega) (by omega)
          exact ⟨rfl, fr_u (fr_u (fr_u (fr_u (fr_t (fr_0 _ _) (fr_s hf_144 rfl)) hU6 rfl) hU8 rfl) hU10 rfl) hU12 rfl, fm_4 (FM__f (ws := [(237, [])]) (FM__f (ws := [(236, [])]) (FM__f (ws := [(246, [])]) (fm4) (fr_u (fr_0 _ _) hU6 rfl) ⟨fun _ => rfl, fun _ => rfl, trivial⟩) (fr_u (fr_0 _ _) hU8 rfl) ⟨fun _ => rfl, fun _ => rfl, trivial⟩) (fr_u (fr_0 _ _) hU10 rfl) ⟨fun _ => rfl, fun _ => rfl, trivial⟩) hU12 (fun s a b => by rw [(up_k hU10 (by exact Nat.ne_of_beq_eq_false rfl) 0 (2 * m + s)).trans ((up_k hU8 (by exact Nat.ne_of_beq_eq_false rfl) 0 (2 * m + s)).trans (up_k hU6 (by exact Nat.ne_of_beq_eq_false rfl) 0 (2 * m + s)))]; exact g4 _ (by omega) (by omega)), so5, ⟨by omega, by omega, fun j a b => by rw [y5 j a b]; decide⟩⟩
        · refine hK 198 _ [vI 1, vI ((8 * m) + 5), vR 246 0] T4 ?_
          refine j_blx (F := fX11) tb_X11 (nn_ _) bk_X11_layBeginning_198 bs_X11_layBeginning_198 hz (fun K hK => ?_)
          refine iy_i (by omega) (by omega) ?_
          refine x_nm (fun U16 hU16 => ?_)
          have e17 := up_f hU16
          refine iy_i (by omega) (by omega) ?_
          refine x_nm (fun U18 hU18 => ?_)
          have e19 := up_f hU18
          refine iy_i (by omega) (by omega) ?_
          refine x_nm (fun U20 hU20 => ?_)
          have e21 := up_f hU20
          refine iy_i (by omega) (by omega) ?_
          refine x_nm (fun U22 hU22 => ?_)
          have e23 := up_f hU22
          refine (show po_X11_layBeginning T m U22 (none) from ?_)
          have e24 : U22 236 0 m = 0 := (up_k hU22 (by exact Nat.ne_of_beq_eq_false rfl) 0 m).trans ((up_k hU20 (by exact Nat.ne_of_beq_eq_false rfl) 0 m).trans (up_f hU18))
          have e25 : U22 237 0 m = 0 := (up_k hU22 (by exact Nat.ne_of_beq_eq_false rfl) 0 m).trans (up_f hU20)
          have so5 : SO_ T U22 m := so_f (ws := [(235, [])]) (so_1 (so_0 (so_f (ws := [(246, [])]) (so4) (fr_u (fr_0 _ _) hU16 rfl) ⟨fun _ => rfl, fun _ => rfl, fun _ => rfl⟩) hU18) hU20) (fr_u (fr_0 _ _) hU22 rfl) ⟨fun _ => rfl, fun _ => rfl, fun _ => rfl⟩
          have y5 : ∀ j, 20 * m ≤ j → j < 20 * m + 20 → U22 242 0 j = 0 := by
            intro j a b
            by_cases c : j % 10 < T 239 0 (j / 10)
            · rw [(up_k hU22 (by exact Nat.ne_of_beq_eq_false rfl) 0 j).trans ((up_k hU20 (by exact Nat.ne_of_beq_eq_false rfl) 0 j).trans ((up_k hU18 (by exact Nat.ne_of_beq_eq_false rfl) 0 j).trans (up_k hU16 (by exact Nat.ne_of_beq_eq_false rfl) 0 j)))]; exact y4 j a b c
            · rw [so5.2 j (fun w => c w.2.2)]; exact hzs j (by omega) (by omega) (by omega)
          exact ⟨rfl, fr_u (fr_u (fr_u (fr_u (fr_t (fr_0 _ _) (fr_s hf_144 rfl)) hU16 rfl) hU18 rfl) hU20 rfl) hU22 rfl, fm_4 (FM__f (ws := [(237, [])]) (FM__f (ws := [(236, [])]) (FM__f (ws := [(246, [])]) (fm4) (fr_u (fr_0 _ _) hU16 rfl) ⟨fun _ => rfl, fun _ => rfl, trivial⟩) (fr_u (fr_0 _ _) hU18 rfl) ⟨fun _ => rfl, fun _ => rfl, trivial⟩) (fr_u (fr_0 _ _) hU20 rfl) ⟨fun _ => rfl, fun _ => rfl, trivial⟩) hU22 (fun s a b => by rw [(up_k hU20 (by exact Nat.ne_of_beq_eq_false rfl) 0 (2 * m + s)).trans ((up_k hU18 (by exact Nat.ne_of_beq_eq_false rfl) 0 (2 * m + s)).trans (up_k hU16 (by exact Nat.ne_of_beq_eq_false rfl) 0 (2 * m + s)))]; exact g4 _ (by omega) (by omega)), so5, ⟨by omega, by omega, fun j a b => by rw [y5 j a b]; decide⟩⟩
      · refine rg_i (by omega) ?_
        refine rg_i (by omega) ?_
        refine iy_i (by omega) (by omega) ?_
        refine x_nm (fun U26 hU26 => ?_)
        have e27 := up_f hU26
        refine rg_i (by omega) ?_
        refine hK 144 [some (vR 111 0), some (vI m), none, some (vI (i + 1)), none] [] U26 ?_
        refine ih_144 _ ?_ (i + 1) U26 (Nat.le_refl _) ?_ ?_ ?_ ?_ ?_ ?_
        · omega
        · exact fr_u (fr_t (fr_0 _ _) (fr_s hf_144 rfl)) hU26 rfl
        · exact FM__f (ws := [(246, [])]) (fm4) (fr_u (fr_0 _ _) hU26 rfl) ⟨fun _ => rfl, fun _ => rfl, trivial⟩
        · exact so_f (ws := [(246, [])]) (so4) (fr_u (fr_0 _ _) hU26 rfl) ⟨fun _ => rfl, fun _ => rfl, fun _ => rfl⟩
        · intro j a b c
          rw [up_k hU26 (by exact Nat.ne_of_beq_eq_false rfl) 0 j]
          exact y4 j a (by omega) c
        · intro j a b
          rw [up_k hU26 (by exact Nat.ne_of_beq_eq_false rfl) 0 j]
          exact g4 j a (by omega)
        · omega
  have c_17 : ∀ (nn : Nat) (sh : Int) (T1 : Zt), ((2 * m + 2 - sh).toNat) ≤ nn → (fr_ [(244, []), (241, []), (242, []), (243, []), (245, [])] T T1) → (FM_ T1) → (SO_ T T1 m) → (∀ j, 20 * m ≤ j → j < 10 * sh → j % 10 < T 239 0 (j / 10) → T1 242 0 j = 0) → (∀ j, 2 * m ≤ j → j < sh → 1 ≤ T1 244 0 j) → (2 * m ≤ sh ∧ sh ≤ 2 * m + 2) → J_ zX11_layBeginning T (po_X11_layBeginning T m) 0 0 17 [some (vR 111 0), some (vI m), some (vI (T 205 0 (23 * T 230 0 m + 9))), some (vI sh), none] [] T1 := by
    intro nn
    induction nn using Nat.strongRecOn with
    | _ nn ih_17 =>
      intro sh T1 hm_17 hf_17 fm1 so1 y1 g1 i1
      have c_105 : ∀ (nn : Nat) (k : Int) (T3 : Zt), ((6 - k).toNat) ≤ nn → (fr_ [(244, []), (241, []), (242, []), (243, []), (245, [])] T T3) → (FM_ T3) → (SO_ T T3 m) → (∀ j, 20 * m ≤ j → j < 10 * sh + 10 → j % 10 < T 239 0 (j / 10) → T3 242 0 j = 0) → (∀ j, 2 * m ≤ j → j < sh + 1 → 1 ≤ T3 244 0 j) → (0 ≤ k ∧ sh ≤ 2 * m + 1) → J_ zX11_layBeginning T (po_X11_layBeginning T m) 0 0 105 [some (vR 111 0), some (vI m), some (vI (T 205 0 (23 * T 230 0 m + 9))), some (vI sh), some (vI k)] [] T3 := by
        intro nn
        induction nn using Nat.strongRecOn with
        | _ nn ih_105 =>
          intro k T3 hm_105 hf_105 fm3 so3 y3 g3 i3
          refine j_blx (F := fX11) tb_X11 (nn_ _) bk_X11_layBeginning_105 bs_X11_layBeginning_105 hz (fun K hK => ?_)
          refine And.intro (fun c28 => ?_) (fun c28 => ?_)
          · refine hK 136 _ [] T3 ?_
            refine j_blx (F := fX11) tb_X11 (nn_ _) bk_X11_layBeginning_136 bs_X11_layBeginning_136 hz (fun K hK => ?_)
            refine rg_i (by omega) ?_
            refine hK 17 [some (vR 111 0), some (vI m), some (vI (T 205 0 (23 * T 230 0 m + 9))), some (vI (sh + 1)), some (vI k)] [] T3 ?_
            refine j_drop [some (vR 111 0), some (vI m), some (vI (T 205 0 (23 * T 230 0 m + 9))), some (vI (sh + 1)), none] (fun k v hk => ?_) rfl ?_
            · match k, hk with
              | 0, hk => exact hk
              | 1, hk => exact hk
              | 2, hk => exact hk
              | 3, hk => exact hk
              | 4, hk => cases hk
              | k + 5, hk => cases hk
            refine ih_17 _ ?_ (sh + 1) T3 (Nat.le_refl _) ?_ ?_ ?_ ?_ ?_ ?_
            · omega
            · exact fr_t (fr_0 _ _) (fr_s hf_105 rfl)
            · exact fm3
            · exact so3
            · intro j a b c
              exact y3 j a (by omega) c
            · intro j a b
              exact g3 j a (by omega)
            · omega
          · refine rg_i (by omega) ?_
            refine rg_i (by omega) ?_
            refine rg_i (by omega) ?_
            refine rg_i (by omega) ?_
            refine iy_i (by omega) (by omega) ?_
            refine x_nm (fun U29 hU29 => ?_)
            have e30 := up_f hU29
            refine rg_i (by omega) ?_
            refine hK 105 [some (vR 111 0), some (vI m), some (vI (T 205 0 (23 * T 230 0 m + 9))), some (vI sh), some (vI (k + 1))] [] U29 ?_
            refine ih_105 _ ?_ (k + 1) U29 (Nat.le_refl _) ?_ ?_ ?_ ?_ ?_ ?_
            · omega
            · exact fr_u (fr_t (fr_0 _ _) (fr_s hf_105 rfl)) hU29 rfl
            · exact FM__f (ws := [(245, [])]) (fm3) (fr_u (fr_0 _ _) hU29 rfl) ⟨fun _ => rfl, fun _ => rfl, trivial⟩
            · exact so_f (ws := [(245, [])]) (so3) (fr_u (fr_0 _ _) hU29 rfl) ⟨fun _ => rfl, fun _ => rfl, fun _ => rfl⟩
            · intro j a b c
              rw [up_k hU29 (by exact Nat.ne_of_beq_eq_false rfl) 0 j]
              exact y3 j a (by omega) c
            · intro j a b
              rw [up_k hU29 (by exact Nat.ne_of_beq_eq_false rfl) 0 j]
              exact g3 j a (by omega)
            · omega
      have c_36 : ∀ (nn : Nat) (k : Int) (T2 : Zt), ((10 - k).toNat) ≤ nn → (fr_ [(244, []), (241, []), (242, []), (243, []), (245, [])] T T2) → (FM_ T2) → (SO_ T T2 m) → (∀ j, 20 * m ≤ j → j < 10 * sh + k → j % 10 < T 239 0 (j / 10) → T2 242 0 j = 0) → (∀ j, 2 * m ≤ j → j < sh + 1 → 1 ≤ T2 244 0 j) → (0 ≤ k ∧ sh ≤ 2 * m + 1) → J_ zX11_layBeginning T (po_X11_layBeginning T m) 0 0 36 [some (vR 111 0), some (vI m), some (vI (T 205 0 (23 * T 230 0 m + 9))), some (vI sh), some (vI k)] [] T2 := by
        intro nn
        induction nn using Nat.strongRecOn with
        | _ nn ih_36 =>
          intro k T2 hm_36 hf_36 fm2 so2 y2 g2 i2
          refine j_blx (F := fX11) tb_X11 (nn_ _) bk_X11_layBeginning_36 bs_X11_layBeginning_36 hz (fun K hK => ?_)
          refine ix_i (by omega) ?_
          intro b31 b31b
          have e32 : T2 239 0 sh = T 239 0 sh := hf_36 239 0 sh rfl
          rw [e32] at b31 b31b ⊢
          refine And.intro (fun c33 => ?_) (fun c33 => ?_)
          · refine hK 102 _ [] T2 ?_
            refine j_blx (F := fX11) tb_X11 (nn_ _) bk_X11_layBeginning_102 bs_X11_layBeginning_102 hz (fun K hK => ?_)
            refine hK 105 [some (vR 111 0), some (vI m), some (vI (T 205 0 (23 * T 230 0 m + 9))), some (vI sh), some (vI 0)] [] T2 ?_
            refine c_105 _ 0 T2 (Nat.le_refl _) ?_ ?_ ?_ ?_ ?_ ?_
            · exact fr_t (fr_0 _ _) (fr_s hf_36 rfl)
            · exact fm2
            · exact so2
            · intro j a b c
              by_cases z : j < 10 * sh + k
              · exact y2 j a z c
              · rw [show j / 10 = sh by omega] at c; omega
            · intro j a b
              exact g2 j a (by omega)
            · omega
          · refine rg_i (by omega) ?_
            refine rg_i (by omega) ?_
            refine And.intro (fun c34 => ?_) (fun c34 => ?_)
            · refine hK 68 [some (vR 111 0), some (vI m), some (vI (T 205 0 (23 * T 230 0 m + 9))), some (vI sh), some (vI k)] [vI ((10 * sh) + k), vR 241 0] T2 ?_
              refine j_blx (F := fX11) tb_X11 (nn_ _) bk_X11_layBeginning_68 bs_X11_layBeginning_68 hz (fun K hK => ?_)
              refine iy_i (by omega) (by omega) ?_
              refine x_nm (fun U35 hU35 => ?_)
              have e36 := up_f hU35
              refine rg_i (by omega) ?_
              refine rg_i (by omega) ?_
              refine iy_i (by omega) (by omega) ?_
              refine x_nm (fun U37 hU37 => ?_)
              have e38 := up_f hU37
              refine rg_i (by omega) ?_
              refine rg_i (by omega) ?_
              refine iy_i (by omega) (by omega) ?_
              refine x_nm (fun U39 hU39 => ?_)
              have e40 := up_f hU39
              refine rg_i (by omega) ?_
              refine hK 36 [some (vR 111 0), some (vI m), some (vI (T 205 0 (23 * T 230 0 m + 9))), some (vI sh), some (vI (k + 1))] [] U39 ?_
              refine ih_36 _ ?_ (k + 1) U39 (Nat.le_refl _) ?_ ?_ ?_ ?_ ?_ ?_
              · omega
              · exact fr_u (fr_u (fr_u (fr_t (fr_0 _ _) (fr_s hf_36 rfl)) hU35 rfl) hU37 rfl) hU39 rfl
              · exact FM__f (ws := [(243, [])]) (FM__f (ws := [(242, [])]) (FM__f (ws := [(241, [])]) (fm2) (fr_u (fr_0 _ _) hU35 rfl) ⟨fun _ => rfl, fun _ => rfl, trivial⟩) (fr_u (fr_0 _ _) hU37 rfl) ⟨fun _ => rfl, fun _ => rfl, trivial⟩) (fr_u (fr_0 _ _) hU39 rfl) ⟨fun _ => rfl, fun _ => rfl, trivial⟩
              · exact so_f (ws := [(243, [])]) (so_y (so_f (ws := [(241, [])]) (so2) (fr_u (fr_0 _ _) hU35 rfl) ⟨fun _ => rfl, fun _ => rfl, fun _ => rfl⟩) hU37 (sh) (by omega)) (fr_u (fr_0 _ _) hU39 rfl) ⟨fun _ => rfl, fun _ => rfl, fun _ => rfl⟩
              · intro j a b c
                rw [up_k hU39 (by exact Nat.ne_of_beq_eq_false rfl) 0 j]
                by_cases z : j = (10 * sh) + k
                · rw [z, up_f hU37]
                · rw [up_g hU37 (fun y => z y.2.2), up_k hU35 (by exact Nat.ne_of_beq_eq_false rfl) 0 j]; exact y2 j a (by omega) c
              · intro j a b
                rw [(up_k hU39 (by exact Nat.ne_of_beq_eq_false rfl) 0 j).trans ((up_k hU37 (by exact Nat.ne_of_beq_eq_false rfl) 0 j).trans (up_k hU35 (by exact Nat.ne_of_beq_eq_false rfl) 0 j))]
                exact g2 j a (by omega)
              · omega
            · refine hK 69 [some (vR 111 0), some (vI m), some (vI (T 205 0 (23 * T 230 0 m + 9))), some (vI sh), some (vI k)] [vI 1, vI ((10 * sh) + k), vR 241 0] T2 ?_
              refine j_blx (F := fX11) tb_X11 (nn_ _) bk_X11_layBeginning_69 bs_X11_layBeginning_69 hz (fun K hK => ?_)
              refine iy_i (by omega) (by omega) ?_
              refine x_nm (fun U41 hU41 => ?_)
              have e42 := up_f hU41
              refine rg_i (by omega) ?_
              refine rg_i (by omega) ?_
              refine iy_i (by omega) (by omega) ?_
              refine x_nm (fun U43 hU43 => ?_)
              have e44 := up_f hU43
              refine rg_i (by omega) ?_
              refine rg_i (by omega) ?_
              refine iy_i (by omega) (by omega) ?_
              refine x_nm (fun U45 hU45 => ?_)
              have e46 := up_f hU45
              refine rg_i (by omega) ?_
              refine hK 36 [some (vR 111 0), some (vI m), some (vI (T 205 0 (23 * T 230 0 m + 9))), some (vI sh), some (vI (k + 1))] [] U45 ?_
              refine ih_36 _ ?_ (k + 1) U45 (Nat.le_refl _) ?_ ?_ ?_ ?_ ?_ ?_
              · omega
              · exact fr_u (fr_u (fr_u (fr_t (fr_0 _ _) (fr_s hf_36 rfl)) hU41 rfl) hU43 rfl) hU45 rfl
              · exact FM__f (ws := [(243, [])]) (FM__f (ws := [(242, [])]) (FM__f (ws := [(241, [])]) (fm2) (fr_u (fr_0 _ _) hU41 rfl) ⟨fun _ => rfl, fun _ => rfl, trivial⟩) (fr_u (fr_0 _ _) hU43 rfl) ⟨fun _ => rfl, fun _ => rfl, trivial⟩) (fr_u (fr_0 _ _) hU45 rfl) ⟨fun _ => rfl, fun _ => rfl, trivial⟩
              · exact so_f (ws := [(243, [])]) (so_y (so_f (ws := [(241, [])]) (so2) (fr_u (fr_0 _ _) hU41 rfl) ⟨fun _ => rfl, fun _ => rfl, fun _ => rfl⟩) hU43 (sh) (by omega)) (fr_u (fr_0 _ _) hU45 rfl) ⟨fun _ => rfl, fun _ => rfl, fun _ => rfl⟩
              · intro j a b c
                rw [up_k hU45 (by exact Nat.ne_of_beq_eq_false rfl) 0 j]
                by_cases z : j = (10 * sh) + k
                · rw [z, up_f hU43]
                · rw [up_g hU43 (fun y => z y.2.2), up_k hU41 (by exact Nat.ne_of_beq_eq_false rfl) 0 j]; exact y2 j a (by omega) c
              · intro j a b
                rw [(up_k hU45 (by exact Nat.ne_of_beq_eq_false rfl) 0 j).trans ((up_k hU43 (by exact Nat.ne_of_beq_eq_false rfl) 0 j).trans (up_k hU41 (by exact Nat.ne_of_beq_eq_false rfl) 0 j))]
                exact g2 j a (by omega)
              · omega
      refine j_blx (F := fX11) tb_X11 (nn_ _) bk_X11_layBeginning_17 bs_X11_layBeginning_17 hz (fun K hK => ?_)
      refine rg_i (by omega) ?_
      refine rg_i (by omega) ?_
      refine And.intro (fun c47 => ?_) (fun c47 => ?_)
      · refine hK 142 _ [] T1 ?_
        refine j_blx (F := fX11) tb_X11 (nn_ _) bk_X11_layBeginning_142 bs_X11_layBeginning_142 hz (fun K hK => ?_)
        refine hK 144 [some (vR 111 0), some (vI m), some (vI (T 205 0 (23 * T 230 0 m + 9))), some (vI 0), none] [] T1 ?_
        refine j_drop [some (vR 111 0), some (vI m), none, some (vI 0), none] (fun k v hk => ?_) rfl ?_
        · match k, hk with
          | 0, hk => exact hk
          | 1, hk => exact hk
          | 2, hk => cases hk
          | 3, hk => exact hk
          | 4, hk => cases hk
          | k + 5, hk => cases hk
        refine c_144 _ 0 T1 (Nat.le_refl _) ?_ ?_ ?_ ?_ ?_ ?_
        · exact fr_t (fr_0 _ _) (fr_s hf_17 rfl)
        · exact fm1
        · exact so1
        · intro j a b c
          exact y1 j a (by omega) c
        · intro j a b
          exact g1 j a (by omega)
        · omega
      · refine iy_i (by omega) (by omega) ?_
        refine x_nm (fun U48 hU48 => ?_)
        have e49 := up_f hU48
        refine hK 36 [some (vR 111 0), some (vI m), some (vI (T 205 0 (23 * T 230 0 m + 9))), some (vI sh), some (vI 0)] [] U48 ?_
        refine c_36 _ 0 U48 (Nat.le_refl _) ?_ ?_ ?_ ?_ ?_ ?_
        · exact fr_u (fr_t (fr_0 _ _) (fr_s hf_17 rfl)) hU48 rfl
        · exact fm_f (fm1) hU48 (by omega)
        · exact so_f (ws := [(244, [])]) (so1) (fr_u (fr_0 _ _) hU48 rfl) ⟨fun _ => rfl, fun _ => rfl, fun _ => rfl⟩
        · intro j a b c
          rw [up_k hU48 (by exact Nat.ne_of_beq_eq_false rfl) 0 j]
          exact y1 j a (by omega) c
        · intro j a b
          by_cases z : j = sh
          · rw [z, up_f hU48]; omega
          · rw [up_g hU48 (fun y => z y.2.2)]; exact g1 j a (by omega)
        · omega
  refine j_blx (F := fX11) tb_X11 (nn_ _) bk_X11_layBeginning_0 bs_X11_layBeginning_0 hz (fun K hK => ?_)
  refine ix_i (by omega) ?_
  intro b50 b50b
  refine hK 9 _ [vI 9, vI (T 230 0 m), vR 111 0] T ?_
  refine j_callV (y := yX11_rule0) (Yc := zX11_rule0) (rest := []) [vI (T 230 0 m), vI 9] (ct_X11_rule0 (T := T) (by omega) (by omega)) cl_X11_321 (qd_c (by decide +kernel)) (nn_ _) rfl (rf_of rfl) (Nat.le_of_ble_eq_true rfl) (Nat.le_of_ble_eq_true rfl) (Nat.le_of_ble_eq_true rfl) rfl ?_
  rintro _ _ ⟨rfl, rfl⟩
  show J_ zX11_layBeginning T (po_X11_layBeginning T m) 0 0 12 _ [vI (T 205 0 (23 * (T 230 0 m) + 9))] T
  refine j_blx (F := fX11) tb_X11 (nn_ _) bk_X11_layBeginning_12 bs_X11_layBeginning_12 hz (fun K hK => ?_)
  refine rg_i (by omega) ?_
  refine hK 17 [some (vR 111 0), some (vI m), some (vI (T 205 0 (23 * (T 230 0 m) + 9))), some (vI (2 * m)), none] [] T ?_
  refine c_17 _ (2 * m) T (Nat.le_refl _) ?_ ?_ ?_ ?_ ?_ ?_
  · exact fr_0 _ _
  · exact hfm
  · exact so_r
  · intro j a b; omega
  · intro j a b; omega
  · omega
abbrev cX11_start : ByteArray := prog_13_method_48_code
def yX11_start : MethodName := ⟨RX11, "start", "(I)I"⟩
def zX11_start : Zm := (RX11, cX11_start, 3, (some .int), { frames := 2, cells := 0, slots := 0, locals := 46 })
theorem bk_X11_start_0 : ck_ fX11 (some .int) cX11_start 0 [.iload 1, .aload 0, .tableswitch 0 11 29 #[]] 5 = true := qck_r (nn_ _) (by decide +kernel)
theorem bs_X11_start_0 {P : Zt → Option Zv → Prop} (K : Int → Zl → List Zv → Zt → Prop) : sx_ K P [.iload 1, .aload 0, .tableswitch 0 11 29 #[]] 5 = x_iload 1 (x_aload 0 (x_g0 111 29 0 400 (K 5))) := ((xe_iload 1).trans (congrArg (x_iload 1) ((xe_aload 0).trans (congrArg (x_aload 0) ((xe_g0 (kk := 111) rfl tl_11_29).trans (congrArg (x_g0 111 29 0 400) xe_nil))))))
theorem bk_X11_start_8 : ck_ fX11 (some .int) cX11_start 8 [.ifCond .ne 14, .iconst (-2), .ireturn] 14 = true := qck_r (nn_ _) (by decide +kernel)
theorem bs_X11_start_8 {P : Zt → Option Zv → Prop} (K : Int → Zl → List Zv → Zt → Prop) : sx_ K P [.ifCond .ne 14, .iconst (-2), .ireturn] 14 = x_ifCond .ne 14 K (x_iconst (-2) (x_ireturn P)) := ((xe_ifCond .ne 14).trans (congrArg (x_ifCond .ne 14 K) ((xe_iconst (-2)).trans (congrArg (x_iconst (-2)) (xe_ireturn)))))
theorem bk_X11_start_14 : ck_ fX11 (some .int) cX11_start 14 [.aload 0, .aload 0, .tableswitch 0 11 30 #[], .iload 1, .iaload, .iconst 9] 23 = true := qck_r (nn_ _) (by decide +kernel)
theorem bs_X11_start_14 {P : Zt → Option Zv → Prop} (K : Int → Zl → List Zv → Zt → Prop) : sx_ K P [.aload 0, .aload 0, .tableswitch 0 11 30 #[], .iload 1, .iaload, .iconst 9] 23 = x_aload 0 (x_aload 0 (x_g1 111 230 (x_iload 1 (x_iaload (x_iconst 9 (K 23)))))) := ((xe_aload 0).trans (congrArg (x_aload 0) ((xe_aload 0).trans (congrArg (x_aload 0) ((xe_g1 (kk := 111) rfl tl_11_30).trans (congrArg (x_g1 111 230) ((xe_iload 1).trans (congrArg (x_iload 1) ((xe_iaload).trans (congrArg (x_iaload) ((xe_iconst 9).trans (congrArg (x_iconst 9) xe_nil))))))))))))
theorem bk_X11_start_26 : ck_ fX11 (some .int) cX11_start 26 [.istore 2, .aload 0, .tableswitch 0 11 35 #[], .iload 1, .iaload, .ifCond .ne 75, .aload 0, .tableswitch 0 11 34 #[], .iload 1, .iaload, .aload 0, .tableswitch 0 11 3 #[], .if_icmp .ne 75, .aload 0, .tableswitch 0 11 39 #[], .iconst 2, .iload 1, .imul, .iaload, .iload 2, .if_icmp .lt 75, .aload 0, .tableswitch 0 11 39 #[], .iconst 2, .iload 1, .imul, .iconst 1, .iadd, .iaload, .iload 2, .if_icmp .ge 78, .iconst (-4), .ireturn] 78 = true := qck_r (nn_ _) (by decide +kernel)
theorem bs_X11_start_26 {P : Zt → Option Zv → Prop} (K : Int → Zl → List Zv → Zt → Prop) : sx_ K P [.istore 2, .aload 0, .tableswitch 0 11 35 #[], .iload 1, .iaload, .ifCond .ne 75, .aload 0, .tableswitch 0 11 34 #[], .iload 1, .iaload, .aload 0, .tableswitch 0 11 3 #[], .if_icmp .ne 75, .aload 0, .tableswitch 0 11 39 #[], .iconst 2, .iload 1, .imul, .iaload, .iload 2, .if_icmp .lt 75, .aload 0, .tableswitch 0 11 39 #[], .iconst 2, .iload 1, .imul, .iconst 1, .iadd, .iaload, .iload 2, .if_icmp .ge 78, .iconst (-4), .ireturn] 78 = x_istore 2 (x_aload 0 (x_g1 111 235 (x_iload 1 (x_iaload (x_ifCond .ne 75 K (x_aload 0 (x_g1 111 234 (x_iload 1 (x_iaload (x_aload 0 (x_g0 111 3 0 999 (x_if_icmp .ne 75 K (x_aload 0 (x_g1 111 239 (x_iconst 2 (x_iload 1 (x_imul (x_iaload (x_iload 2 (x_if_icmp .lt 75 K (x_aload 0 (x_g1 111 239 (x_iconst 2 (x_iload 1 (x_imul (x_iconst 1 (x_iadd (x_iaload (x_iload 2 (x_if_icmp .ge 78 K (x_iconst (-4) (x_ireturn P)))))))))))))))))))))))))))))))) := ((xe_istore 2).trans (congrArg (x_istore 2) ((xe_aload 0).trans (congrArg (x_aload 0) ((xe_g1 (kk := 111) rfl tl_11_35).trans (congrArg (x_g1 111 235) ((xe_iload 1).trans (congrArg (x_iload 1) ((xe_iaload).trans (congrArg (x_iaload) ((xe_ifCond .ne 75).trans (congrArg (x_ifCond .ne 75 K) ((xe_aload 0).trans (congrArg (x_aload 0) ((xe_g1 (kk := 111) rfl tl_11_34).trans (congrArg (x_g1 111 234) ((xe_iload 1).trans (congrArg (x_iload 1) ((xe_iaload).trans (congrArg (x_iaload) ((xe_aload 0).trans (congrArg (x_aload 0) ((xe_g0 (kk := 111) rfl tl_11_3).trans (congrArg (x_g0 111 3 0 999) ((xe_if_icmp .ne 75).trans (congrArg (x_if_icmp .ne 75 K) ((xe_aload 0).trans (congrArg (x_aload 0) ((xe_g1 (kk := 111) rfl tl_11_39).trans (congrArg (x_g1 111 239) ((xe_iconst 2).trans (congrArg (x_iconst 2) ((xe_iload 1).trans (congrArg (x_iload 1) ((xe_imul).trans (congrArg (x_imul) ((xe_iaload).trans (congrArg (x_iaload) ((xe_iload 2).trans (congrArg (x_iload 2) ((xe_if_icmp .lt 75).trans (congrArg (x_if_icmp .lt 75 K) ((xe_aload 0).trans (congrArg (x_aload 0) ((xe_g1 (kk := 111) rfl tl_11_39).trans (congrArg (x_g1 111 239) ((xe_iconst 2).trans (congrArg (x_iconst 2) ((xe_iload 1).trans (congrArg (x_iload 1) ((xe_imul).trans (congrArg (x_imul) ((xe_iconst 1).trans (congrArg (x_iconst 1) ((xe_iadd).trans (congrArg (x_iadd) ((xe_iaload).trans (congrArg (x_iaload) ((xe_iload 2).trans (congrArg (x_iload 2) ((xe_if_icmp .ge 78).trans (congrArg (x_if_icmp .ge 78 K) ((xe_iconst (-4)).trans (congrArg (x_iconst (-4)) (xe_ireturn)))))))))))))))))))))))))))))))))))))))))))))))))))))))))))))))))
theorem bk_X11_start_75 : ck_ fX11 (some .int) cX11_start 75 [.iconst (-4), .ireturn] 78 = true := qck_r (nn_ _) (by decide +kernel)
theorem bs_X11_start_75 {P : Zt → Option Zv → Prop} (K : Int → Zl → List Zv → Zt → Prop) : sx_ K P [.iconst (-4), .ireturn] 78 = x_iconst (-4) (x_ireturn P) := ((xe_iconst (-4)).trans (congrArg (x_iconst (-4)) (xe_ireturn)))
theorem bk_X11_start_78 : ck_ fX11 (some .int) cX11_start 78 [.aload 0, .iload 1] 80 = true := qck_r (nn_ _) (by decide +kernel)
theorem bs_X11_start_78 {P : Zt → Option Zv → Prop} (K : Int → Zl → List Zv → Zt → Prop) : sx_ K P [.aload 0, .iload 1] 80 = x_aload 0 (x_iload 1 (K 80)) := ((xe_aload 0).trans (congrArg (x_aload 0) ((xe_iload 1).trans (congrArg (x_iload 1) xe_nil))))
set_option maxRecDepth 100000 in
theorem cl_X11_390 : cv_ RX11 390 yX11_layBeginning zX11_layBeginning 11 1 := ⟨gi_V (lw_b9 27 (by decide +kernel) rfl : Cond.methodLink RX11 390 yX11_layBeginning ∈ lw_g) (lw_b9 29 (by decide +kernel) rfl : Cond.instanceMethod yX11_layBeginning ∈ lw_g) (lw_sel 31 rfl : Cond.selects yX11_layBeginning.cls yX11_layBeginning yX11_layBeginning ∈ lw_g) (lw_b1 10 (by decide +kernel) rfl : Cond.initialized yX11_layBeginning.cls ∈ lw_g) (lw_b9 30 rfl rfl : Cond.code yX11_layBeginning cX11_layBeginning 5 none ∈ lw_g), ⟨by decide, by decide, by decide +kernel⟩, ⟨_, _, rfl⟩⟩
theorem bk_X11_start_83 : ck_ fX11 (some .int) cX11_start 83 [.iconst 1, .ireturn] 85 = true := qck_r (nn_ _) (by decide +kernel)
theorem bs_X11_start_83 {P : Zt → Option Zv → Prop} (K : Int → Zl → List Zv → Zt → Prop) : sx_ K P [.iconst 1, .ireturn] 85 = x_iconst 1 (x_ireturn P) := ((xe_iconst 1).trans (congrArg (x_iconst 1) (xe_ireturn)))
abbrev po_X11_start (T : Zt) (m : Int) : Zt → Option Zv → Prop := fun T' r => ∃ x : Int, r = some (vI x) ∧ fr_ [(244, []), (241, []), (242, []), (243, []), (245, []), (246, []), (236, []), (237, []), (235, [])] T T' ∧ (FM_ T' ∧ ZS_ T' ∧ GX_ T' (-1))
set_option maxHeartbeats 4000000 in
theorem ct_X11_start {T : Zt} {m : Int} (hmc : MC_ T) (hri : RI_ T) (hfm : FM_ T) (hzs : ZS_ T) (hgs : GX_ T (-1)) : Ct_ yX11_start zX11_start T [vR 111 0, vI m] (po_X11_start T m) := by
  refine ct_of pn_11 rfl rfl (Nat.le_of_ble_eq_true rfl) (fun hT hav => ?_)
  have hr_m : -2147483648 ≤ m ∧ m ≤ 2147483647 := hav (vI m) (by simp)
  have hz : zX11_start.2.2.2.1 = some .boolean → ∀ (T' : Zt) (x : Int), po_X11_start T m T' (some (vI x)) → 0 ≤ x ∧ x ≤ 1 := fun h => by cases h
  have hb_29 : 0 ≤ T 111 0 29 ∧ T 111 0 29 ≤ 400 := bd_f hT 111 29 (by decide +kernel : (tf_ 111)[29]? = some (0, 0, 0, 400)) 0
  have hb_6 : 0 ≤ T 111 0 6 ∧ T 111 0 6 ≤ 4 := bd_f hT 111 6 (by decide +kernel : (tf_ 111)[6]? = some (0, 0, 0, 4)) 0
  show J_ zX11_start T (po_X11_start T m) 0 0 0 [some (vR 111 0), some (vI m), none] [] T
  refine j_blx (F := fX11) tb_X11 (nn_ _) bk_X11_start_0 bs_X11_start_0 hz (fun K hK => ?_)
  intro b1 b1b
  refine hK 5 _ [vI (T 111 0 29), vI m] T ?_
  refine j_callS (y := yX11_isOf) (Yc := zX11_isOf) (rest := []) [vI m, vI (T 111 0 29)] (ct_X11_isOf (T := T) (by omega)) cl_X11_317 (qd_c (by decide +kernel)) (nn_ _) rfl (rf_of rfl) (Nat.le_of_ble_eq_true rfl) (Nat.le_of_ble_eq_true rfl) (Nat.le_of_ble_eq_true rfl) rfl ?_
  rintro _ _ ⟨rfl, x2, rfl, hx2⟩
  show J_ zX11_start T (po_X11_start T m) 0 0 8 _ [vI x2] T
  refine j_blx (F := fX11) tb_X11 (nn_ _) bk_X11_start_8 bs_X11_start_8 hz (fun K hK => ?_)
  refine And.intro (fun c3 => ?_) (fun c3 => ?_)
  · refine hK 14 _ [] T ?_
    refine j_blx (F := fX11) tb_X11 (nn_ _) bk_X11_start_14 bs_X11_start_14 hz (fun K hK => ?_)
    refine ix_i (by omega) ?_
    intro b4 b4b
    refine hK 23 _ [vI 9, vI (T 230 0 m), vR 111 0] T ?_
    refine j_callV (y := yX11_rule0) (Yc := zX11_rule0) (rest := []) [vI (T 230 0 m), vI 9] (ct_X11_rule0 (T := T) (by omega) (by omega)) cl_X11_321 (qd_c (by decide +kernel)) (nn_ _) rfl (rf_of rfl) (Nat.le_of_ble_eq_true rfl) (Nat.le_of_ble_eq_true rfl) (Nat.le_of_ble_eq_true rfl) rfl ?_
    rintro _ _ ⟨rfl, rfl⟩
    show J_ zX11_start T (po_X11_start T m) 0 0 26 _ [vI (T 205 0 (23 * (T 230 0 m) + 9))] T
    refine j_blx (F := fX11) tb_X11 (nn_ _) bk_X11_start_26 bs_X11_start_26 hz (fun K hK => ?_)
    refine ix_i (by omega) ?_
    intro b5 b5b
    refine And.intro (fun c6 => ?_) (fun c6 => ?_)
    · refine hK 75 [some (vR 111 0), some (vI m), some (vI (T 205 0 (23 * (T 230 0 m) + 9)))] [] T ?_
      refine j_blx (F := fX11) tb_X11 (nn_ _) bk_X11_start_75 bs_X11_start_75 hz (fun K hK => ?_)
      refine (show po_X11_start T m T (some (vI (-4))) from ?_)
      exact ⟨_, rfl, fr_0 _ _, hfm, hzs, hgs⟩
    · refine ix_i (by omega) ?_
      intro b7 b7b
      intro b8 b8b
      refine And.intro (fun c9 => ?_) (fun c9 => ?_)
      · refine hK 75 _ [] T ?_
        refine j_blx (F := fX11) tb_X11 (nn_ _) bk_X11_start_75 bs_X11_start_75 hz (fun K hK => ?_)
        refine (show po_X11_start T m T (some (vI (-4))) from ?_)
        exact ⟨_, rfl, fr_0 _ _, hfm, hzs, hgs⟩
      · refine rg_i (by omega) ?_
        refine ix_i (by omega) ?_
        intro b10 b10b
        refine And.intro (fun c11 => ?_) (fun c11 => ?_)
        · refine hK 75 _ [] T ?_
          refine j_blx (F := fX11) tb_X11 (nn_ _) bk_X11_start_75 bs_X11_start_75 hz (fun K hK => ?_)
          refine (show po_X11_start T m T (some (vI (-4))) from ?_)
          exact ⟨_, rfl, fr_0 _ _, hfm, hzs, hgs⟩
        · refine rg_i (by omega) ?_
          refine rg_i (by omega) ?_
          refine ix_i (by omega) ?_
          intro b12 b12b
          refine And.intro (fun c13 => ?_) (fun c13 => ?_)
          · refine hK 78 _ [] T ?_
            refine j_blx (F := fX11) tb_X11 (nn_ _) bk_X11_start_78 bs_X11_start_78 hz (fun K hK => ?_)
            refine hK 80 _ [vI m, vR 111 0] T ?_
            refine j_callV (y := yX11_layBeginning) (Yc := zX11_layBeginning) (rest := []) [vI m] (ct_X11_layBeginning (T := T) (by omega) (hmc) (hri) (hfm) (hzs)) cl_X11_390 (qd_c (by decide +kernel)) (nn_ _) rfl (rf_of rfl) (Nat.le_of_ble_eq_true rfl) (Nat.le_of_ble_eq_true rfl) (Nat.le_of_ble_eq_true rfl) rfl ?_
            rintro U14 _ ⟨rfl, fU14, ⟨qU14, qU14o, qU14b⟩⟩
            show J_ zX11_start T (po_X11_start T m) 0 0 83 _ [] U14
            refine j_blx (F := fX11) tb_X11 (nn_ _) bk_X11_start_83 bs_X11_start_83 hz (fun K hK => ?_)
            refine (show po_X11_start T m U14 (some (vI 1)) from ?_)
            have ff : fr_ [(244, []), (241, []), (242, []), (243, []), (245, []), (246, []), (236, []), (237, []), (235, [])] T U14 := fr_t (fr_0 _ _) (fr_s fU14 rfl)
            have so5 : SO_ T U14 m := so_t (so_r) qU14o (fun j => rfl)
            have hrm : 0 ≤ T 254 0 m ∧ T 254 0 m ≤ 3000 := bd_a hT 254 (by decide +kernel : ta_ 254 = some (1, some 400, 0, 3000)) 0 (by omega)
            exact ⟨_, rfl, fr_s ff rfl, qU14, zs_o hzs so5 (fun j => ff 239 0 j rfl), gx_o (gx_x hgs) so5 (sb1_m (qU14b) (by rw [ff 254 0 m rfl]; omega)) (fun j _ => ff 254 0 j rfl)⟩
          · refine (show po_X11_start T m T (some (vI (-4))) from ?_)
            exact ⟨_, rfl, fr_0 _ _, hfm, hzs, hgs⟩
  · refine (show po_X11_start T m T (some (vI (-2))) from ?_)
    exact ⟨_, rfl, fr_0 _ _, hfm, hzs, hgs⟩
abbrev cX11_walkOver : ByteArray := prog_13_method_49_code
def yX11_walkOver : MethodName := ⟨RX11, "walkOver", "(II)I"⟩
def zX11_walkOver : Zm := (RX11, cX11_walkOver, 3, (some .int), { frames := 2, cells := 0, slots := 0, locals := 43 })
theorem bk_X11_walkOver_0 : ck_ fX11 (some .int) cX11_walkOver 0 [.iload 1, .aload 0, .tableswitch 0 11 29 #[]] 5 = true := qck_r (nn_ _) (by decide +kernel)
theorem bs_X11_walkOver_0 {P : Zt → Option Zv → Prop} (K : Int → Zl → List Zv → Zt → Prop) : sx_ K P [.iload 1, .aload 0, .tableswitch 0 11 29 #[]] 5 = x_iload 1 (x_aload 0 (x_g0 111 29 0 400 (K 5))) := ((xe_iload 1).trans (congrArg (x_iload 1) ((xe_aload 0).trans (congrArg (x_aload 0) ((xe_g0 (kk := 111) rfl tl_11_29).trans (congrArg (x_g0 111 29 0 400) xe_nil))))))
theorem bk_X11_walkOver_8 : ck_ fX11 (some .int) cX11_walkOver 8 [.ifCond .ne 14, .iconst (-2), .ireturn] 14 = true := qck_r (nn_ _) (by decide +kernel)
theorem bs_X11_walkOver_8 {P : Zt → Option Zv → Prop} (K : Int → Zl → List Zv → Zt → Prop) : sx_ K P [.ifCond .ne 14, .iconst (-2), .ireturn] 14 = x_ifCond .ne 14 K (x_iconst (-2) (x_ireturn P)) := ((xe_ifCond .ne 14).trans (congrArg (x_ifCond .ne 14 K) ((xe_iconst (-2)).trans (congrArg (x_iconst (-2)) (xe_ireturn)))))
theorem bk_X11_walkOver_14 : ck_ fX11 (some .int) cX11_walkOver 14 [.iload 2, .iconst 0, .iconst 1] 17 = true := qck_r (nn_ _) (by decide +kernel)
theorem bs_X11_walkOver_14 {P : Zt → Option Zv → Prop} (K : Int → Zl → List Zv → Zt → Prop) : sx_ K P [.iload 2, .iconst 0, .iconst 1] 17 = x_iload 2 (x_iconst 0 (x_iconst 1 (K 17))) := ((xe_iload 2).trans (congrArg (x_iload 2) ((xe_iconst 0).trans (congrArg (x_iconst 0) ((xe_iconst 1).trans (congrArg (x_iconst 1) xe_nil))))))
theorem bk_X11_walkOver_20 : ck_ fX11 (some .int) cX11_walkOver 20 [.ifCond .ne 26, .iconst (-3), .ireturn] 26 = true := qck_r (nn_ _) (by decide +kernel)
theorem bs_X11_walkOver_20 {P : Zt → Option Zv → Prop} (K : Int → Zl → List Zv → Zt → Prop) : sx_ K P [.ifCond .ne 26, .iconst (-3), .ireturn] 26 = x_ifCond .ne 26 K (x_iconst (-3) (x_ireturn P)) := ((xe_ifCond .ne 26).trans (congrArg (x_ifCond .ne 26 K) ((xe_iconst (-3)).trans (congrArg (x_iconst (-3)) (xe_ireturn)))))
theorem bk_X11_walkOver_26 : ck_ fX11 (some .int) cX11_walkOver 26 [.aload 0, .tableswitch 0 11 35 #[], .iload 1, .iaload, .ifCond .ne 48, .aload 0, .tableswitch 0 11 34 #[], .iload 1, .iaload, .aload 0, .tableswitch 0 11 3 #[], .if_icmp .le 51, .iconst (-4), .ireturn] 51 = true := qck_r (nn_ _) (by decide +kernel)
theorem bs_X11_walkOver_26 {P : Zt → Option Zv → Prop} (K : Int → Zl → List Zv → Zt → Prop) : sx_ K P [.aload 0, .tableswitch 0 11 35 #[], .iload 1, .iaload, .ifCond .ne 48, .aload 0, .tableswitch 0 11 34 #[], .iload 1, .iaload, .aload 0, .tableswitch 0 11 3 #[], .if_icmp .le 51, .iconst (-4), .ireturn] 51 = x_aload 0 (x_g1 111 235 (x_iload 1 (x_iaload (x_ifCond .ne 48 K (x_aload 0 (x_g1 111 234 (x_iload 1 (x_iaload (x_aload 0 (x_g0 111 3 0 999 (x_if_icmp .le 51 K (x_iconst (-4) (x_ireturn P))))))))))))) := ((xe_aload 0).trans (congrArg (x_aload 0) ((xe_g1 (kk := 111) rfl tl_11_35).trans (congrArg (x_g1 111 235) ((xe_iload 1).trans (congrArg (x_iload 1) ((xe_iaload).trans (congrArg (x_iaload) ((xe_ifCond .ne 48).trans (congrArg (x_ifCond .ne 48 K) ((xe_aload 0).trans (congrArg (x_aload 0) ((xe_g1 (kk := 111) rfl tl_11_34).trans (congrArg (x_g1 111 234) ((xe_iload 1).trans (congrArg (x_iload 1) ((xe_iaload).trans (congrArg (x_iaload) ((xe_aload 0).trans (congrArg (x_aload 0) ((xe_g0 (kk := 111) rfl tl_11_3).trans (congrArg (x_g0 111 3 0 999) ((xe_if_icmp .le 51).trans (congrArg (x_if_icmp .le 51 K) ((xe_iconst (-4)).trans (congrArg (x_iconst (-4)) (xe_ireturn)))))))))))))))))))))))))))
theorem bk_X11_walkOver_48 : ck_ fX11 (some .int) cX11_walkOver 48 [.iconst (-4), .ireturn] 51 = true := qck_r (nn_ _) (by decide +kernel)
theorem bs_X11_walkOver_48 {P : Zt → Option Zv → Prop} (K : Int → Zl → List Zv → Zt → Prop) : sx_ K P [.iconst (-4), .ireturn] 51 = x_iconst (-4) (x_ireturn P) := ((xe_iconst (-4)).trans (congrArg (x_iconst (-4)) (xe_ireturn)))
theorem bk_X11_walkOver_51 : ck_ fX11 (some .int) cX11_walkOver 51 [.aload 0, .tableswitch 0 11 35 #[], .iload 1, .iconst 3, .iastore, .aload 0, .tableswitch 0 11 36 #[], .iload 1, .iload 2, .ifCond .ne 71, .iconst 0, .goto 83] 71 = true := qck_r (nn_ _) (by decide +kernel)
theorem bs_X11_walkOver_51 {P : Zt → Option Zv → Prop} (K : Int → Zl → List Zv → Zt → Prop) : sx_ K P [.aload 0, .tableswitch 0 11 35 #[], .iload 1, .iconst 3, .iastore, .aload 0, .tableswitch 0 11 36 #[], .iload 1, .iload 2, .ifCond .ne 71, .iconst 0, .goto 83] 71 = x_aload 0 (x_g1 111 235 (x_iload 1 (x_iconst 3 (x_iastore (x_aload 0 (x_g1 111 236 (x_iload 1 (x_iload 2 (x_ifCond .ne 71 K (x_iconst 0 (x_goto 83 K))))))))))) := ((xe_aload 0).trans (congrArg (x_aload 0) ((xe_g1 (kk := 111) rfl tl_11_35).trans (congrArg (x_g1 111 235) ((xe_iload 1).trans (congrArg (x_iload 1) ((xe_iconst 3).trans (congrArg (x_iconst 3) ((xe_iastore).trans (congrArg (x_iastore) ((xe_aload 0).trans (congrArg (x_aload 0) ((xe_g1 (kk := 111) rfl tl_11_36).trans (congrArg (x_g1 111 236) ((xe_iload 1).trans (congrArg (x_iload 1) ((xe_iload 2).trans (congrArg (x_iload 2) ((xe_ifCond .ne 71).trans (congrArg (x_ifCond .ne 71 K) ((xe_iconst 0).trans (congrArg (x_iconst 0) (xe_goto 83)))))))))))))))))))))))
theorem bk_X11_walkOver_71 : ck_ fX11 (some .int) cX11_walkOver 71 [.aload 0, .aload 0, .tableswitch 0 11 30 #[], .iload 1, .iaload, .iconst 12] 80 = true := qck_r (nn_ _) (by decide +kernel)
theorem bs_X11_walkOver_71 {P : Zt → Option Zv → Prop} (K : Int → Zl → List Zv → Zt → Prop) : sx_ K P [.aload 0, .aload 0, .tableswitch 0 11 30 #[], .iload 1, .iaload, .iconst 12] 80 = x_aload 0 (x_aload 0 (x_g1 111 230 (x_iload 1 (x_iaload (x_iconst 12 (K 80)))))) := ((xe_aload 0).trans (congrArg (x_aload 0) ((xe_aload 0).trans (congrArg (x_aload 0) ((xe_g1 (kk := 111) rfl tl_11_30).trans (congrArg (x_g1 111 230) ((xe_iload 1).trans (congrArg (x_iload 1) ((xe_iaload).trans (congrArg (x_iaload) ((xe_iconst 12).trans (congrArg (x_iconst 12) xe_nil))))))))))))
theorem bk_X11_walkOver_83 : ck_ fX11 (some .int) cX11_walkOver 83 [.iastore, .aload 0, .tableswitch 0 11 37 #[], .iload 1, .iload 2, .ifCond .ne 108, .aload 0, .aload 0, .tableswitch 0 11 30 #[], .iload 1, .iaload, .iconst 12] 102 = true := qck_r (nn_ _) (by decide +kernel)
theorem bs_X11_walkOver_83 {P : Zt → Option Zv → Prop} (K : Int → Zl → List Zv → Zt → Prop) : sx_ K P [.iastore, .aload 0, .tableswitch 0 11 37 #[], .iload 1, .iload 2, .ifCond .ne 108, .aload 0, .aload 0, .tableswitch 0 11 30 #[], .iload 1, .iaload, .iconst 12] 102 = x_iastore (x_aload 0 (x_g1 111 237 (x_iload 1 (x_iload 2 (x_ifCond .ne 108 K (x_aload 0 (x_aload 0 (x_g1 111 230 (x_iload 1 (x_iaload (x_iconst 12 (K 102)))))))))))) := ((xe_iastore).trans (congrArg (x_iastore) ((xe_aload 0).trans (congrArg (x_aload 0) ((xe_g1 (kk := 111) rfl tl_11_37).trans (congrArg (x_g1 111 237) ((xe_iload 1).trans (congrArg (x_iload 1) ((xe_iload 2).trans (congrArg (x_iload 2) ((xe_ifCond .ne 108).trans (congrArg (x_ifCond .ne 108 K) ((xe_aload 0).trans (congrArg (x_aload 0) ((xe_aload 0).trans (congrArg (x_aload 0) ((xe_g1 (kk := 111) rfl tl_11_30).trans (congrArg (x_g1 111 230) ((xe_iload 1).trans (congrArg (x_iload 1) ((xe_iaload).trans (congrArg (x_iaload) ((xe_iconst 12).trans (congrArg (x_iconst 12) xe_nil))))))))))))))))))))))))
theorem bk_X11_walkOver_108 : ck_ fX11 (some .int) cX11_walkOver 108 [.iconst 0, .iastore, .iconst 1, .ireturn] 112 = true := qck_r (nn_ _) (by decide +kernel)
theorem bs_X11_walkOver_108 {P : Zt → Option Zv → Prop} (K : Int → Zl → List Zv → Zt → Prop) : sx_ K P [.iconst 0, .iastore, .iconst 1, .ireturn] 112 = x_iconst 0 (x_iastore (x_iconst 1 (x_ireturn P))) := ((xe_iconst 0).trans (congrArg (x_iconst 0) ((xe_iastore).trans (congrArg (x_iastore) ((xe_iconst 1).trans (congrArg (x_iconst 1) (xe_ireturn)))))))
theorem bk_X11_walkOver_105 : ck_ fX11 (some .int) cX11_walkOver 105 [.goto 109] 108 = true := qck_r (nn_ _) (by decide +kernel)
theorem bs_X11_walkOver_105 {P : Zt → Option Zv → Prop} (K : Int → Zl → List Zv → Zt → Prop) : sx_ K P [.goto 109] 108 = x_goto 109 K := (xe_goto 109)
theorem bk_X11_walkOver_109 : ck_ fX11 (some .int) cX11_walkOver 109 [.iastore, .iconst 1, .ireturn] 112 = true := qck_r (nn_ _) (by decide +kernel)
theorem bs_X11_walkOver_109 {P : Zt → Option Zv → Prop} (K : Int → Zl → List Zv → Zt → Prop) : sx_ K P [.iastore, .iconst 1, .ireturn] 112 = x_iastore (x_iconst 1 (x_ireturn P)) := ((xe_iastore).trans (congrArg (x_iastore) ((xe_iconst 1).trans (congrArg (x_iconst 1) (xe_ireturn)))))
abbrev po_X11_walkOver (T : Zt) (m s : Int) : Zt → Option Zv → Prop := fun T' r => ∃ x : Int, r = some (vI x) ∧ fr_ [(235, []), (236, []), (237, [])] T T' ∧ (FM_ T' ∧ ZS_ T' ∧ GX_ T' (-1))
set_option maxHeartbeats 4000000 in
theorem ct_X11_walkOver {T : Zt} {m s : Int} (hmc : MC_ T) (hri : RI_ T) (hfm : FM_ T) (hzs : ZS_ T) (hgs : GX_ T (-1)) : Ct_ yX11_walkOver zX11_walkOver T [vR 111 0, vI m, vI s] (po_X11_walkOver T m s) := by
  refine ct_of pn_11 rfl rfl (Nat.le_of_ble_eq_true rfl) (fun hT hav => ?_)
  have hr_m : -2147483648 ≤ m ∧ m ≤ 2147483647 := hav (vI m) (by simp)
  have hr_s : -2147483648 ≤ s ∧ s ≤ 2147483647 := hav (vI s) (by simp)
  have hz : zX11_walkOver.2.2.2.1 = some .boolean → ∀ (T' : Zt) (x : Int), po_X11_walkOver T m s T' (some (vI x)) → 0 ≤ x ∧ x ≤ 1 := fun h => by cases h
  have hb_29 : 0 ≤ T 111 0 29 ∧ T 111 0 29 ≤ 400 := bd_f hT 111 29 (by decide +kernel : (tf_ 111)[29]? = some (0, 0, 0, 400)) 0
  have hb_6 : 0 ≤ T 111 0 6 ∧ T 111 0 6 ≤ 4 := bd_f hT 111 6 (by decide +kernel : (tf_ 111)[6]? = some (0, 0, 0, 4)) 0
  show J_ zX11_walkOver T (po_X11_walkOver T m s) 0 0 0 [some (vR 111 0), some (vI m), some (vI s)] [] T
  refine j_blx (F := fX11) tb_X11 (nn_ _) bk_X11_walkOver_0 bs_X11_walkOver_0 hz (fun K hK => ?_)
  intro b1 b1b
  refine hK 5 _ [vI (T 111 0 29), vI m] T ?_
  refine j_callS (y := yX11_isOf) (Yc := zX11_isOf) (rest := []) [vI m, vI (T 111 0 29)] (ct_X11_isOf (T := T) (by omega)) cl_X11_317 (qd_c (by decide +kernel)) (nn_ _) rfl (rf_of rfl) (Nat.le_of_ble_eq_true rfl) (Nat.le_of_ble_eq_true rfl) (Nat.le_of_ble_eq_true rfl) rfl ?_
  rintro _ _ ⟨rfl, x2, rfl, hx2⟩
  show J_ zX11_walkOver T (po_X11_walkOver T m s) 0 0 8 _ [vI x2] T
  refine j_blx (F := fX11) tb_X11 (nn_ _) bk_X11_walkOver_8 bs_X11_walkOver_8 hz (fun K hK => ?_)
  refine And.intro (fun c3 => ?_) (fun c3 => ?_)
  · refine hK 14 _ [] T ?_
    refine j_blx (F := fX11) tb_X11 (nn_ _) bk_X11_walkOver_14 bs_X11_walkOver_14 hz (fun K hK => ?_)
    refine hK 17 _ [vI 1, vI 0, vI s] T ?_
    refine j_callS (y := yX11_in) (Yc := zX11_in) (rest := []) [vI s, vI 0, vI 1] (ct_X11_in (T := T)) cl_X11_255 (qd_c (by decide +kernel)) (nn_ _) rfl (rf_of rfl) (Nat.le_of_ble_eq_true rfl) (Nat.le_of_ble_eq_true rfl) (Nat.le_of_ble_eq_true rfl) rfl ?_
    rintro _ _ ⟨rfl, x4, rfl, hx4⟩
    show J_ zX11_walkOver T (po_X11_walkOver T m s) 0 0 20 _ [vI x4] T
    refine j_blx (F := fX11) tb_X11 (nn_ _) bk_X11_walkOver_20 bs_X11_walkOver_20 hz (fun K hK => ?_)
    refine And.intro (fun c5 => ?_) (fun c5 => ?_)
    · refine hK 26 _ [] T ?_
      have hcm := hmc m (by omega) (by omega)
      have hcb : 0 ≤ T 230 0 m ∧ T 230 0 m ≤ 3 := bd_a hT 230 (by decide +kernel : ta_ 230 = some (1, some 400, 0, 3)) 0 (by omega)
      have hr12 : (1 : Int) ≤ T 205 0 (23 * T 230 0 m + 12) ∧ T 205 0 (23 * T 230 0 m + 12) ≤ (9 : Int) := hri (T 230 0 m) 12 (by omega) (by omega) (by omega) (by omega)
      have hsb : SB1_ T m (4 * T 254 0 m + 9) := hgs m (by omega) (by omega) (by omega)
      have hrn : 0 ≤ T 254 0 m ∧ T 254 0 m ≤ 3000 := bd_a hT 254 (by decide +kernel : ta_ 254 = some (1, some 400, 0, 3000)) 0 (by omega)
      refine j_blx (F := fX11) tb_X11 (nn_ _) bk_X11_walkOver_26 bs_X11_walkOver_26 hz (fun K hK => ?_)
      refine ix_i (by omega) ?_
      intro b6 b6b
      refine And.intro (fun c7 => ?_) (fun c7 => ?_)
      · refine hK 48 _ [] T ?_
        refine j_blx (F := fX11) tb_X11 (nn_ _) bk_X11_walkOver_48 bs_X11_walkOver_48 hz (fun K hK => ?_)
        refine (show po_X11_walkOver T m s T (some (vI (-4))) from ?_)
        exact ⟨_, rfl, fr_0 _ _, hfm, hzs, hgs⟩
      · refine ix_i (by omega) ?_
        intro b8 b8b
        intro b9 b9b
        refine And.intro (fun c10 => ?_) (fun c10 => ?_)
        · refine hK 51 _ [] T ?_
          refine j_blx (F := fX11) tb_X11 (nn_ _) bk_X11_walkOver_51 bs_X11_walkOver_51 hz (fun K hK => ?_)
          refine iy_i (by omega) (by omega) ?_
          refine x_nm (fun U11 hU11 => ?_)
          have e12 := up_f hU11
          refine And.intro (fun c13 => ?_) (fun c13 => ?_)
          · refine hK 71 _ [vI m, vR 236 0] U11 ?_
            refine j_blx (F := fX11) tb_X11 (nn_ _) bk_X11_walkOver_71 bs_X11_walkOver_71 hz (fun K hK => ?_)
            refine ix_i (by omega) ?_
            intro b14 b14b
            have e15 : U11 230 0 m = T 230 0 m := up_k hU11 (by exact Nat.ne_of_beq_eq_false rfl) 0 m
            rw [e15] at b14 b14b ⊢
            refine hK 80 _ [vI 12, vI (T 230 0 m), vR 111 0, vI m, vR 236 0] U11 ?_
            refine j_callV (y := yX11_rule0) (Yc := zX11_rule0) (rest := [vI m, vR 236 0]) [vI (T 230 0 m), vI 12] (ct_X11_rule0 (T := U11) (by omega) (by omega)) cl_X11_321 (qd_c (by decide +kernel)) (nn_ _) rfl (rf_of rfl) (Nat.le_of_ble_eq_true rfl) (Nat.le_of_ble_eq_true rfl) (Nat.le_of_ble_eq_true rfl) rfl ?_
            rintro _ _ ⟨rfl, rfl⟩
            have e16 : U11 205 0 (23 * (T 230 0 m) + 12) = T 205 0 (23 * (T 230 0 m) + 12) := up_k hU11 (by exact Nat.ne_of_beq_eq_false rfl) 0 (23 * (T 230 0 m) + 12)
            show J_ zX11_walkOver T (po_X11_walkOver T m s) 0 0 83 _ [vI (U11 205 0 (23 * (T 230 0 m) + 12)), vI m, vR 236 0] U11
            refine j_blx (F := fX11) tb_X11 (nn_ _) bk_X11_walkOver_83 bs_X11_walkOver_83 hz (fun K hK => ?_)
            refine iy_i (by omega) (by omega) ?_
            refine x_nm (fun U17 hU17 => ?_)
            have e18 := up_f hU17
            refine And.intro (fun c19 => ?_) (fun c19 => ?_)
            · refine hK 108 _ [vI m, vR 237 0] U17 ?_
              refine j_blx (F := fX11) tb_X11 (nn_ _) bk_X11_walkOver_108 bs_X11_walkOver_108 hz (fun K hK => ?_)
              refine iy_i (by omega) (by omega) ?_
              refine x_nm (fun U20 hU20 => ?_)
              have e21 := up_f hU20
              refine (show po_X11_walkOver T m s U20 (some (vI 1)) from ?_)
              have ff : fr_ [(237, []), (236, []), (235, [])] T U20 := fr_u (fr_u (fr_u (fr_0 _ _) hU11 rfl) hU17 rfl) hU20 rfl
              have so5 : SO_ T U20 m := so_1 (so_0 (so_f (ws := [(235, [])]) (so_r) (fr_u (fr_0 _ _) hU11 rfl) ⟨fun _ => rfl, fun _ => rfl, fun _ => rfl⟩) hU17) hU20
              have hrm : 0 ≤ T 254 0 m ∧ T 254 0 m ≤ 3000 := bd_a hT 254 (by decide +kernel : ta_ 254 = some (1, some 400, 0, 3000)) 0 (by omega)
              exact ⟨_, rfl, fr_s ff rfl, FM__f (ws := [(237, [])]) (FM__f (ws := [(236, [])]) (fm_w (hfm) hU11 (by decide)) (fr_u (fr_0 _ _) hU17 rfl) ⟨fun _ => rfl, fun _ => rfl, trivial⟩) (fr_u (fr_0 _ _) hU20 rfl) ⟨fun _ => rfl, fun _ => rfl, trivial⟩, zs_o hzs so5 (fun j => ff 239 0 j rfl), gx_o (gx_x hgs) so5 (sb1_m (sb1_1 (sb1_0 (sb1_f (ws := [(235, [])]) (hsb) (fr_u (fr_0 _ _) hU11 rfl) ⟨fun _ => rfl, fun _ => rfl, fun _ => rfl⟩) hU17 (by omega)) hU20 (by omega)) (by rw [ff 254 0 m rfl]; omega)) (fun j _ => ff 254 0 j rfl)⟩
            · refine ix_i (by omega) ?_
              intro b22 b22b
              have e23 : U17 230 0 m = T 230 0 m := (up_k hU17 (by exact Nat.ne_of_beq_eq_false rfl) 0 m).trans (up_k hU11 (by exact Nat.ne_of_beq_eq_false rfl) 0 m)
              rw [e23] at b22 b22b ⊢
              refine hK 102 _ [vI 12, vI (T 230 0 m), vR 111 0, vI m, vR 237 0] U17 ?_
              refine j_callV (y := yX11_rule0) (Yc := zX11_rule0) (rest := [vI m, vR 237 0]) [vI (T 230 0 m), vI 12] (ct_X11_rule0 (T := U17) (by omega) (by omega)) cl_X11_321 (qd_c (by decide +kernel)) (nn_ _) rfl (rf_of rfl) (Nat.le_of_ble_eq_true rfl) (Nat.le_of_ble_eq_true rfl) (Nat.le_of_ble_eq_true rfl) rfl ?_
              rintro _ _ ⟨rfl, rfl⟩
              have e24 : U17 205 0 (23 * (T 230 0 m) + 12) = T 205 0 (23 * (T 230 0 m) + 12) := (up_k hU17 (by exact Nat.ne_of_beq_eq_false rfl) 0 (23 * (T 230 0 m) + 12)).trans (up_k hU11 (by exact Nat.ne_of_beq_eq_false rfl) 0 (23 * (T 230 0 m) + 12))
              show J_ zX11_walkOver T (po_X11_walkOver T m s) 0 0 105 _ [vI (U17 205 0 (23 * (T 230 0 m) + 12)), vI m, vR 237 0] U17
              refine j_blx (F := fX11) tb_X11 (nn_ _) bk_X11_walkOver_105 bs_X11_walkOver_105 hz (fun K hK => ?_)
              refine hK 109 _ [vI (U17 205 0 (23 * (T 230 0 m) + 12)), vI m, vR 237 0] U17 ?_
              refine j_blx (F := fX11) tb_X11 (nn_ _) bk_X11_walkOver_109 bs_X11_walkOver_109 hz (fun K hK => ?_)
              refine iy_i (by omega) (by omega) ?_
              refine x_nm (fun U25 hU25 => ?_)
              have e26 := up_f hU25
              refine (show po_X11_walkOver T m s U25 (some (vI 1)) from ?_)
              have ff : fr_ [(237, []), (236, []), (235, [])] T U25 := fr_u (fr_u (fr_u (fr_0 _ _) hU11 rfl) hU17 rfl) hU25 rfl
              have so5 : SO_ T U25 m := so_1 (so_0 (so_f (ws := [(235, [])]) (so_r) (fr_u (fr_0 _ _) hU11 rfl) ⟨fun _ => rfl, fun _ => rfl, fun _ => rfl⟩) hU17) hU25
              have hrm : 0 ≤ T 254 0 m ∧ T 254 0 m ≤ 3000 := bd_a hT 254 (by decide +kernel : ta_ 254 = some (1, some 400, 0, 3000)) 0 (by omega)
              exact ⟨_, rfl, fr_s ff rfl, FM__f (ws := [(237, [])]) (FM__f (ws := [(236, [])]) (fm_w (hfm) hU11 (by decide)) (fr_u (fr_0 _ _) hU17 rfl) ⟨fun _ => rfl, fun _ => rfl, trivial⟩) (fr_u (fr_0 _ _) hU25 rfl) ⟨fun _ => rfl, fun _ => rfl, trivial⟩, zs_o hzs so5 (fun j => ff 239 0 j rfl), gx_o (gx_x hgs) so5 (sb1_m (sb1_1 (sb1_0 (sb1_f (ws := [(235, [])]) (hsb) (fr_u (fr_0 _ _) hU11 rfl) ⟨fun _ => rfl, fun _ => rfl, fun _ => rfl⟩) hU17 (by omega)) hU25 (by omega)) (by rw [ff 254 0 m rfl]; omega)) (fun j _ => ff 254 0 j rfl)⟩
          · refine hK 83 _ [vI 0, vI m, vR 236 0] U11 ?_
            refine j_blx (F := fX11) tb_X11 (nn_ _) bk_X11_walkOver_83 bs_X11_walkOver_83 hz (fun K hK => ?_)
            refine iy_i (by omega) (by omega) ?_
            refine x_nm (fun U27 hU27 => ?_)
            have e28 := up_f hU27
            refine And.intro (fun c29 => ?_) (fun c29 => ?_)
            · refine hK 108 _ [vI m, vR 237 0] U27 ?_
              refine j_blx (F := fX11) tb_X11 (nn_ _) bk_X11_walkOver_108 bs_X11_walkOver_108 hz (fun K hK => ?_)
              refine iy_i (by omega) (by omega) ?_
              refine x_nm (fun U30 hU30 => ?_)
              have e31 := up_f hU30
              refine (show po_X11_walkOver T m s U30 (some (vI 1)) from ?_)
              have ff : fr_ [(237, []), (236, []), (235, [])] T U30 := fr_u (fr_u (fr_u (fr_0 _ _) hU11 rfl) hU27 rfl) hU30 rfl
              have so5 : SO_ T U30 m := so_1 (so_0 (so_f (ws := [(235, [])]) (so_r) (fr_u (fr_0 _ _) hU11 rfl) ⟨fun _ => rfl, fun _ => rfl, fun _ => rfl⟩) hU27) hU30
              have hrm : 0 ≤ T 254 0 m ∧ T 254 0 m ≤ 3000 := bd_a hT 254 (by decide +kernel : ta_ 254 = some (1, some 400, 0, 3000)) 0 (by omega)
              exact ⟨_, rfl, fr_s ff rfl, FM__f (ws := [(237, [])]) (FM__f (ws := [(236, [])]) (fm_w (hfm) hU11 (by decide)) (fr_u (fr_0 _ _) hU27 rfl) ⟨fun _ => rfl, fun _ => rfl, trivial⟩) (fr_u (fr_0 _ _) hU30 rfl) ⟨fun _ => rfl, fun _ => rfl, trivial⟩, zs_o hzs so5 (fun j => ff 239 0 j rfl), gx_o (gx_x hgs) so5 (sb1_m (sb1_1 (sb1_0 (sb1_f (ws := [(235, [])]) (hsb) (fr_u (fr_0 _ _) hU11 rfl) ⟨fun _ => rfl, fun _ => rfl, fun _ => rfl⟩) hU27 (by omega)) hU30 (by omega)) (by rw [ff 254 0 m rfl]; omega)) (fun j _ => ff 254 0 j rfl)⟩
            · refine ix_i (by omega) ?_
              intro b32 b32b
              have e33 : U27 230 0 m = T 230 0 m := (up_k hU27 (by exact Nat.ne_of_beq_eq_false rfl) 0 m).trans (up_k hU11 (by exact Nat.ne_of_beq_eq_false rfl) 0 m)
              rw [e33] at b32 b32b ⊢
              refine hK 102 _ [vI 12, vI (T 230 0 m), vR 111 0, vI m, vR 237 0] U27 ?_
              refine j_callV (y := yX11_rule0) (Yc := zX11_rule0) (rest := [vI m, vR 237 0]) [vI (T 230 0 m), vI 12] (ct_X11_rule0 (T := U27) (by omega) (by omega)) cl_X11_321 (qd_c (by decide +kernel)) (nn_ _) rfl (rf_of rfl) (Nat.le_of_ble_eq_true rfl) (Nat.le_of_ble_eq_true rfl) (Nat.le_of_ble_eq_true rfl) rfl ?_
              rintro _ _ ⟨rfl, rfl⟩
              have e34 : U27 205 0 (23 * (T 230 0 m) + 12) = T 205 0 (23 * (T 230 0 m) + 12) := (up_k hU27 (by exact Nat.ne_of_beq_eq_false rfl) 0 (23 * (T 230 0 m) + 12)).trans (up_k hU11 (by exact Nat.ne_of_beq_eq_false rfl) 0 (23 * (T 230 0 m) + 12))
              show J_ zX11_walkOver T (po_X11_walkOver T m s) 0 0 105 _ [vI (U27 205 0 (23 * (T 230 0 m) + 12)), vI m, vR 237 0] U27
              refine j_blx (F := fX11) tb_X11 (nn_ _) bk_X11_walkOver_105 bs_X11_walkOver_105 hz (fun K hK => ?_)
              refine hK 109 _ [vI (U27 205 0 (23 * (T 230 0 m) + 12)), vI m, vR 237 0] U27 ?_
              refine j_blx (F := fX11) tb_X11 (nn_ _) bk_X11_walkOver_109 bs_X11_walkOver_109 hz (fun K hK => ?_)
              refine iy_i (by omega) (by omega) ?_
              refine x_nm (fun U35 hU35 => ?_)
              have e36 := up_f hU35
              refine (show po_X11_walkOver T m s U35 (some (vI 1)) from ?_)
              have ff : fr_ [(237, []), (236, []), (235, [])] T U35 := fr_u (fr_u (fr_u (fr_0 _ _) hU11 rfl) hU27 rfl) hU35 rfl
              have so5 : SO_ T U35 m := so_1 (so_0 (so_f (ws := [(235, [])]) (so_r) (fr_u (fr_0 _ _) hU11 rfl) ⟨fun _ => rfl, fun _ => rfl, fun _ => rfl⟩) hU27) hU35
              have hrm : 0 ≤ T 254 0 m ∧ T 254 0 m ≤ 3000 := bd_a hT 254 (by decide +kernel : ta_ 254 = some (1, some 400, 0, 3000)) 0 (by omega)
              exact ⟨_, rfl, fr_s ff rfl, FM__f (ws := [(237, [])]) (FM__f (ws := [(236, [])]) (fm_w (hfm) hU11 (by decide)) (fr_u (fr_0 _ _) hU27 rfl) ⟨fun _ => rfl, fun _ => rfl, trivial⟩) (fr_u (fr_0 _ _) hU35 rfl) ⟨fun _ => rfl, fun _ => rfl, trivial⟩, zs_o hzs so5 (fun j => ff 239 0 j rfl), gx_o (gx_x hgs) so5 (sb1_m (sb1_1 (sb1_0 (sb1_f (ws := [(235, [])]) (hsb) (fr_u (fr_0 _ _) hU11 rfl) ⟨fun _ => rfl, fun _ => rfl, fun _ => rfl⟩) hU27 (by omega)) hU35 (by omega)) (by rw [ff 254 0 m rfl]; omega)) (fun j _ => ff 254 0 j rfl)⟩
        · refine (show po_X11_walkOver T m s T (some (vI (-4))) from ?_)
          exact ⟨_, rfl, fr_0 _ _, hfm, hzs, hgs⟩
    · refine (show po_X11_walkOver T m s T (some (vI (-3))) from ?_)
      exact ⟨_, rfl, fr_0 _ _, hfm, hzs, hgs⟩
  · refine (show po_X11_walkOver T m s T (some (vI (-2))) from ?_)
    exact ⟨_, rfl, fr_0 _ _, hfm, hzs, hgs⟩
abbrev cX11_setLive : ByteArray := prog_13_method_51_code
def yX11_setLive : MethodName := ⟨RX11, "setLive", "(III)V"⟩
def zX11_setLive : Zm := (RX11, cX11_setLive, 4, none, { frames := 0, cells := 0, slots := 0, locals := 0 })
theorem bk_X11_setLive_0 : ck_ fX11 none cX11_setLive 0 [.aload 0, .tableswitch 0 11 46 #[], .iconst 8, .iload 1, .imul, .iload 2, .iadd, .iload 3, .iastore, .return_] 13 = true := qck_r (nn_ _) (by decide +kernel)
theorem bs_X11_setLive_0 {P : Zt → Option Zv → Prop} (K : Int → Zl → List Zv → Zt → Prop) : sx_ K P [.aload 0, .tableswitch 0 11 46 #[], .iconst 8, .iload 1, .imul, .iload 2, .iadd, .iload 3, .iastore, .return_] 13 = x_aload 0 (x_g1 111 246 (x_iconst 8 (x_iload 1 (x_imul (x_iload 2 (x_iadd (x_iload 3 (x_iastore (x_return_ P))))))))) := ((xe_aload 0).trans (congrArg (x_aload 0) ((xe_g1 (kk := 111) rfl tl_11_46).trans (congrArg (x_g1 111 246) ((xe_iconst 8).trans (congrArg (x_iconst 8) ((xe_iload 1).trans (congrArg (x_iload 1) ((xe_imul).trans (congrArg (x_imul) ((xe_iload 2).trans (congrArg (x_iload 2) ((xe_iadd).trans (congrArg (x_iadd) ((xe_iload 3).trans (congrArg (x_iload 3) ((xe_iastore).trans (congrArg (x_iastore) (xe_return_)))))))))))))))))))
abbrev po_X11_setLive (T : Zt) (m k v : Int) : Zt → Option Zv → Prop := fun T' r => r = none ∧ fr_ [(246, [])] T T' ∧ (0 = (0 : Int))
set_option maxHeartbeats 4000000 in
theorem ct_X11_setLive {T : Zt} {m k v : Int} (h1 : 0 ≤ m ∧ m < 400) (h2 : 0 ≤ k ∧ k < 8) : Ct_ yX11_setLive zX11_setLive T [vR 111 0, vI m, vI k, vI v] (po_X11_setLive T m k v) := by
  refine ct_of pn_11 rfl rfl (Nat.le_of_ble_eq_true rfl) (fun hT hav => ?_)
  have hr_m : -2147483648 ≤ m ∧ m ≤ 2147483647 := hav (vI m) (by simp)
  have hr_k : -2147483648 ≤ k ∧ k ≤ 2147483647 := hav (vI k) (by simp)
  have hr_v : -2147483648 ≤ v ∧ v ≤ 2147483647 := hav (vI v) (by simp)
  have hz : zX11_setLive.2.2.2.1 = some .boolean → ∀ (T' : Zt) (x : Int), po_X11_setLive T m k v T' (some (vI x)) → 0 ≤ x ∧ x ≤ 1 := fun h => by cases h
  show J_ zX11_setLive T (po_X11_setLive T m k v) 0 0 0 [some (vR 111 0), some (vI m), some (vI k), some (vI v)] [] T
  refine j_blx (F := fX11) tb_X11 (nn_ _) bk_X11_setLive_0 bs_X11_setLive_0 hz (fun K hK => ?_)
  refine rg_i (by omega) ?_
  refine rg_i (by omega) ?_
  refine iy_i (by omega) (by omega) ?_
  refine x_nm (fun U1 hU1 => ?_)
  have e2 := up_f hU1
  refine (show po_X11_setLive T m k v U1 (none) from ?_)
  exact ⟨rfl, fr_u (fr_0 _ _) hU1 rfl, by rfl⟩
abbrev cX11_isKind : ByteArray := prog_13_method_52_code
def yX11_isKind : MethodName := ⟨RX11, "isKind", "(II)Z"⟩
def zX11_isKind : Zm := (RX11, cX11_isKind, 3, (some .boolean), { frames := 1, cells := 0, slots := 0, locals := 22 })
theorem bk_X11_isKind_0 : ck_ fX11 (some .boolean) cX11_isKind 0 [.iload 1] 1 = true := qck_r (nn_ _) (by decide +kernel)
theorem bs_X11_isKind_0 {P : Zt → Option Zv → Prop} (K : Int → Zl → List Zv → Zt → Prop) : sx_ K P [.iload 1] 1 = x_iload 1 (K 1) := ((xe_iload 1).trans (congrArg (x_iload 1) xe_nil))
theorem ds_X11_isKind_1 : decode cX11_isKind 1 = .ok (.tableswitch 67 0 2 #[27, 34, 50], 27) := by decide +kernel
theorem bk_X11_isKind_28 : ck_ fX11 (some .boolean) cX11_isKind 28 [.iload 2, .iconst 0, .iconst 5] 31 = true := qck_r (nn_ _) (by decide +kernel)
theorem bs_X11_isKind_28 {P : Zt → Option Zv → Prop} (K : Int → Zl → List Zv → Zt → Prop) : sx_ K P [.iload 2, .iconst 0, .iconst 5] 31 = x_iload 2 (x_iconst 0 (x_iconst 5 (K 31))) := ((xe_iload 2).trans (congrArg (x_iload 2) ((xe_iconst 0).trans (congrArg (x_iconst 0) ((xe_iconst 5).trans (congrArg (x_iconst 5) xe_nil))))))
theorem bk_X11_isKind_34 : ck_ fX11 (some .boolean) cX11_isKind 34 [.ireturn] 35 = true := qck_r (nn_ _) (by decide +kernel)
theorem bs_X11_isKind_34 {P : Zt → Option Zv → Prop} (K : Int → Zl → List Zv → Zt → Prop) : sx_ K P [.ireturn] 35 = x_ireturn P := (xe_ireturn)
theorem bk_X11_isKind_35 : ck_ fX11 (some .boolean) cX11_isKind 35 [.iload 2, .iconst 1, .if_icmp .eq 45, .iload 2, .iconst 5, .if_icmp .ne 49, .iconst 1, .goto 50] 49 = true := qck_r (nn_ _) (by decide +kernel)
theorem bs_X11_isKind_35 {P : Zt → Option Zv → Prop} (K : Int → Zl → List Zv → Zt → Prop) : sx_ K P [.iload 2, .iconst 1, .if_icmp .eq 45, .iload 2, .iconst 5, .if_icmp .ne 49, .iconst 1, .goto 50] 49 = x_iload 2 (x_iconst 1 (x_if_icmp .eq 45 K (x_iload 2 (x_iconst 5 (x_if_icmp .ne 49 K (x_iconst 1 (x_goto 50 K))))))) := ((xe_iload 2).trans (congrArg (x_iload 2) ((xe_iconst 1).trans (congrArg (x_iconst 1) ((xe_if_icmp .eq 45).trans (congrArg (x_if_icmp .eq 45 K) ((xe_iload 2).trans (congrArg (x_iload 2) ((xe_iconst 5).trans (congrArg (x_iconst 5) ((xe_if_icmp .ne 49).trans (congrArg (x_if_icmp .ne 49 K) ((xe_iconst 1).trans (congrArg (x_iconst 1) (xe_goto 50)))))))))))))))
theorem bk_X11_isKind_45 : ck_ fX11 (some .boolean) cX11_isKind 45 [.iconst 1, .goto 50] 49 = true := qck_r (nn_ _) (by decide +kernel)
theorem bs_X11_isKind_45 {P : Zt → Option Zv → Prop} (K : Int → Zl → List Zv → Zt → Prop) : sx_ K P [.iconst 1, .goto 50] 49 = x_iconst 1 (x_goto 50 K) := ((xe_iconst 1).trans (congrArg (x_iconst 1) (xe_goto 50)))
theorem bk_X11_isKind_50 : ck_ fX11 (some .boolean) cX11_isKind 50 [.ireturn] 51 = true := qck_r (nn_ _) (by decide +kernel)
theorem bs_X11_isKind_50 {P : Zt → Option Zv → Prop} (K : Int → Zl → List Zv → Zt → Prop) : sx_ K P [.ireturn] 51 = x_ireturn P := (xe_ireturn)
theorem bk_X11_isKind_49 : ck_ fX11 (some .boolean) cX11_isKind 49 [.iconst 0, .ireturn] 51 = true := qck_r (nn_ _) (by decide +kernel)
theorem bs_X11_isKind_49 {P : Zt → Option Zv → Prop} (K : Int → Zl → List Zv → Zt → Prop) : sx_ K P [.iconst 0, .ireturn] 51 = x_iconst 0 (x_ireturn P) := ((xe_iconst 0).trans (congrArg (x_iconst 0) (xe_ireturn)))
theorem bk_X11_isKind_51 : ck_ fX11 (some .boolean) cX11_isKind 51 [.iload 2, .iconst 1, .if_icmp .eq 62, .iload 2, .iconst 6, .if_icmp .ne 66, .iconst 1, .goto 67] 66 = true := qck_r (nn_ _) (by decide +kernel)
theorem bs_X11_isKind_51 {P : Zt → Option Zv → Prop} (K : Int → Zl → List Zv → Zt → Prop) : sx_ K P [.iload 2, .iconst 1, .if_icmp .eq 62, .iload 2, .iconst 6, .if_icmp .ne 66, .iconst 1, .goto 67] 66 = x_iload 2 (x_iconst 1 (x_if_icmp .eq 62 K (x_iload 2 (x_iconst 6 (x_if_icmp .ne 66 K (x_iconst 1 (x_goto 67 K))))))) := ((xe_iload 2).trans (congrArg (x_iload 2) ((xe_iconst 1).trans (congrArg (x_iconst 1) ((xe_if_icmp .eq 62).trans (congrArg (x_if_icmp .eq 62 K) ((xe_iload 2).trans (congrArg (x_iload 2) ((xe_iconst 6).trans (congrArg (x_iconst 6) ((xe_if_icmp .ne 66).trans (congrArg (x_if_icmp .ne 66 K) ((xe_iconst 1).trans (congrArg (x_iconst 1) (xe_goto 67)))))))))))))))
theorem bk_X11_isKind_62 : ck_ fX11 (some .boolean) cX11_isKind 62 [.iconst 1, .goto 67] 66 = true := qck_r (nn_ _) (by decide +kernel)
theorem bs_X11_isKind_62 {P : Zt → Option Zv → Prop} (K : Int → Zl → List Zv → Zt → Prop) : sx_ K P [.iconst 1, .goto 67] 66 = x_iconst 1 (x_goto 67 K) := ((xe_iconst 1).trans (congrArg (x_iconst 1) (xe_goto 67)))
theorem bk_X11_isKind_67 : ck_ fX11 (some .boolean) cX11_isKind 67 [.ireturn] 68 = true := qck_r (nn_ _) (by decide +kernel)
theorem bs_X11_isKind_67 {P : Zt → Option Zv → Prop} (K : Int → Zl → List Zv → Zt → Prop) : sx_ K P [.ireturn] 68 = x_ireturn P := (xe_ireturn)
theorem bk_X11_isKind_66 : ck_ fX11 (some .boolean) cX11_isKind 66 [.iconst 0, .ireturn] 68 = true := qck_r (nn_ _) (by decide +kernel)
theorem bs_X11_isKind_66 {P : Zt → Option Zv → Prop} (K : Int → Zl → List Zv → Zt → Prop) : sx_ K P [.iconst 0, .ireturn] 68 = x_iconst 0 (x_ireturn P) := ((xe_iconst 0).trans (congrArg (x_iconst 0) (xe_ireturn)))
theorem bk_X11_isKind_68 : ck_ fX11 (some .boolean) cX11_isKind 68 [.iload 2, .iconst 1, .iconst 4] 71 = true := qck_r (nn_ _) (by decide +kernel)
theorem bs_X11_isKind_68 {P : Zt → Option Zv → Prop} (K : Int → Zl → List Zv → Zt → Prop) : sx_ K P [.iload 2, .iconst 1, .iconst 4] 71 = x_iload 2 (x_iconst 1 (x_iconst 4 (K 71))) := ((xe_iload 2).trans (congrArg (x_iload 2) ((xe_iconst 1).trans (congrArg (x_iconst 1) ((xe_iconst 4).trans (congrArg (x_iconst 4) xe_nil))))))
theorem bk_X11_isKind_74 : ck_ fX11 (some .boolean) cX11_isKind 74 [.ireturn] 75 = true := qck_r (nn_ _) (by decide +kernel)
theorem bs_X11_isKind_74 {P : Zt → Option Zv → Prop} (K : Int → Zl → List Zv → Zt → Prop) : sx_ K P [.ireturn] 75 = x_ireturn P := (xe_ireturn)
abbrev po_X11_isKind (T : Zt) (sp k : Int) : Zt → Option Zv → Prop := fun T' r => T = T' ∧ ∃ x : Int, r = some (vI x) ∧ ((x = 1 ∧ ((sp = 0 → 0 ≤ k ∧ k ≤ 5) ∧ (sp = 1 → k = 1 ∨ k = 5))) ∨ x = 0)
set_option maxHeartbeats 4000000 in
theorem ct_X11_isKind {T : Zt} {sp k : Int} : Ct_ yX11_isKind zX11_isKind T [vR 111 0, vI sp, vI k] (po_X11_isKind T sp k) := by
  refine ct_of pn_11 rfl rfl (Nat.le_of_ble_eq_true rfl) (fun hT hav => ?_)
  have hr_sp : -2147483648 ≤ sp ∧ sp ≤ 2147483647 := hav (vI sp) (by simp)
  have hr_k : -2147483648 ≤ k ∧ k ≤ 2147483647 := hav (vI k) (by simp)
  have hz : zX11_isKind.2.2.2.1 = some .boolean → ∀ (T' : Zt) (x : Int), po_X11_isKind T sp k T' (some (vI x)) → 0 ≤ x ∧ x ≤ 1 := fun _ T' x h => by obtain ⟨-, y, e, hy⟩ := h; cases e; omega
  show J_ zX11_isKind T (po_X11_isKind T sp k) 0 0 0 [some (vR 111 0), some (vI sp), some (vI k)] [] T
  refine j_blx (F := fX11) tb_X11 (nn_ _) bk_X11_isKind_0 bs_X11_isKind_0 hz (fun K hK => ?_)
  refine hK 1 _ [vI sp] T ?_
  by_cases z1_0 : sp = 0
  · refine j_tsI (pc := 1) 0 (off := 27) (tgt := 28) (by decide) ds_X11_isKind_1 (by omega) (by decide) rfl (by decide) (by decide) ?_
    refine j_blx (F := fX11) tb_X11 (nn_ _) bk_X11_isKind_28 bs_X11_isKind_28 hz (fun K hK => ?_)
    refine hK 31 _ [vI 5, vI 0, vI k] T ?_
    refine j_callS (y := yX11_in) (Yc := zX11_in) (rest := []) [vI k, vI 0, vI 5] (ct_X11_in (T := T)) cl_X11_255 (qd_c (by decide +kernel)) (nn_ _) rfl (rf_of rfl) (Nat.le_of_ble_eq_true rfl) (Nat.le_of_ble_eq_true rfl) (Nat.le_of_ble_eq_true rfl) rfl ?_
    rintro _ _ ⟨rfl, x2, rfl, hx2⟩
    show J_ zX11_isKind T (po_X11_isKind T sp k) 0 0 34 _ [vI x2] T
    refine j_blx (F := fX11) tb_X11 (nn_ _) bk_X11_isKind_34 bs_X11_isKind_34 hz (fun K hK => ?_)
    refine (show po_X11_isKind T sp k T (some (vI x2)) from ?_)
    exact ⟨rfl, _, rfl, by omega⟩
  by_cases z1_1 : sp = 1
  · refine j_tsI (pc := 1) 1 (off := 34) (tgt := 35) (by decide) ds_X11_isKind_1 (by omega) (by decide) rfl (by decide) (by decide) ?_
    refine j_blx (F := fX11) tb_X11 (nn_ _) bk_X11_isKind_35 bs_X11_isKind_35 hz (fun K hK => ?_)
    refine And.intro (fun c3 => ?_) (fun c3 => ?_)
    · refine hK 45 _ [] T ?_
      refine j_blx (F := fX11) tb_X11 (nn_ _) bk_X11_isKind_45 bs_X11_isKind_45 hz (fun K hK => ?_)
      refine hK 50 _ [vI 1] T ?_
      refine j_blx (F := fX11) tb_X11 (nn_ _) bk_X11_isKind_50 bs_X11_isKind_50 hz (fun K hK => ?_)
      refine (show po_X11_isKind T sp k T (some (vI 1)) from ?_)
      exact ⟨rfl, _, rfl, by omega⟩
    · refine And.intro (fun c4 => ?_) (fun c4 => ?_)
      · refine hK 49 _ [] T ?_
        refine j_blx (F := fX11) tb_X11 (nn_ _) bk_X11_isKind_49 bs_X11_isKind_49 hz (fun K hK => ?_)
        refine (show po_X11_isKind T sp k T (some (vI 0)) from ?_)
        exact ⟨rfl, _, rfl, by omega⟩
      · refine hK 50 _ [vI 1] T ?_
        refine j_blx (F := fX11) tb_X11 (nn_ _) bk_X11_isKind_50 bs_X11_isKind_50 hz (fun K hK => ?_)
        refine (show po_X11_isKind T sp k T (some (vI 1)) from ?_)
        exact ⟨rfl, _, rfl, by omega⟩
  by_cases z1_2 : sp = 2
  · refine j_tsI (pc := 1) 2 (off := 50) (tgt := 51) (by decide) ds_X11_isKind_1 (by omega) (by decide) rfl (by decide) (by decide) ?_
    refine j_blx (F := fX11) tb_X11 (nn_ _) bk_X11_isKind_51 bs_X11_isKind_51 hz (fun K hK => ?_)
    refine And.intro (fun c5 => ?_) (fun c5 => ?_)
    · refine hK 62 _ [] T ?_
      refine j_blx (F := fX11) tb_X11 (nn_ _) bk_X11_isKind_62 bs_X11_isKind_62 hz (fun K hK => ?_)
      refine hK 67 _ [vI 1] T ?_
      refine j_blx (F := fX11) tb_X11 (nn_ _) bk_X11_isKind_67 bs_X11_isKind_67 hz (fun K hK => ?_)
      refine (show po_X11_isKind T sp k T (some (vI 1)) from ?_)
      exact ⟨rfl, _, rfl, by omega⟩
    · refine And.intro (fun c6 => ?_) (fun c6 => ?_)
      · refine hK 66 _ [] T ?_
        refine j_blx (F := fX11) tb_X11 (nn_ _) bk_X11_isKind_66 bs_X11_isKind_66 hz (fun K hK => ?_)
        refine (show po_X11_isKind T sp k T (some (vI 0)) from ?_)
        exact ⟨rfl, _, rfl, by omega⟩
      · refine hK 67 _ [vI 1] T ?_
        refine j_blx (F := fX11) tb_X11 (nn_ _) bk_X11_isKind_67 bs_X11_isKind_67 hz (fun K hK => ?_)
        refine (show po_X11_isKind T sp k T (some (vI 1)) from ?_)
        exact ⟨rfl, _, rfl, by omega⟩
  refine j_tsO (pc := 1) (tgt := 68) (by decide) ds_X11_isKind_1 (by omega) (by decide) (by decide) ?_
  refine j_blx (F := fX11) tb_X11 (nn_ _) bk_X11_isKind_68 bs_X11_isKind_68 hz (fun K hK => ?_)
  refine hK 71 _ [vI 4, vI 1, vI k] T ?_
  refine j_callS (y := yX11_in) (Yc := zX11_in) (rest := []) [vI k, vI 1, vI 4] (ct_X11_in (T := T)) cl_X11_255 (qd_c (by decide +kernel)) (nn_ _) rfl (rf_of rfl) (Nat.le_of_ble_eq_true rfl) (Nat.le_of_ble_eq_true rfl) (Nat.le_of_ble_eq_true rfl) rfl ?_
  rintro _ _ ⟨rfl, x7, rfl, hx7⟩
  show J_ zX11_isKind T (po_X11_isKind T sp k) 0 0 74 _ [vI x7] T
  refine j_blx (F := fX11) tb_X11 (nn_ _) bk_X11_isKind_74 bs_X11_isKind_74 hz (fun K hK => ?_)
  refine (show po_X11_isKind T sp k T (some (vI x7)) from ?_)
  exact ⟨rfl, _, rfl, by omega⟩
abbrev cX11_isTold : ByteArray := prog_13_method_53_code
def yX11_isTold : MethodName := ⟨RX11, "isTold", "(III)Z"⟩
def zX11_isTold : Zm := (RX11, cX11_isTold, 4, (some .boolean), { frames := 2, cells := 0, slots := 0, locals := 44 })
theorem bk_X11_isTold_0 : ck_ fX11 (some .boolean) cX11_isTold 0 [.aload 0, .iload 1, .iload 2] 3 = true := qck_r (nn_ _) (by decide +kernel)
theorem bs_X11_isTold_0 {P : Zt → Option Zv → Prop} (K : Int → Zl → List Zv → Zt → Prop) : sx_ K P [.aload 0, .iload 1, .iload 2] 3 = x_aload 0 (x_iload 1 (x_iload 2 (K 3))) := ((xe_aload 0).trans (congrArg (x_aload 0) ((xe_iload 1).trans (congrArg (x_iload 1) ((xe_iload 2).trans (congrArg (x_iload 2) xe_nil))))))
set_option maxRecDepth 100000 in
theorem cl_X11_394 : cv_ RX11 394 yX11_isKind zX11_isKind 11 2 := ⟨gi_V (lw_b9 47 (by decide +kernel) rfl : Cond.methodLink RX11 394 yX11_isKind ∈ lw_g) (lw_b9 49 (by decide +kernel) rfl : Cond.instanceMethod yX11_isKind ∈ lw_g) (lw_sel 25 rfl : Cond.selects yX11_isKind.cls yX11_isKind yX11_isKind ∈ lw_g) (lw_b1 10 (by decide +kernel) rfl : Cond.initialized yX11_isKind.cls ∈ lw_g) (lw_b9 50 rfl rfl : Cond.code yX11_isKind cX11_isKind 3 (some .boolean) ∈ lw_g), ⟨by decide, by decide, by decide +kernel⟩, ⟨_, _, rfl⟩⟩
theorem bk_X11_isTold_6 : ck_ fX11 (some .boolean) cX11_isTold 6 [.ifCond .eq 30, .iload 1, .ifCond .ne 17, .iload 2, .ifCond .eq 26, .iload 3, .iconst 0, .iconst 1] 20 = true := qck_r (nn_ _) (by decide +kernel)
theorem bs_X11_isTold_6 {P : Zt → Option Zv → Prop} (K : Int → Zl → List Zv → Zt → Prop) : sx_ K P [.ifCond .eq 30, .iload 1, .ifCond .ne 17, .iload 2, .ifCond .eq 26, .iload 3, .iconst 0, .iconst 1] 20 = x_ifCond .eq 30 K (x_iload 1 (x_ifCond .ne 17 K (x_iload 2 (x_ifCond .eq 26 K (x_iload 3 (x_iconst 0 (x_iconst 1 (K 20)))))))) := ((xe_ifCond .eq 30).trans (congrArg (x_ifCond .eq 30 K) ((xe_iload 1).trans (congrArg (x_iload 1) ((xe_ifCond .ne 17).trans (congrArg (x_ifCond .ne 17 K) ((xe_iload 2).trans (congrArg (x_iload 2) ((xe_ifCond .eq 26).trans (congrArg (x_ifCond .eq 26 K) ((xe_iload 3).trans (congrArg (x_iload 3) ((xe_iconst 0).trans (congrArg (x_iconst 0) ((xe_iconst 1).trans (congrArg (x_iconst 1) xe_nil))))))))))))))))
theorem bk_X11_isTold_30 : ck_ fX11 (some .boolean) cX11_isTold 30 [.iconst 0, .ireturn] 32 = true := qck_r (nn_ _) (by decide +kernel)
theorem bs_X11_isTold_30 {P : Zt → Option Zv → Prop} (K : Int → Zl → List Zv → Zt → Prop) : sx_ K P [.iconst 0, .ireturn] 32 = x_iconst 0 (x_ireturn P) := ((xe_iconst 0).trans (congrArg (x_iconst 0) (xe_ireturn)))
theorem bk_X11_isTold_17 : ck_ fX11 (some .boolean) cX11_isTold 17 [.iload 3, .iconst 0, .iconst 1] 20 = true := qck_r (nn_ _) (by decide +kernel)
theorem bs_X11_isTold_17 {P : Zt → Option Zv → Prop} (K : Int → Zl → List Zv → Zt → Prop) : sx_ K P [.iload 3, .iconst 0, .iconst 1] 20 = x_iload 3 (x_iconst 0 (x_iconst 1 (K 20))) := ((xe_iload 3).trans (congrArg (x_iload 3) ((xe_iconst 0).trans (congrArg (x_iconst 0) ((xe_iconst 1).trans (congrArg (x_iconst 1) xe_nil))))))
theorem bk_X11_isTold_23 : ck_ fX11 (some .boolean) cX11_isTold 23 [.ifCond .eq 30, .iconst 1, .goto 31] 30 = true := qck_r (nn_ _) (by decide +kernel)
theorem bs_X11_isTold_23 {P : Zt → Option Zv → Prop} (K : Int → Zl → List Zv → Zt → Prop) : sx_ K P [.ifCond .eq 30, .iconst 1, .goto 31] 30 = x_ifCond .eq 30 K (x_iconst 1 (x_goto 31 K)) := ((xe_ifCond .eq 30).trans (congrArg (x_ifCond .eq 30 K) ((xe_iconst 1).trans (congrArg (x_iconst 1) (xe_goto 31)))))
theorem bk_X11_isTold_31 : ck_ fX11 (some .boolean) cX11_isTold 31 [.ireturn] 32 = true := qck_r (nn_ _) (by decide +kernel)
theorem bs_X11_isTold_31 {P : Zt → Option Zv → Prop} (K : Int → Zl → List Zv → Zt → Prop) : sx_ K P [.ireturn] 32 = x_ireturn P := (xe_ireturn)
theorem bk_X11_isTold_26 : ck_ fX11 (some .boolean) cX11_isTold 26 [.iconst 1, .goto 31] 30 = true := qck_r (nn_ _) (by decide +kernel)
theorem bs_X11_isTold_26 {P : Zt → Option Zv → Prop} (K : Int → Zl → List Zv → Zt → Prop) : sx_ K P [.iconst 1, .goto 31] 30 = x_iconst 1 (x_goto 31 K) := ((xe_iconst 1).trans (congrArg (x_iconst 1) (xe_goto 31)))
abbrev po_X11_isTold (T : Zt) (sp k s : Int) : Zt → Option Zv → Prop := fun T' r => T = T' ∧ ∃ x : Int, r = some (vI x) ∧ ((x = 1 ∧ (((sp = 0 → 0 ≤ k ∧ k ≤ 5) ∧ (sp = 1 → k = 1 ∨ k = 5)) ∧ ((sp = 0 ∧ k = 0) ∨ (0 ≤ s ∧ s ≤ 1)))) ∨ x = 0)
set_option maxHeartbeats 4000000 in
theorem ct_X11_isTold {T : Zt} {sp k s : Int} : Ct_ yX11_isTold zX11_isTold T [vR 111 0, vI sp, vI k, vI s] (po_X11_isTold T sp k s) := by
  refine ct_of pn_11 rfl rfl (Nat.le_of_ble_eq_true rfl) (fun hT hav => ?_)
  have hr_sp : -2147483648 ≤ sp ∧ sp ≤ 2147483647 := hav (vI sp) (by simp)
  have hr_k : -2147483648 ≤ k ∧ k ≤ 2147483647 := hav (vI k) (by simp)
  have hr_s : -2147483648 ≤ s ∧ s ≤ 2147483647 := hav (vI s) (by simp)
  have hz : zX11_isTold.2.2.2.1 = some .boolean → ∀ (T' : Zt) (x : Int), po_X11_isTold T sp k s T' (some (vI x)) → 0 ≤ x ∧ x ≤ 1 := fun _ T' x h => by obtain ⟨-, y, e, hy⟩ := h; cases e; omega
  show J_ zX11_isTold T (po_X11_isTold T sp k s) 0 0 0 [some (vR 111 0), some (vI sp), some (vI k), some (vI s)] [] T
  refine j_blx (F := fX11) tb_X11 (nn_ _) bk_X11_isTold_0 bs_X11_isTold_0 hz (fun K hK => ?_)
  refine hK 3 _ [vI k, vI sp, vR 111 0] T ?_
  refine j_callV (y := yX11_isKind) (Yc := zX11_isKind) (rest := []) [vI sp, vI k] (ct_X11_isKind (T := T)) cl_X11_394 (qd_c (by decide +kernel)) (nn_ _) rfl (rf_of rfl) (Nat.le_of_ble_eq_true rfl) (Nat.le_of_ble_eq_true rfl) (Nat.le_of_ble_eq_true rfl) rfl ?_
  rintro _ _ ⟨rfl, x1, rfl, hx1⟩
  show J_ zX11_isTold T (po_X11_isTold T sp k s) 0 0 6 _ [vI x1] T
  refine j_blx (F := fX11) tb_X11 (nn_ _) bk_X11_isTold_6 bs_X11_isTold_6 hz (fun K hK => ?_)
  refine And.intro (fun c2 => ?_) (fun c2 => ?_)
  · refine hK 30 _ [] T ?_
    refine j_blx (F := fX11) tb_X11 (nn_ _) bk_X11_isTold_30 bs_X11_isTold_30 hz (fun K hK => ?_)
    refine (show po_X11_isTold T sp k s T (some (vI 0)) from ?_)
    exact ⟨rfl, _, rfl, by omega⟩
  · refine And.intro (fun c3 => ?_) (fun c3 => ?_)
    · refine hK 17 _ [] T ?_
      refine j_blx (F := fX11) tb_X11 (nn_ _) bk_X11_isTold_17 bs_X11_isTold_17 hz (fun K hK => ?_)
      refine hK 20 _ [vI 1, vI 0, vI s] T ?_
      refine j_callS (y := yX11_in) (Yc := zX11_in) (rest := []) [vI s, vI 0, vI 1] (ct_X11_in (T := T)) cl_X11_255 (qd_c (by decide +kernel)) (nn_ _) rfl (rf_of rfl) (Nat.le_of_ble_eq_true rfl) (Nat.le_of_ble_eq_true rfl) (Nat.le_of_ble_eq_true rfl) rfl ?_
      rintro _ _ ⟨rfl, x4, rfl, hx4⟩
      show J_ zX11_isTold T (po_X11_isTold T sp k s) 0 0 23 _ [vI x4] T
      refine j_blx (F := fX11) tb_X11 (nn_ _) bk_X11_isTold_23 bs_X11_isTold_23 hz (fun K hK => ?_)
      refine And.intro (fun c5 => ?_) (fun c5 => ?_)
      · refine hK 30 _ [] T ?_
        refine j_blx (F := fX11) tb_X11 (nn_ _) bk_X11_isTold_30 bs_X11_isTold_30 hz (fun K hK => ?_)
        refine (show po_X11_isTold T sp k s T (some (vI 0)) from ?_)
        exact ⟨rfl, _, rfl, by omega⟩
      · refine hK 31 _ [vI 1] T ?_
        refine j_blx (F := fX11) tb_X11 (nn_ _) bk_X11_isTold_31 bs_X11_isTold_31 hz (fun K hK => ?_)
        refine (show po_X11_isTold T sp k s T (some (vI 1)) from ?_)
        exact ⟨rfl, _, rfl, by omega⟩
    · refine And.intro (fun c6 => ?_) (fun c6 => ?_)
      · refine hK 26 _ [] T ?_
        refine j_blx (F := fX11) tb_X11 (nn_ _) bk_X11_isTold_26 bs_X11_isTold_26 hz (fun K hK => ?_)
        refine hK 31 _ [vI 1] T ?_
        refine j_blx (F := fX11) tb_X11 (nn_ _) bk_X11_isTold_31 bs_X11_isTold_31 hz (fun K hK => ?_)
        refine (show po_X11_isTold T sp k s T (some (vI 1)) from ?_)
        exact ⟨rfl, _, rfl, by omega⟩
      · refine hK 20 _ [vI 1, vI 0, vI s] T ?_
        refine j_callS (y := yX11_in) (Yc := zX11_in) (rest := []) [vI s, vI 0, vI 1] (ct_X11_in (T := T)) cl_X11_255 (qd_c (by decide +kernel)) (nn_ _) rfl (rf_of rfl) (Nat.le_of_ble_eq_true rfl) (Nat.le_of_ble_eq_true rfl) (Nat.le_of_ble_eq_true rfl) rfl ?_
        rintro _ _ ⟨rfl, x7, rfl, hx7⟩
        show J_ zX11_isTold T (po_X11_isTold T sp k s) 0 0 23 _ [vI x7] T
        refine j_blx (F := fX11) tb_X11 (nn_ _) bk_X11_isTold_23 bs_X11_isTold_23 hz (fun K hK => ?_)
        refine And.intro (fun c8 => ?_) (fun c8 => ?_)
        · refine hK 30 _ [] T ?_
          refine j_blx (F := fX11) tb_X11 (nn_ _) bk_X11_isTold_30 bs_X11_isTold_30 hz (fun K hK => ?_)
          refine (show po_X11_isTold T sp k s T (some (vI 0)) from ?_)
          exact ⟨rfl, _, rfl, by omega⟩
        · refine hK 31 _ [vI 1] T ?_
          refine j_blx (F := fX11) tb_X11 (nn_ _) bk_X11_isTold_31 bs_X11_isTold_31 hz (fun K hK => ?_)
          refine (show po_X11_isTold T sp k s T (some (vI 1)) from ?_)
          exact ⟨rfl, _, rfl, by omega⟩
abbrev cX11_isBounded : ByteArray := prog_13_method_54_code
def yX11_isBounded : MethodName := ⟨RX11, "isBounded", "(III)Z"⟩
def zX11_isBounded : Zm := (RX11, cX11_isBounded, 3, (some .boolean), { frames := 1, cells := 0, slots := 0, locals := 22 })
theorem bk_X11_isBounded_0 : ck_ fX11 (some .boolean) cX11_isBounded 0 [.iload 0, .iconst 3, .if_icmp .ne 19, .iload 1, .iconst 1, .if_icmp .ne 19, .iload 2, .iconst 1, .iconst 4] 13 = true := qck_r (nn_ _) (by decide +kernel)
theorem bs_X11_isBounded_0 {P : Zt → Option Zv → Prop} (K : Int → Zl → List Zv → Zt → Prop) : sx_ K P [.iload 0, .iconst 3, .if_icmp .ne 19, .iload 1, .iconst 1, .if_icmp .ne 19, .iload 2, .iconst 1, .iconst 4] 13 = x_iload 0 (x_iconst 3 (x_if_icmp .ne 19 K (x_iload 1 (x_iconst 1 (x_if_icmp .ne 19 K (x_iload 2 (x_iconst 1 (x_iconst 4 (K 13))))))))) := ((xe_iload 0).trans (congrArg (x_iload 0) ((xe_iconst 3).trans (congrArg (x_iconst 3) ((xe_if_icmp .ne 19).trans (congrArg (x_if_icmp .ne 19 K) ((xe_iload 1).trans (congrArg (x_iload 1) ((xe_iconst 1).trans (congrArg (x_iconst 1) ((xe_if_icmp .ne 19).trans (congrArg (x_if_icmp .ne 19 K) ((xe_iload 2).trans (congrArg (x_iload 2) ((xe_iconst 1).trans (congrArg (x_iconst 1) ((xe_iconst 4).trans (congrArg (x_iconst 4) xe_nil))))))))))))))))))
theorem bk_X11_isBounded_19 : ck_ fX11 (some .boolean) cX11_isBounded 19 [.iconst 1, .goto 24] 23 = true := qck_r (nn_ _) (by decide +kernel)
theorem bs_X11_isBounded_19 {P : Zt → Option Zv → Prop} (K : Int → Zl → List Zv → Zt → Prop) : sx_ K P [.iconst 1, .goto 24] 23 = x_iconst 1 (x_goto 24 K) := ((xe_iconst 1).trans (congrArg (x_iconst 1) (xe_goto 24)))
theorem bk_X11_isBounded_24 : ck_ fX11 (some .boolean) cX11_isBounded 24 [.ireturn] 25 = true := qck_r (nn_ _) (by decide +kernel)
theorem bs_X11_isBounded_24 {P : Zt → Option Zv → Prop} (K : Int → Zl → List Zv → Zt → Prop) : sx_ K P [.ireturn] 25 = x_ireturn P := (xe_ireturn)
theorem bk_X11_isBounded_16 : ck_ fX11 (some .boolean) cX11_isBounded 16 [.ifCond .eq 23, .iconst 1, .goto 24] 23 = true := qck_r (nn_ _) (by decide +kernel)
theorem bs_X11_isBounded_16 {P : Zt → Option Zv → Prop} (K : Int → Zl → List Zv → Zt → Prop) : sx_ K P [.ifCond .eq 23, .iconst 1, .goto 24] 23 = x_ifCond .eq 23 K (x_iconst 1 (x_goto 24 K)) := ((xe_ifCond .eq 23).trans (congrArg (x_ifCond .eq 23 K) ((xe_iconst 1).trans (congrArg (x_iconst 1) (xe_goto 24)))))
theorem bk_X11_isBounded_23 : ck_ fX11 (some .boolean) cX11_isBounded 23 [.iconst 0, .ireturn] 25 = true := qck_r (nn_ _) (by decide +kernel)
theorem bs_X11_isBounded_23 {P : Zt → Option Zv → Prop} (K : Int → Zl → List Zv → Zt → Prop) : sx_ K P [.iconst 0, .ireturn] 25 = x_iconst 0 (x_ireturn P) := ((xe_iconst 0).trans (congrArg (x_iconst 0) (xe_ireturn)))
abbrev po_X11_isBounded (T : Zt) (sp k v : Int) : Zt → Option Zv → Prop := fun T' r => T = T' ∧ ∃ x : Int, r = some (vI x) ∧ (0 ≤ x ∧ x ≤ 1)
set_option maxHeartbeats 4000000 in
theorem ct_X11_isBounded {T : Zt} {sp k v : Int} : Ct_ yX11_isBounded zX11_isBounded T [vI sp, vI k, vI v] (po_X11_isBounded T sp k v) := by
  refine ct_of pn_11 rfl rfl (Nat.le_of_ble_eq_true rfl) (fun hT hav => ?_)
  have hr_sp : -2147483648 ≤ sp ∧ sp ≤ 2147483647 := hav (vI sp) (by simp)
  have hr_k : -2147483648 ≤ k ∧ k ≤ 2147483647 := hav (vI k) (by simp)
  have hr_v : -2147483648 ≤ v ∧ v ≤ 2147483647 := hav (vI v) (by simp)
  have hz : zX11_isBounded.2.2.2.1 = some .boolean → ∀ (T' : Zt) (x : Int), po_X11_isBounded T sp k v T' (some (vI x)) → 0 ≤ x ∧ x ≤ 1 := fun _ T' x h => by obtain ⟨-, y, e, hy⟩ := h; cases e; omega
  show J_ zX11_isBounded T (po_X11_isBounded T sp k v) 0 0 0 [some (vI sp), some (vI k), some (vI v)] [] T
  refine j_blx (F := fX11) tb_X11 (nn_ _) bk_X11_isBounded_0 bs_X11_isBounded_0 hz (fun K hK => ?_)
  refine And.intro (fun c1 => ?_) (fun c1 => ?_)
  · refine hK 19 _ [] T ?_
    refine j_blx (F := fX11) tb_X11 (nn_ _) bk_X11_isBounded_19 bs_X11_isBounded_19 hz (fun K hK => ?_)
    refine hK 24 _ [vI 1] T ?_
    refine j_blx (F := fX11) tb_X11 (nn_ _) bk_X11_isBounded_24 bs_X11_isBounded_24 hz (fun K hK => ?_)
    refine (show po_X11_isBounded T sp k v T (some (vI 1)) from ?_)
    exact ⟨rfl, _, rfl, by omega⟩
  · refine And.intro (fun c2 => ?_) (fun c2 => ?_)
    · refine hK 19 _ [] T ?_
      refine j_blx (F := fX11) tb_X11 (nn_ _) bk_X11_isBounded_19 bs_X11_isBounded_19 hz (fun K hK => ?_)
      refine hK 24 _ [vI 1] T ?_
      refine j_blx (F := fX11) tb_X11 (nn_ _) bk_X11_isBounded_24 bs_X11_isBounded_24 hz (fun K hK => ?_)
      refine (show po_X11_isBounded T sp k v T (some (vI 1)) from ?_)
      exact ⟨rfl, _, rfl, by omega⟩
    · refine hK 13 _ [vI 4, vI 1, vI v] T ?_
      refine j_callS (y := yX11_in) (Yc := zX11_in) (rest := []) [vI v, vI 1, vI 4] (ct_X11_in (T := T)) cl_X11_255 (qd_c (by decide +kernel)) (nn_ _) rfl (rf_of rfl) (Nat.le_of_ble_eq_true rfl) (Nat.le_of_ble_eq_true rfl) (Nat.le_of_ble_eq_true rfl) rfl ?_
      rintro _ _ ⟨rfl, x3, rfl, hx3⟩
      show J_ zX11_isBounded T (po_X11_isBounded T sp k v) 0 0 16 _ [vI x3] T
      refine j_blx (F := fX11) tb_X11 (nn_ _) bk_X11_isBounded_16 bs_X11_isBounded_16 hz (fun K hK => ?_)
      refine And.intro (fun c4 => ?_) (fun c4 => ?_)
      · refine hK 23 _ [] T ?_
        refine j_blx (F := fX11) tb_X11 (nn_ _) bk_X11_isBounded_23 bs_X11_isBounded_23 hz (fun K hK => ?_)
        refine (show po_X11_isBounded T sp k v T (some (vI 0)) from ?_)
        exact ⟨rfl, _, rfl, by omega⟩
      · refine hK 24 _ [vI 1] T ?_
        refine j_blx (F := fX11) tb_X11 (nn_ _) bk_X11_isBounded_24 bs_X11_isBounded_24 hz (fun K hK => ?_)
        refine (show po_X11_isBounded T sp k v T (some (vI 1)) from ?_)
        exact ⟨rfl, _, rfl, by omega⟩
abbrev cX11_stands : ByteArray := prog_13_method_55_code
def yX11_stands : MethodName := ⟨RX11, "stands", "(IIII)Z"⟩
def zX11_stands : Zm := (RX11, cX11_stands, 6, (some .boolean), { frames := 1, cells := 0, slots := 0, locals := 24 })
theorem bk_X11_stands_0 : ck_ fX11 (some .boolean) cX11_stands 0 [.aload 0, .iconst 2, .iload 1, .imul, .iload 2, .iadd, .iload 3] 7 = true := qck_r (nn_ _) (by decide +kernel)
theorem bs_X11_stands_0 {P : Zt → Option Zv → Prop} (K : Int → Zl → List Zv → Zt → Prop) : sx_ K P [.aload 0, .iconst 2, .iload 1, .imul, .iload 2, .iadd, .iload 3] 7 = x_aload 0 (x_iconst 2 (x_iload 1 (x_imul (x_iload 2 (x_iadd (x_iload 3 (K 7))))))) := ((xe_aload 0).trans (congrArg (x_aload 0) ((xe_iconst 2).trans (congrArg (x_iconst 2) ((xe_iload 1).trans (congrArg (x_iload 1) ((xe_imul).trans (congrArg (x_imul) ((xe_iload 2).trans (congrArg (x_iload 2) ((xe_iadd).trans (congrArg (x_iadd) ((xe_iload 3).trans (congrArg (x_iload 3) xe_nil))))))))))))))
theorem bk_X11_stands_10 : ck_ fX11 (some .boolean) cX11_stands 10 [.istore 5, .iload 5, .iconst (-1), .if_icmp .eq 34, .aload 0, .tableswitch 0 11 41 #[], .iload 5, .iaload, .iload 4, .if_icmp .ne 34, .iconst 1, .goto 35] 34 = true := qck_r (nn_ _) (by decide +kernel)
theorem bs_X11_stands_10 {P : Zt → Option Zv → Prop} (K : Int → Zl → List Zv → Zt → Prop) : sx_ K P [.istore 5, .iload 5, .iconst (-1), .if_icmp .eq 34, .aload 0, .tableswitch 0 11 41 #[], .iload 5, .iaload, .iload 4, .if_icmp .ne 34, .iconst 1, .goto 35] 34 = x_istore 5 (x_iload 5 (x_iconst (-1) (x_if_icmp .eq 34 K (x_aload 0 (x_g1 111 241 (x_iload 5 (x_iaload (x_iload 4 (x_if_icmp .ne 34 K (x_iconst 1 (x_goto 35 K))))))))))) := ((xe_istore 5).trans (congrArg (x_istore 5) ((xe_iload 5).trans (congrArg (x_iload 5) ((xe_iconst (-1)).trans (congrArg (x_iconst (-1)) ((xe_if_icmp .eq 34).trans (congrArg (x_if_icmp .eq 34 K) ((xe_aload 0).trans (congrArg (x_aload 0) ((xe_g1 (kk := 111) rfl tl_11_41).trans (congrArg (x_g1 111 241) ((xe_iload 5).trans (congrArg (x_iload 5) ((xe_iaload).trans (congrArg (x_iaload) ((xe_iload 4).trans (congrArg (x_iload 4) ((xe_if_icmp .ne 34).trans (congrArg (x_if_icmp .ne 34 K) ((xe_iconst 1).trans (congrArg (x_iconst 1) (xe_goto 35)))))))))))))))))))))))
theorem bk_X11_stands_34 : ck_ fX11 (some .boolean) cX11_stands 34 [.iconst 0, .ireturn] 36 = true := qck_r (nn_ _) (by decide +kernel)
theorem bs_X11_stands_34 {P : Zt → Option Zv → Prop} (K : Int → Zl → List Zv → Zt → Prop) : sx_ K P [.iconst 0, .ireturn] 36 = x_iconst 0 (x_ireturn P) := ((xe_iconst 0).trans (congrArg (x_iconst 0) (xe_ireturn)))
theorem bk_X11_stands_35 : ck_ fX11 (some .boolean) cX11_stands 35 [.ireturn] 36 = true := qck_r (nn_ _) (by decide +kernel)
theorem bs_X11_stands_35 {P : Zt → Option Zv → Prop} (K : Int → Zl → List Zv → Zt → Prop) : sx_ K P [.ireturn] 36 = x_ireturn P := (xe_ireturn)
abbrev po_X11_stands (T : Zt) (m s p w : Int) : Zt → Option Zv → Prop := fun T' r => T = T' ∧ ∃ x : Int, r = some (vI x) ∧ ((x = 1 ∧ SL_ T (2 * m + s) p) ∨ x = 0)
set_option maxHeartbeats 4000000 in
theorem ct_X11_stands {T : Zt} {m s p w : Int} (h1 : 0 ≤ m ∧ m < 400) (hs : 0 ≤ s ∧ s ≤ 1) : Ct_ yX11_stands zX11_stands T [vR 111 0, vI m, vI s, vI p, vI w] (po_X11_stands T m s p w) := by
  refine ct_of pn_11 rfl rfl (Nat.le_of_ble_eq_true rfl) (fun hT hav => ?_)
  have hr_m : -2147483648 ≤ m ∧ m ≤ 2147483647 := hav (vI m) (by simp)
  have hr_s : -2147483648 ≤ s ∧ s ≤ 2147483647 := hav (vI s) (by simp)
  have hr_p : -2147483648 ≤ p ∧ p ≤ 2147483647 := hav (vI p) (by simp)
  have hr_w : -2147483648 ≤ w ∧ w ≤ 2147483647 := hav (vI w) (by simp)
  have hz : zX11_stands.2.2.2.1 = some .boolean → ∀ (T' : Zt) (x : Int), po_X11_stands T m s p w T' (some (vI x)) → 0 ≤ x ∧ x ≤ 1 := fun _ T' x h => by obtain ⟨-, y, e, hy⟩ := h; cases e; omega
  show J_ zX11_stands T (po_X11_stands T m s p w) 0 0 0 [some (vR 111 0), some (vI m), some (vI s), some (vI p), some (vI w), none] [] T
  refine j_blx (F := fX11) tb_X11 (nn_ _) bk_X11_stands_0 bs_X11_stands_0 hz (fun K hK => ?_)
  refine rg_i (by omega) ?_
  refine rg_i (by omega) ?_
  refine hK 7 _ [vI p, vI ((2 * m) + s), vR 111 0] T ?_
  refine j_callV (y := yX11_slotOf) (Yc := zX11_slotOf) (rest := []) [vI ((2 * m) + s), vI p] (ct_X11_slotOf (T := T) (by omega)) cl_X11_378 (qd_c (by decide +kernel)) (nn_ _) rfl (rf_of rfl) (Nat.le_of_ble_eq_true rfl) (Nat.le_of_ble_eq_true rfl) (Nat.le_of_ble_eq_true rfl) rfl ?_
  rintro _ _ ⟨rfl, x1, rfl, hx1⟩
  show J_ zX11_stands T (po_X11_stands T m s p w) 0 0 10 _ [vI x1] T
  refine j_blx (F := fX11) tb_X11 (nn_ _) bk_X11_stands_10 bs_X11_stands_10 hz (fun K hK => ?_)
  refine And.intro (fun c2 => ?_) (fun c2 => ?_)
  · refine hK 34 [some (vR 111 0), some (vI m), some (vI s), some (vI p), some (vI w), some (vI x1)] [] T ?_
    refine j_blx (F := fX11) tb_X11 (nn_ _) bk_X11_stands_34 bs_X11_stands_34 hz (fun K hK => ?_)
    refine (show po_X11_stands T m s p w T (some (vI 0)) from ?_)
    exact ⟨rfl, _, rfl, Or.inr rfl⟩
  · refine ix_i (by omega) ?_
    intro b3 b3b
    refine And.intro (fun c4 => ?_) (fun c4 => ?_)
    · refine hK 34 _ [] T ?_
      refine j_blx (F := fX11) tb_X11 (nn_ _) bk_X11_stands_34 bs_X11_stands_34 hz (fun K hK => ?_)
      refine (show po_X11_stands T m s p w T (some (vI 0)) from ?_)
      exact ⟨rfl, _, rfl, Or.inr rfl⟩
    · refine hK 35 _ [vI 1] T ?_
      refine j_blx (F := fX11) tb_X11 (nn_ _) bk_X11_stands_35 bs_X11_stands_35 hz (fun K hK => ?_)
      refine (show po_X11_stands T m s p w T (some (vI 1)) from ?_)
      exact ⟨rfl, _, rfl, Or.inl ⟨rfl, by rcases hx1 with z | z; exact absurd z.1 (by omega); exact z.2.2.1⟩⟩
/-- what the laws have asked of an event -/
def LW_ (T : Zt) (m k s p q : Int) : Prop := T 235 0 m = 1 ∧ (T 205 0 (23 * T 230 0 m + 0) = 0 → 0 ≤ k ∧ k ≤ 5 ∧ (k = 0 ∨ (0 ≤ s ∧ s ≤ 1 ∧ SL_ T (2 * m + s) p)) ∧ (k = 5 → SL_ T (2 * m + s) q)) ∧ (T 205 0 (23 * T 230 0 m + 0) = 1 → (k = 1 ∨ k = 5) ∧ 0 ≤ s ∧ s ≤ 1 ∧ (k = 5 → SL_ T (2 * m + s) p ∧ SL_ T (2 * m + s) q)) ∧ (2 ≤ T 205 0 (23 * T 230 0 m + 0) → 0 ≤ s ∧ s ≤ 1)
theorem LW_f {T T' : Zt} {m k s p q : Int} (h : LW_ T m k s p q) (e : ∀ c j, c = 235 ∨ c = 205 ∨ c = 230 ∨ c = 239 ∨ c = 240 → T' c 0 j = T c 0 j) : LW_ T' m k s p q := by
  have f : ∀ sh y, SL_ T sh y → SL_ T' sh y := fun sh y g => SL_f g (fun j => e _ j (by decide)) (fun j => e _ j (by decide))
  obtain ⟨a, b, c, d⟩ := h
  unfold LW_
  rw [e 235 _ (by decide), e 205 _ (by decide), e 230 m (by decide)]
  refine ⟨a, fun y => ?_, fun y => ?_, d⟩
  · have b' := b y
    exact ⟨b'.1, b'.2.1, b'.2.2.1.imp id (fun y => ⟨y.1, y.2.1, f _ _ y.2.2⟩), fun y => f _ _ (b'.2.2.2 y)⟩
  · have c' := c y
    exact ⟨c'.1, c'.2.1, c'.2.2.1, fun y => ⟨f _ _ (c'.2.2.2 y).1, f _ _ (c'.2.2.2 y).2⟩⟩
abbrev cX11_lawOf : ByteArray := prog_13_method_56_code
def yX11_lawOf : MethodName := ⟨RX11, "lawOf", "(IIIII)I"⟩
def zX11_lawOf : Zm := (RX11, cX11_lawOf, 9, (some .int), { frames := 3, cells := 0, slots := 0, locals := 67 })
theorem bk_X11_lawOf_200 : ck_ fX11 (some .int) cX11_lawOf 200 [.iload 6, .iload 2, .iload 5] 205 = true := qck_r (nn_ _) (by decide +kernel)
theorem bs_X11_lawOf_200 {P : Zt → Option Zv → Prop} (K : Int → Zl → List Zv → Zt → Prop) : sx_ K P [.iload 6, .iload 2, .iload 5] 205 = x_iload 6 (x_iload 2 (x_iload 5 (K 205))) := ((xe_iload 6).trans (congrArg (x_iload 6) ((xe_iload 2).trans (congrArg (x_iload 2) ((xe_iload 5).trans (congrArg (x_iload 5) xe_nil))))))
set_option maxRecDepth 100000 in
theorem cl_X11_407 : cs_ RX11 407 yX11_isBounded zX11_isBounded 3 := ⟨gi_S (lw_b9 59 (by decide +kernel) rfl : Cond.methodLink RX11 407 yX11_isBounded ∈ lw_g) (lw_b9 60 (by decide +kernel) rfl : Cond.static yX11_isBounded ∈ lw_g) (lw_b1 10 (by decide +kernel) rfl : Cond.initialized yX11_isBounded.cls ∈ lw_g) (lw_b9 61 rfl rfl : Cond.code yX11_isBounded cX11_isBounded 3 (some .boolean) ∈ lw_g), ⟨by decide, by decide, by decide +kernel⟩⟩
theorem bk_X11_lawOf_208 : ck_ fX11 (some .int) cX11_lawOf 208 [.ifCond .eq 215, .iconst 0, .goto 217] 215 = true := qck_r (nn_ _) (by decide +kernel)
theorem bs_X11_lawOf_208 {P : Zt → Option Zv → Prop} (K : Int → Zl → List Zv → Zt → Prop) : sx_ K P [.ifCond .eq 215, .iconst 0, .goto 217] 215 = x_ifCond .eq 215 K (x_iconst 0 (x_goto 217 K)) := ((xe_ifCond .eq 215).trans (congrArg (x_ifCond .eq 215 K) ((xe_iconst 0).trans (congrArg (x_iconst 0) (xe_goto 217)))))
theorem bk_X11_lawOf_215 : ck_ fX11 (some .int) cX11_lawOf 215 [.iconst 7, .ireturn] 218 = true := qck_r (nn_ _) (by decide +kernel)
theorem bs_X11_lawOf_215 {P : Zt → Option Zv → Prop} (K : Int → Zl → List Zv → Zt → Prop) : sx_ K P [.iconst 7, .ireturn] 218 = x_iconst 7 (x_ireturn P) := ((xe_iconst 7).trans (congrArg (x_iconst 7) (xe_ireturn)))
theorem bk_X11_lawOf_217 : ck_ fX11 (some .int) cX11_lawOf 217 [.ireturn] 218 = true := qck_r (nn_ _) (by decide +kernel)
theorem bs_X11_lawOf_217 {P : Zt → Option Zv → Prop} (K : Int → Zl → List Zv → Zt → Prop) : sx_ K P [.ireturn] 218 = x_ireturn P := (xe_ireturn)
theorem bk_X11_lawOf_163 : ck_ fX11 (some .int) cX11_lawOf 163 [.iload 8, .ifCond .eq 200, .iload 2, .iconst 5, .if_icmp .ne 200, .aload 0, .iload 1, .iconst 6, .iload 3, .iadd] 179 = true := qck_r (nn_ _) (by decide +kernel)
theorem bs_X11_lawOf_163 {P : Zt → Option Zv → Prop} (K : Int → Zl → List Zv → Zt → Prop) : sx_ K P [.iload 8, .ifCond .eq 200, .iload 2, .iconst 5, .if_icmp .ne 200, .aload 0, .iload 1, .iconst 6, .iload 3, .iadd] 179 = x_iload 8 (x_ifCond .eq 200 K (x_iload 2 (x_iconst 5 (x_if_icmp .ne 200 K (x_aload 0 (x_iload 1 (x_iconst 6 (x_iload 3 (x_iadd (K 179)))))))))) := ((xe_iload 8).trans (congrArg (x_iload 8) ((xe_ifCond .eq 200).trans (congrArg (x_ifCond .eq 200 K) ((xe_iload 2).trans (congrArg (x_iload 2) ((xe_iconst 5).trans (congrArg (x_iconst 5) ((xe_if_icmp .ne 200).trans (congrArg (x_if_icmp .ne 200 K) ((xe_aload 0).trans (congrArg (x_aload 0) ((xe_iload 1).trans (congrArg (x_iload 1) ((xe_iconst 6).trans (congrArg (x_iconst 6) ((xe_iload 3).trans (congrArg (x_iload 3) ((xe_iadd).trans (congrArg (x_iadd) xe_nil))))))))))))))))))))
set_option maxRecDepth 100000 in
theorem cl_X11_400 : cv_ RX11 400 yX11_liveOf zX11_liveOf 11 2 := ⟨gi_V (lw_b9 51 (by decide +kernel) rfl : Cond.methodLink RX11 400 yX11_liveOf ∈ lw_g) (lw_b9 53 (by decide +kernel) rfl : Cond.instanceMethod yX11_liveOf ∈ lw_g) (lw_sel 35 rfl : Cond.selects yX11_liveOf.cls yX11_liveOf yX11_liveOf ∈ lw_g) (lw_b1 10 (by decide +kernel) rfl : Cond.initialized yX11_liveOf.cls ∈ lw_g) (lw_b9 54 rfl rfl : Cond.code yX11_liveOf cX11_liveOf 3 (some .int) ∈ lw_g), ⟨by decide, by decide, by decide +kernel⟩, ⟨_, _, rfl⟩⟩
theorem bk_X11_lawOf_182 : ck_ fX11 (some .int) cX11_lawOf 182 [.aload 0, .aload 0, .tableswitch 0 11 30 #[], .iload 1, .iaload, .iconst 10] 191 = true := qck_r (nn_ _) (by decide +kernel)
theorem bs_X11_lawOf_182 {P : Zt → Option Zv → Prop} (K : Int → Zl → List Zv → Zt → Prop) : sx_ K P [.aload 0, .aload 0, .tableswitch 0 11 30 #[], .iload 1, .iaload, .iconst 10] 191 = x_aload 0 (x_aload 0 (x_g1 111 230 (x_iload 1 (x_iaload (x_iconst 10 (K 191)))))) := ((xe_aload 0).trans (congrArg (x_aload 0) ((xe_aload 0).trans (congrArg (x_aload 0) ((xe_g1 (kk := 111) rfl tl_11_30).trans (congrArg (x_g1 111 230) ((xe_iload 1).trans (congrArg (x_iload 1) ((xe_iaload).trans (congrArg (x_iaload) ((xe_iconst 10).trans (congrArg (x_iconst 10) xe_nil))))))))))))
theorem bk_X11_lawOf_194 : ck_ fX11 (some .int) cX11_lawOf 194 [.if_icmp .ne 200, .iconst 6, .ireturn] 200 = true := qck_r (nn_ _) (by decide +kernel)
theorem bs_X11_lawOf_194 {P : Zt → Option Zv → Prop} (K : Int → Zl → List Zv → Zt → Prop) : sx_ K P [.if_icmp .ne 200, .iconst 6, .ireturn] 200 = x_if_icmp .ne 200 K (x_iconst 6 (x_ireturn P)) := ((xe_if_icmp .ne 200).trans (congrArg (x_if_icmp .ne 200 K) ((xe_iconst 6).trans (congrArg (x_iconst 6) (xe_ireturn)))))
theorem bk_X11_lawOf_139 : ck_ fX11 (some .int) cX11_lawOf 139 [.iload 8, .ifCond .eq 163, .iload 2, .iconst 5, .if_icmp .ne 163, .aload 0, .iload 1, .iload 3, .iload 5, .iconst 0] 155 = true := qck_r (nn_ _) (by decide +kernel)
theorem bs_X11_lawOf_139 {P : Zt → Option Zv → Prop} (K : Int → Zl → List Zv → Zt → Prop) : sx_ K P [.iload 8, .ifCond .eq 163, .iload 2, .iconst 5, .if_icmp .ne 163, .aload 0, .iload 1, .iload 3, .iload 5, .iconst 0] 155 = x_iload 8 (x_ifCond .eq 163 K (x_iload 2 (x_iconst 5 (x_if_icmp .ne 163 K (x_aload 0 (x_iload 1 (x_iload 3 (x_iload 5 (x_iconst 0 (K 155)))))))))) := ((xe_iload 8).trans (congrArg (x_iload 8) ((xe_ifCond .eq 163).trans (congrArg (x_ifCond .eq 163 K) ((xe_iload 2).trans (congrArg (x_iload 2) ((xe_iconst 5).trans (congrArg (x_iconst 5) ((xe_if_icmp .ne 163).trans (congrArg (x_if_icmp .ne 163 K) ((xe_aload 0).trans (congrArg (x_aload 0) ((xe_iload 1).trans (congrArg (x_iload 1) ((xe_iload 3).trans (congrArg (x_iload 3) ((xe_iload 5).trans (congrArg (x_iload 5) ((xe_iconst 0).trans (congrArg (x_iconst 0) xe_nil))))))))))))))))))))
set_option maxRecDepth 100000 in
theorem cl_X11_403 : cv_ RX11 403 yX11_stands zX11_stands 11 4 := ⟨gi_V (lw_b9 55 (by decide +kernel) rfl : Cond.methodLink RX11 403 yX11_stands ∈ lw_g) (lw_b9 57 (by decide +kernel) rfl : Cond.instanceMethod yX11_stands ∈ lw_g) (lw_sel 70 rfl : Cond.selects yX11_stands.cls yX11_stands yX11_stands ∈ lw_g) (lw_b1 10 (by decide +kernel) rfl : Cond.initialized yX11_stands.cls ∈ lw_g) (lw_b9 58 rfl rfl : Cond.code yX11_stands cX11_stands 6 (some .boolean) ∈ lw_g), ⟨by decide, by decide, by decide +kernel⟩, ⟨_, _, rfl⟩⟩
theorem bk_X11_lawOf_158 : ck_ fX11 (some .int) cX11_lawOf 158 [.ifCond .ne 163, .iconst 5, .ireturn] 163 = true := qck_r (nn_ _) (by decide +kernel)
theorem bs_X11_lawOf_158 {P : Zt → Option Zv → Prop} (K : Int → Zl → List Zv → Zt → Prop) : sx_ K P [.ifCond .ne 163, .iconst 5, .ireturn] 163 = x_ifCond .ne 163 K (x_iconst 5 (x_ireturn P)) := ((xe_ifCond .ne 163).trans (congrArg (x_ifCond .ne 163 K) ((xe_iconst 5).trans (congrArg (x_iconst 5) (xe_ireturn)))))
theorem bk_X11_lawOf_118 : ck_ fX11 (some .int) cX11_lawOf 118 [.istore 8, .iload 8, .ifCond .eq 139, .aload 0, .iload 1, .iload 3, .iload 4, .iconst 1] 131 = true := qck_r (nn_ _) (by decide +kernel)
theorem bs_X11_lawOf_118 {P : Zt → Option Zv → Prop} (K : Int → Zl → List Zv → Zt → Prop) : sx_ K P [.istore 8, .iload 8, .ifCond .eq 139, .aload 0, .iload 1, .iload 3, .iload 4, .iconst 1] 131 = x_istore 8 (x_iload 8 (x_ifCond .eq 139 K (x_aload 0 (x_iload 1 (x_iload 3 (x_iload 4 (x_iconst 1 (K 131)))))))) := ((xe_istore 8).trans (congrArg (x_istore 8) ((xe_iload 8).trans (congrArg (x_iload 8) ((xe_ifCond .eq 139).trans (congrArg (x_ifCond .eq 139 K) ((xe_aload 0).trans (congrArg (x_aload 0) ((xe_iload 1).trans (congrArg (x_iload 1) ((xe_iload 3).trans (congrArg (x_iload 3) ((xe_iload 4).trans (congrArg (x_iload 4) ((xe_iconst 1).trans (congrArg (x_iconst 1) xe_nil))))))))))))))))
theorem bk_X11_lawOf_134 : ck_ fX11 (some .int) cX11_lawOf 134 [.ifCond .ne 139, .iconst 4, .ireturn] 139 = true := qck_r (nn_ _) (by decide +kernel)
theorem bs_X11_lawOf_134 {P : Zt → Option Zv → Prop} (K : Int → Zl → List Zv → Zt → Prop) : sx_ K P [.ifCond .ne 139, .iconst 4, .ireturn] 139 = x_ifCond .ne 139 K (x_iconst 4 (x_ireturn P)) := ((xe_ifCond .ne 139).trans (congrArg (x_ifCond .ne 139 K) ((xe_iconst 4).trans (congrArg (x_iconst 4) (xe_ireturn)))))
theorem bk_X11_lawOf_68 : ck_ fX11 (some .int) cX11_lawOf 68 [.istore 7, .iload 7, .ifCond .ne 91, .iload 6, .iconst 3, .if_icmp .ne 93, .aload 0, .iload 1, .iconst 5] 84 = true := qck_r (nn_ _) (by decide +kernel)
theorem bs_X11_lawOf_68 {P : Zt → Option Zv → Prop} (K : Int → Zl → List Zv → Zt → Prop) : sx_ K P [.istore 7, .iload 7, .ifCond .ne 91, .iload 6, .iconst 3, .if_icmp .ne 93, .aload 0, .iload 1, .iconst 5] 84 = x_istore 7 (x_iload 7 (x_ifCond .ne 91 K (x_iload 6 (x_iconst 3 (x_if_icmp .ne 93 K (x_aload 0 (x_iload 1 (x_iconst 5 (K 84))))))))) := ((xe_istore 7).trans (congrArg (x_istore 7) ((xe_iload 7).trans (congrArg (x_iload 7) ((xe_ifCond .ne 91).trans (congrArg (x_ifCond .ne 91 K) ((xe_iload 6).trans (congrArg (x_iload 6) ((xe_iconst 3).trans (congrArg (x_iconst 3) ((xe_if_icmp .ne 93).trans (congrArg (x_if_icmp .ne 93 K) ((xe_aload 0).trans (congrArg (x_aload 0) ((xe_iload 1).trans (congrArg (x_iload 1) ((xe_iconst 5).trans (congrArg (x_iconst 5) xe_nil))))))))))))))))))
theorem bk_X11_lawOf_91 : ck_ fX11 (some .int) cX11_lawOf 91 [.iconst 3, .ireturn] 93 = true := qck_r (nn_ _) (by decide +kernel)
theorem bs_X11_lawOf_91 {P : Zt → Option Zv → Prop} (K : Int → Zl → List Zv → Zt → Prop) : sx_ K P [.iconst 3, .ireturn] 93 = x_iconst 3 (x_ireturn P) := ((xe_iconst 3).trans (congrArg (x_iconst 3) (xe_ireturn)))
theorem bk_X11_lawOf_93 : ck_ fX11 (some .int) cX11_lawOf 93 [.iload 6, .ifCond .ne 102, .iload 2, .ifCond .gt 113, .iload 6, .iconst 1, .if_icmp .ne 117, .iload 2, .iconst 5, .if_icmp .ne 117, .iconst 1, .goto 118] 117 = true := qck_r (nn_ _) (by decide +kernel)
theorem bs_X11_lawOf_93 {P : Zt → Option Zv → Prop} (K : Int → Zl → List Zv → Zt → Prop) : sx_ K P [.iload 6, .ifCond .ne 102, .iload 2, .ifCond .gt 113, .iload 6, .iconst 1, .if_icmp .ne 117, .iload 2, .iconst 5, .if_icmp .ne 117, .iconst 1, .goto 118] 117 = x_iload 6 (x_ifCond .ne 102 K (x_iload 2 (x_ifCond .gt 113 K (x_iload 6 (x_iconst 1 (x_if_icmp .ne 117 K (x_iload 2 (x_iconst 5 (x_if_icmp .ne 117 K (x_iconst 1 (x_goto 118 K))))))))))) := ((xe_iload 6).trans (congrArg (x_iload 6) ((xe_ifCond .ne 102).trans (congrArg (x_ifCond .ne 102 K) ((xe_iload 2).trans (congrArg (x_iload 2) ((xe_ifCond .gt 113).trans (congrArg (x_ifCond .gt 113 K) ((xe_iload 6).trans (congrArg (x_iload 6) ((xe_iconst 1).trans (congrArg (x_iconst 1) ((xe_if_icmp .ne 117).trans (congrArg (x_if_icmp .ne 117 K) ((xe_iload 2).trans (congrArg (x_iload 2) ((xe_iconst 5).trans (congrArg (x_iconst 5) ((xe_if_icmp .ne 117).trans (congrArg (x_if_icmp .ne 117 K) ((xe_iconst 1).trans (congrArg (x_iconst 1) (xe_goto 118)))))))))))))))))))))))
theorem bk_X11_lawOf_102 : ck_ fX11 (some .int) cX11_lawOf 102 [.iload 6, .iconst 1, .if_icmp .ne 117, .iload 2, .iconst 5, .if_icmp .ne 117, .iconst 1, .goto 118] 117 = true := qck_r (nn_ _) (by decide +kernel)
theorem bs_X11_lawOf_102 {P : Zt → Option Zv → Prop} (K : Int → Zl → List Zv → Zt → Prop) : sx_ K P [.iload 6, .iconst 1, .if_icmp .ne 117, .iload 2, .iconst 5, .if_icmp .ne 117, .iconst 1, .goto 118] 117 = x_iload 6 (x_iconst 1 (x_if_icmp .ne 117 K (x_iload 2 (x_iconst 5 (x_if_icmp .ne 117 K (x_iconst 1 (x_goto 118 K))))))) := ((xe_iload 6).trans (congrArg (x_iload 6) ((xe_iconst 1).trans (congrArg (x_iconst 1) ((xe_if_icmp .ne 117).trans (congrArg (x_if_icmp .ne 117 K) ((xe_iload 2).trans (congrArg (x_iload 2) ((xe_iconst 5).trans (congrArg (x_iconst 5) ((xe_if_icmp .ne 117).trans (congrArg (x_if_icmp .ne 117 K) ((xe_iconst 1).trans (congrArg (x_iconst 1) (xe_goto 118)))))))))))))))
theorem bk_X11_lawOf_117 : ck_ fX11 (some .int) cX11_lawOf 117 [.iconst 0] 118 = true := qck_r (nn_ _) (by decide +kernel)
theorem bs_X11_lawOf_117 {P : Zt → Option Zv → Prop} (K : Int → Zl → List Zv → Zt → Prop) : sx_ K P [.iconst 0] 118 = x_iconst 0 (K 118) := ((xe_iconst 0).trans (congrArg (x_iconst 0) xe_nil))
theorem bk_X11_lawOf_113 : ck_ fX11 (some .int) cX11_lawOf 113 [.iconst 1, .goto 118] 117 = true := qck_r (nn_ _) (by decide +kernel)
theorem bs_X11_lawOf_113 {P : Zt → Option Zv → Prop} (K : Int → Zl → List Zv → Zt → Prop) : sx_ K P [.iconst 1, .goto 118] 117 = x_iconst 1 (x_goto 118 K) := ((xe_iconst 1).trans (congrArg (x_iconst 1) (xe_goto 118)))
theorem bk_X11_lawOf_87 : ck_ fX11 (some .int) cX11_lawOf 87 [.iload 3, .if_icmp .eq 93, .iconst 3, .ireturn] 93 = true := qck_r (nn_ _) (by decide +kernel)
theorem bs_X11_lawOf_87 {P : Zt → Option Zv → Prop} (K : Int → Zl → List Zv → Zt → Prop) : sx_ K P [.iload 3, .if_icmp .eq 93, .iconst 3, .ireturn] 93 = x_iload 3 (x_if_icmp .eq 93 K (x_iconst 3 (x_ireturn P))) := ((xe_iload 3).trans (congrArg (x_iload 3) ((xe_if_icmp .eq 93).trans (congrArg (x_if_icmp .eq 93 K) ((xe_iconst 3).trans (congrArg (x_iconst 3) (xe_ireturn)))))))
theorem bk_X11_lawOf_0 : ck_ fX11 (some .int) cX11_lawOf 0 [.aload 0, .aload 0, .tableswitch 0 11 30 #[], .iload 1, .iaload, .iconst 0] 8 = true := qck_r (nn_ _) (by decide +kernel)
theorem bs_X11_lawOf_0 {P : Zt → Option Zv → Prop} (K : Int → Zl → List Zv → Zt → Prop) : sx_ K P [.aload 0, .aload 0, .tableswitch 0 11 30 #[], .iload 1, .iaload, .iconst 0] 8 = x_aload 0 (x_aload 0 (x_g1 111 230 (x_iload 1 (x_iaload (x_iconst 0 (K 8)))))) := ((xe_aload 0).trans (congrArg (x_aload 0) ((xe_aload 0).trans (congrArg (x_aload 0) ((xe_g1 (kk := 111) rfl tl_11_30).trans (congrArg (x_g1 111 230) ((xe_iload 1).trans (congrArg (x_iload 1) ((xe_iaload).trans (congrArg (x_iaload) ((xe_iconst 0).trans (congrArg (x_iconst 0) xe_nil))))))))))))
theorem bk_X11_lawOf_11 : ck_ fX11 (some .int) cX11_lawOf 11 [.istore 6, .aload 0, .tableswitch 0 11 35 #[], .iload 1, .iaload, .iconst 1, .if_icmp .eq 25, .iconst 1, .ireturn] 25 = true := qck_r (nn_ _) (by decide +kernel)
theorem bs_X11_lawOf_11 {P : Zt → Option Zv → Prop} (K : Int → Zl → List Zv → Zt → Prop) : sx_ K P [.istore 6, .aload 0, .tableswitch 0 11 35 #[], .iload 1, .iaload, .iconst 1, .if_icmp .eq 25, .iconst 1, .ireturn] 25 = x_istore 6 (x_aload 0 (x_g1 111 235 (x_iload 1 (x_iaload (x_iconst 1 (x_if_icmp .eq 25 K (x_iconst 1 (x_ireturn P)))))))) := ((xe_istore 6).trans (congrArg (x_istore 6) ((xe_aload 0).trans (congrArg (x_aload 0) ((xe_g1 (kk := 111) rfl tl_11_35).trans (congrArg (x_g1 111 235) ((xe_iload 1).trans (congrArg (x_iload 1) ((xe_iaload).trans (congrArg (x_iaload) ((xe_iconst 1).trans (congrArg (x_iconst 1) ((xe_if_icmp .eq 25).trans (congrArg (x_if_icmp .eq 25 K) ((xe_iconst 1).trans (congrArg (x_iconst 1) (xe_ireturn)))))))))))))))))
theorem bk_X11_lawOf_25 : ck_ fX11 (some .int) cX11_lawOf 25 [.aload 0, .iload 6, .iload 2, .iload 3] 30 = true := qck_r (nn_ _) (by decide +kernel)
theorem bs_X11_lawOf_25 {P : Zt → Option Zv → Prop} (K : Int → Zl → List Zv → Zt → Prop) : sx_ K P [.aload 0, .iload 6, .iload 2, .iload 3] 30 = x_aload 0 (x_iload 6 (x_iload 2 (x_iload 3 (K 30)))) := ((xe_aload 0).trans (congrArg (x_aload 0) ((xe_iload 6).trans (congrArg (x_iload 6) ((xe_iload 2).trans (congrArg (x_iload 2) ((xe_iload 3).trans (congrArg (x_iload 3) xe_nil))))))))
set_option maxRecDepth 100000 in
theorem cl_X11_397 : cv_ RX11 397 yX11_isTold zX11_isTold 11 3 := ⟨gi_V (lw_b9 43 (by decide +kernel) rfl : Cond.methodLink RX11 397 yX11_isTold ∈ lw_g) (lw_b9 45 (by decide +kernel) rfl : Cond.instanceMethod yX11_isTold ∈ lw_g) (lw_sel 28 rfl : Cond.selects yX11_isTold.cls yX11_isTold yX11_isTold ∈ lw_g) (lw_b1 10 (by decide +kernel) rfl : Cond.initialized yX11_isTold.cls ∈ lw_g) (lw_b9 46 rfl rfl : Cond.code yX11_isTold cX11_isTold 4 (some .boolean) ∈ lw_g), ⟨by decide, by decide, by decide +kernel⟩, ⟨_, _, rfl⟩⟩
theorem bk_X11_lawOf_33 : ck_ fX11 (some .int) cX11_lawOf 33 [.ifCond .ne 38, .iconst 2, .ireturn] 38 = true := qck_r (nn_ _) (by decide +kernel)
theorem bs_X11_lawOf_33 {P : Zt → Option Zv → Prop} (K : Int → Zl → List Zv → Zt → Prop) : sx_ K P [.ifCond .ne 38, .iconst 2, .ireturn] 38 = x_ifCond .ne 38 K (x_iconst 2 (x_ireturn P)) := ((xe_ifCond .ne 38).trans (congrArg (x_ifCond .ne 38 K) ((xe_iconst 2).trans (congrArg (x_iconst 2) (xe_ireturn)))))
theorem bk_X11_lawOf_38 : ck_ fX11 (some .int) cX11_lawOf 38 [.iload 6, .ifCond .ne 67, .iload 2, .iconst 1, .if_icmp .eq 53, .iload 2, .iconst 2, .if_icmp .ne 67, .aload 0, .iload 1, .iconst 0] 56 = true := qck_r (nn_ _) (by decide +kernel)
theorem bs_X11_lawOf_38 {P : Zt → Option Zv → Prop} (K : Int → Zl → List Zv → Zt → Prop) : sx_ K P [.iload 6, .ifCond .ne 67, .iload 2, .iconst 1, .if_icmp .eq 53, .iload 2, .iconst 2, .if_icmp .ne 67, .aload 0, .iload 1, .iconst 0] 56 = x_iload 6 (x_ifCond .ne 67 K (x_iload 2 (x_iconst 1 (x_if_icmp .eq 53 K (x_iload 2 (x_iconst 2 (x_if_icmp .ne 67 K (x_aload 0 (x_iload 1 (x_iconst 0 (K 56))))))))))) := ((xe_iload 6).trans (congrArg (x_iload 6) ((xe_ifCond .ne 67).trans (congrArg (x_ifCond .ne 67 K) ((xe_iload 2).trans (congrArg (x_iload 2) ((xe_iconst 1).trans (congrArg (x_iconst 1) ((xe_if_icmp .eq 53).trans (congrArg (x_if_icmp .eq 53 K) ((xe_iload 2).trans (congrArg (x_iload 2) ((xe_iconst 2).trans (congrArg (x_iconst 2) ((xe_if_icmp .ne 67).trans (congrArg (x_if_icmp .ne 67 K) ((xe_aload 0).trans (congrArg (x_aload 0) ((xe_iload 1).trans (congrArg (x_iload 1) ((xe_iconst 0).trans (congrArg (x_iconst 0) xe_nil))))))))))))))))))))))
theorem bk_X11_lawOf_67 : ck_ fX11 (some .int) cX11_lawOf 67 [.iconst 0] 68 = true := qck_r (nn_ _) (by decide +kernel)
theorem bs_X11_lawOf_67 {P : Zt → Option Zv → Prop} (K : Int → Zl → List Zv → Zt → Prop) : sx_ K P [.iconst 0] 68 = x_iconst 0 (K 68) := ((xe_iconst 0).trans (congrArg (x_iconst 0) xe_nil))
theorem bk_X11_lawOf_53 : ck_ fX11 (some .int) cX11_lawOf 53 [.aload 0, .iload 1, .iconst 0] 56 = true := qck_r (nn_ _) (by decide +kernel)
theorem bs_X11_lawOf_53 {P : Zt → Option Zv → Prop} (K : Int → Zl → List Zv → Zt → Prop) : sx_ K P [.aload 0, .iload 1, .iconst 0] 56 = x_aload 0 (x_iload 1 (x_iconst 0 (K 56))) := ((xe_aload 0).trans (congrArg (x_aload 0) ((xe_iload 1).trans (congrArg (x_iload 1) ((xe_iconst 0).trans (congrArg (x_iconst 0) xe_nil))))))
theorem bk_X11_lawOf_59 : ck_ fX11 (some .int) cX11_lawOf 59 [.iconst 1, .if_icmp .ne 67, .iconst 1, .goto 68] 67 = true := qck_r (nn_ _) (by decide +kernel)
theorem bs_X11_lawOf_59 {P : Zt → Option Zv → Prop} (K : Int → Zl → List Zv → Zt → Prop) : sx_ K P [.iconst 1, .if_icmp .ne 67, .iconst 1, .goto 68] 67 = x_iconst 1 (x_if_icmp .ne 67 K (x_iconst 1 (x_goto 68 K))) := ((xe_iconst 1).trans (congrArg (x_iconst 1) ((xe_if_icmp .ne 67).trans (congrArg (x_if_icmp .ne 67 K) ((xe_iconst 1).trans (congrArg (x_iconst 1) (xe_goto 68)))))))
abbrev po_X11_lawOf (T : Zt) (m k s p q : Int) : Zt → Option Zv → Prop := fun T' r => T = T' ∧ ∃ x : Int, r = some (vI x) ∧ ((0 ≤ x ∧ x ≤ 7) ∧ (x = 0 → LW_ T m k s p q))
set_option maxHeartbeats 4000000 in
theorem ct_X11_lawOf {T : Zt} {m k s p q : Int} (h1 : 0 ≤ m ∧ m < 400) : Ct_ yX11_lawOf zX11_lawOf T [vR 111 0, vI m, vI k, vI s, vI p, vI q] (po_X11_lawOf T m k s p q) := by
  refine ct_of pn_11 rfl rfl (Nat.le_of_ble_eq_true rfl) (fun hT hav => ?_)
  have hr_m : -2147483648 ≤ m ∧ m ≤ 2147483647 := hav (vI m) (by simp)
  have hr_k : -2147483648 ≤ k ∧ k ≤ 2147483647 := hav (vI k) (by simp)
  have hr_s : -2147483648 ≤ s ∧ s ≤ 2147483647 := hav (vI s) (by simp)
  have hr_p : -2147483648 ≤ p ∧ p ≤ 2147483647 := hav (vI p) (by simp)
  have hr_q : -2147483648 ≤ q ∧ q ≤ 2147483647 := hav (vI q) (by simp)
  have hz : zX11_lawOf.2.2.2.1 = some .boolean → ∀ (T' : Zt) (x : Int), po_X11_lawOf T m k s p q T' (some (vI x)) → 0 ≤ x ∧ x ≤ 1 := fun h => by cases h
  show J_ zX11_lawOf T (po_X11_lawOf T m k s p q) 0 0 0 [some (vR 111 0), some (vI m), some (vI k), some (vI s), some (vI p), some (vI q), none, none, none] [] T
  have c_200 : ∀ (v : Int), (T 235 0 m = 1) → ((((T 205 0 (23 * T 230 0 m + 0) = 0 → 0 ≤ k ∧ k ≤ 5) ∧ (T 205 0 (23 * T 230 0 m + 0) = 1 → k = 1 ∨ k = 5)) ∧ ((T 205 0 (23 * T 230 0 m + 0) = 0 ∧ k = 0) ∨ (0 ≤ s ∧ s ≤ 1)))) → ((v = 1 ∧ ((T 205 0 (23 * T 230 0 m + 0) = 0 ∧ 0 < k) ∨ (T 205 0 (23 * T 230 0 m + 0) = 1 ∧ k = 5))) ∨ (v = 0 ∧ ¬ ((T 205 0 (23 * T 230 0 m + 0) = 0 ∧ 0 < k) ∨ (T 205 0 (23 * T 230 0 m + 0) = 1 ∧ k = 5)))) → (v = 1 → SL_ T (2 * m + s) p) → (v = 1 → k = 5 → SL_ T (2 * m + s) q) → J_ zX11_lawOf T (po_X11_lawOf T m k s p q) 0 0 200 [some (vR 111 0), some (vI m), some (vI k), some (vI s), some (vI p), some (vI q), some (vI (T 205 0 (23 * T 230 0 m + 0))), none, some (vI v)] [] T := by
    intro v t1 t2 v1 s1 s2
    refine j_blx (F := fX11) tb_X11 (nn_ _) bk_X11_lawOf_200 bs_X11_lawOf_200 hz (fun K hK => ?_)
    refine hK 205 _ [vI q, vI k, vI (T 205 0 (23 * T 230 0 m + 0))] T ?_
    refine j_callS (y := yX11_isBounded) (Yc := zX11_isBounded) (rest := []) [vI (T 205 0 (23 * T 230 0 m + 0)), vI k, vI q] (ct_X11_isBounded (T := T)) cl_X11_407 (qd_c (by decide +kernel)) (nn_ _) rfl (rf_of rfl) (Nat.le_of_ble_eq_true rfl) (Nat.le_of_ble_eq_true rfl) (Nat.le_of_ble_eq_true rfl) rfl ?_
    rintro _ _ ⟨rfl, x1, rfl, hx1⟩
    show J_ zX11_lawOf T (po_X11_lawOf T m k s p q) 0 0 208 _ [vI x1] T
    refine j_blx (F := fX11) tb_X11 (nn_ _) bk_X11_lawOf_208 bs_X11_lawOf_208 hz (fun K hK => ?_)
    refine And.intro (fun c2 => ?_) (fun c2 => ?_)
    · refine hK 215 _ [] T ?_
      refine j_blx (F := fX11) tb_X11 (nn_ _) bk_X11_lawOf_215 bs_X11_lawOf_215 hz (fun K hK => ?_)
      refine (show po_X11_lawOf T m k s p q T (some (vI 7)) from ?_)
      exact ⟨rfl, _, rfl, by omega, fun z => absurd z (by decide)⟩
    · refine hK 217 _ [vI 0] T ?_
      refine j_blx (F := fX11) tb_X11 (nn_ _) bk_X11_lawOf_217 bs_X11_lawOf_217 hz (fun K hK => ?_)
      refine (show po_X11_lawOf T m k s p q T (some (vI 0)) from ?_)
      refine ⟨rfl, _, rfl, by omega, fun _ => ⟨t1, fun a => ⟨by omega, by omega, ?_, fun b => s2 (by omega) b⟩, fun a => ⟨by omega, by omega, by omega, fun b => ⟨s1 (by omega), s2 (by omega) b⟩⟩, fun a => by omega⟩⟩
      by_cases b : k = 0
      · exact Or.inl b
      · exact Or.inr ⟨by omega, by omega, s1 (by omega)⟩
  have c_163 : ∀ (v : Int), (T 235 0 m = 1) → ((((T 205 0 (23 * T 230 0 m + 0) = 0 → 0 ≤ k ∧ k ≤ 5) ∧ (T 205 0 (23 * T 230 0 m + 0) = 1 → k = 1 ∨ k = 5)) ∧ ((T 205 0 (23 * T 230 0 m + 0) = 0 ∧ k = 0) ∨ (0 ≤ s ∧ s ≤ 1)))) → ((v = 1 ∧ ((T 205 0 (23 * T 230 0 m + 0) = 0 ∧ 0 < k) ∨ (T 205 0 (23 * T 230 0 m + 0) = 1 ∧ k = 5))) ∨ (v = 0 ∧ ¬ ((T 205 0 (23 * T 230 0 m + 0) = 0 ∧ 0 < k) ∨ (T 205 0 (23 * T 230 0 m + 0) = 1 ∧ k = 5)))) → (v = 1 → SL_ T (2 * m + s) p) → (v = 1 → k = 5 → SL_ T (2 * m + s) q) → J_ zX11_lawOf T (po_X11_lawOf T m k s p q) 0 0 163 [some (vR 111 0), some (vI m), some (vI k), some (vI s), some (vI p), some (vI q), some (vI (T 205 0 (23 * T 230 0 m + 0))), none, some (vI v)] [] T := by
    intro v t1 t2 v1 s1 s2
    refine j_blx (F := fX11) tb_X11 (nn_ _) bk_X11_lawOf_163 bs_X11_lawOf_163 hz (fun K hK => ?_)
    refine And.intro (fun c3 => ?_) (fun c3 => ?_)
    · refine hK 200 _ [] T ?_
      refine c_200 v ?_ ?_ ?_ ?_ ?_
      · omega
      · omega
      · omega
      · intro z
        first
        | (exfalso; omega)
        | exact sl1
        | exact s1 z
      · intro z y
        first
        | (exfalso; omega)
        | exact sl2
        | exact s2 z y
    · refine And.intro (fun c4 => ?_) (fun c4 => ?_)
      · refine hK 200 _ [] T ?_
        refine c_200 v ?_ ?_ ?_ ?_ ?_
        · omega
        · omega
        · omega
        · intro z
          first
          | (exfalso; omega)
          | exact sl1
          | exact s1 z
        · intro z y
          first
          | (exfalso; omega)
          | exact sl2
          | exact s2 z y
      · refine rg_i (by omega) ?_
        refine hK 179 _ [vI (6 + s), vI m, vR 111 0] T ?_
        refine j_callV (y := yX11_liveOf) (Yc := zX11_liveOf) (rest := []) [vI m, vI (6 + s)] (ct_X11_liveOf (T := T) (by omega) (by omega)) cl_X11_400 (qd_c (by decide +kernel)) (nn_ _) rfl (rf_of rfl) (Nat.le_of_ble_eq_true rfl) (Nat.le_of_ble_eq_true rfl) (Nat.le_of_ble_eq_true rfl) rfl ?_
        rintro _ _ ⟨rfl, rfl⟩
        show J_ zX11_lawOf T (po_X11_lawOf T m k s p q) 0 0 182 _ [vI (T 246 0 (8 * m + (6 + s)))] T
        refine j_blx (F := fX11) tb_X11 (nn_ _) bk_X11_lawOf_182 bs_X11_lawOf_182 hz (fun K hK => ?_)
        refine ix_i (by omega) ?_
        intro b5 b5b
        refine hK 191 _ [vI 10, vI (T 230 0 m), vR 111 0, vI (T 246 0 (8 * m + (6 + s)))] T ?_
        refine j_callV (y := yX11_rule0) (Yc := zX11_rule0) (rest := [vI (T 246 0 (8 * m + (6 + s)))]) [vI (T 230 0 m), vI 10] (ct_X11_rule0 (T := T) (by omega) (by omega)) cl_X11_321 (qd_c (by decide +kernel)) (nn_ _) rfl (rf_of rfl) (Nat.le_of_ble_eq_true rfl) (Nat.le_of_ble_eq_true rfl) (Nat.le_of_ble_eq_true rfl) rfl ?_
        rintro _ _ ⟨rfl, rfl⟩
        show J_ zX11_lawOf T (po_X11_lawOf T m k s p q) 0 0 194 _ [vI (T 205 0 (23 * (T 230 0 m) + 10)), vI (T 246 0 (8 * m + (6 + s)))] T
        refine j_blx (F := fX11) tb_X11 (nn_ _) bk_X11_lawOf_194 bs_X11_lawOf_194 hz (fun K hK => ?_)
        refine And.intro (fun c6 => ?_) (fun c6 => ?_)
        · refine hK 200 _ [] T ?_
          refine c_200 v ?_ ?_ ?_ ?_ ?_
          · omega
          · omega
          · omega
          · intro z
            first
            | (exfalso; omega)
            | exact sl1
            | exact s1 z
          · intro z y
            first
            | (exfalso; omega)
            | exact sl2
            | exact s2 z y
        · refine (show po_X11_lawOf T m k s p q T (some (vI 6)) from ?_)
          exact ⟨rfl, _, rfl, by omega, fun z => absurd z (by decide)⟩
  have c_139 : ∀ (v : Int), (T 235 0 m = 1) → ((((T 205 0 (23 * T 230 0 m + 0) = 0 → 0 ≤ k ∧ k ≤ 5) ∧ (T 205 0 (23 * T 230 0 m + 0) = 1 → k = 1 ∨ k = 5)) ∧ ((T 205 0 (23 * T 230 0 m + 0) = 0 ∧ k = 0) ∨ (0 ≤ s ∧ s ≤ 1)))) → ((v = 1 ∧ ((T 205 0 (23 * T 230 0 m + 0) = 0 ∧ 0 < k) ∨ (T 205 0 (23 * T 230 0 m + 0) = 1 ∧ k = 5))) ∨ (v = 0 ∧ ¬ ((T 205 0 (23 * T 230 0 m + 0) = 0 ∧ 0 < k) ∨ (T 205 0 (23 * T 230 0 m + 0) = 1 ∧ k = 5)))) → (v = 1 → SL_ T (2 * m + s) p) → J_ zX11_lawOf T (po_X11_lawOf T m k s p q) 0 0 139 [some (vR 111 0), some (vI m), some (vI k), some (vI s), some (vI p), some (vI q), some (vI (T 205 0 (23 * T 230 0 m + 0))), none, some (vI v)] [] T := by
    intro v t1 t2 v1 s1
    refine j_blx (F := fX11) tb_X11 (nn_ _) bk_X11_lawOf_139 bs_X11_lawOf_139 hz (fun K hK => ?_)
    refine And.intro (fun c7 => ?_) (fun c7 => ?_)
    · refine hK 163 _ [] T ?_
      refine c_163 v ?_ ?_ ?_ ?_ ?_
      · omega
      · omega
      · omega
      · intro z
        first
        | (exfalso; omega)
        | exact sl1
        | exact s1 z
      · intro z y
        first
        | (exfalso; omega)
        | exact sl2
        | exact s2 z y
    · refine And.intro (fun c8 => ?_) (fun c8 => ?_)
      · refine hK 163 _ [] T ?_
        refine c_163 v ?_ ?_ ?_ ?_ ?_
        · omega
        · omega
        · omega
        · intro z
          first
          | (exfalso; omega)
          | exact sl1
          | exact s1 z
        · intro z y
          first
          | (exfalso; omega)
          | exact sl2
          | exact s2 z y
      · refine hK 155 _ [vI 0, vI q, vI s, vI m, vR 111 0] T ?_
        refine j_callV (y := yX11_stands) (Yc := zX11_stands) (rest := []) [vI m, vI s, vI q, vI 0] (ct_X11_stands (T := T) (by omega) (by omega)) cl_X11_403 (qd_c (by decide +kernel)) (nn_ _) rfl (rf_of rfl) (Nat.le_of_ble_eq_true rfl) (Nat.le_of_ble_eq_true rfl) (Nat.le_of_ble_eq_true rfl) rfl ?_
        rintro _ _ ⟨rfl, x9, rfl, hx9⟩
        show J_ zX11_lawOf T (po_X11_lawOf T m k s p q) 0 0 158 _ [vI x9] T
        refine j_blx (F := fX11) tb_X11 (nn_ _) bk_X11_lawOf_158 bs_X11_lawOf_158 hz (fun K hK => ?_)
        refine And.intro (fun c10 => ?_) (fun c10 => ?_)
        · have sl2 : SL_ T (2 * m + s) q := by
            rcases hx9 with z | z
            · exact z.2
            · omega
          refine hK 163 _ [] T ?_
          refine c_163 v ?_ ?_ ?_ ?_ ?_
          · omega
          · omega
          · omega
          · intro z
            first
            | (exfalso; omega)
            | exact sl1
            | exact s1 z
          · intro z y
            first
            | (exfalso; omega)
            | exact sl2
            | exact s2 z y
        · refine (show po_X11_lawOf T m k s p q T (some (vI 5)) from ?_)
          exact ⟨rfl, _, rfl, by omega, fun z => absurd z (by decide)⟩
  have c_118 : ∀ (v : Int), (T 235 0 m = 1) → ((((T 205 0 (23 * T 230 0 m + 0) = 0 → 0 ≤ k ∧ k ≤ 5) ∧ (T 205 0 (23 * T 230 0 m + 0) = 1 → k = 1 ∨ k = 5)) ∧ ((T 205 0 (23 * T 230 0 m + 0) = 0 ∧ k = 0) ∨ (0 ≤ s ∧ s ≤ 1)))) → ((v = 1 ∧ ((T 205 0 (23 * T 230 0 m + 0) = 0 ∧ 0 < k) ∨ (T 205 0 (23 * T 230 0 m + 0) = 1 ∧ k = 5))) ∨ (v = 0 ∧ ¬ ((T 205 0 (23 * T 230 0 m + 0) = 0 ∧ 0 < k) ∨ (T 205 0 (23 * T 230 0 m + 0) = 1 ∧ k = 5)))) → J_ zX11_lawOf T (po_X11_lawOf T m k s p q) 0 0 118 [some (vR 111 0), some (vI m), some (vI k), some (vI s), some (vI p), some (vI q), some (vI (T 205 0 (23 * T 230 0 m + 0))), none, none] [vI v] T := by
    intro v t1 t2 v1
    refine j_blx (F := fX11) tb_X11 (nn_ _) bk_X11_lawOf_118 bs_X11_lawOf_118 hz (fun K hK => ?_)
    refine And.intro (fun c11 => ?_) (fun c11 => ?_)
    · refine hK 139 [some (vR 111 0), some (vI m), some (vI k), some (vI s), some (vI p), some (vI q), some (vI (T 205 0 (23 * T 230 0 m + 0))), none, some (vI v)] [] T ?_
      refine c_139 v ?_ ?_ ?_ ?_
      · omega
      · omega
      · omega
      · intro z
        first
        | (exfalso; omega)
        | exact sl1
        | exact s1 z
    · refine hK 131 _ [vI 1, vI p, vI s, vI m, vR 111 0] T ?_
      refine j_callV (y := yX11_stands) (Yc := zX11_stands) (rest := []) [vI m, vI s, vI p, vI 1] (ct_X11_stands (T := T) (by omega) (by omega)) cl_X11_403 (qd_c (by decide +kernel)) (nn_ _) rfl (rf_of rfl) (Nat.le_of_ble_eq_true rfl) (Nat.le_of_ble_eq_true rfl) (Nat.le_of_ble_eq_true rfl) rfl ?_
      rintro _ _ ⟨rfl, x12, rfl, hx12⟩
      show J_ zX11_lawOf T (po_X11_lawOf T m k s p q) 0 0 134 _ [vI x12] T
      refine j_blx (F := fX11) tb_X11 (nn_ _) bk_X11_lawOf_134 bs_X11_lawOf_134 hz (fun K hK => ?_)
      refine And.intro (fun c13 => ?_) (fun c13 => ?_)
      · have sl1 : SL_ T (2 * m + s) p := by
          rcases hx12 with z | z
          · exact z.2
          · omega
        refine hK 139 _ [] T ?_
        refine c_139 v ?_ ?_ ?_ ?_
        · omega
        · omega
        · omega
        · intro z
          first
          | (exfalso; omega)
          | exact sl1
          | exact s1 z
      · refine (show po_X11_lawOf T m k s p q T (some (vI 4)) from ?_)
        exact ⟨rfl, _, rfl, by omega, fun z => absurd z (by decide)⟩
  have c_68 : ∀ (v : Int), (T 235 0 m = 1) → ((((T 205 0 (23 * T 230 0 m + 0) = 0 → 0 ≤ k ∧ k ≤ 5) ∧ (T 205 0 (23 * T 230 0 m + 0) = 1 → k = 1 ∨ k = 5)) ∧ ((T 205 0 (23 * T 230 0 m + 0) = 0 ∧ k = 0) ∨ (0 ≤ s ∧ s ≤ 1)))) → (v = 0 ∨ v = 1) → J_ zX11_lawOf T (po_X11_lawOf T m k s p q) 0 0 68 [some (vR 111 0), some (vI m), some (vI k), some (vI s), some (vI p), some (vI q), some (vI (T 205 0 (23 * T 230 0 m + 0))), none, none] [vI v] T := by
    intro v t1 t2 v0
    refine j_blx (F := fX11) tb_X11 (nn_ _) bk_X11_lawOf_68 bs_X11_lawOf_68 hz (fun K hK => ?_)
    refine And.intro (fun c14 => ?_) (fun c14 => ?_)
    · refine hK 91 [some (vR 111 0), some (vI m), some (vI k), some (vI s), some (vI p), some (vI q), some (vI (T 205 0 (23 * T 230 0 m + 0))), some (vI v), none] [] T ?_
      refine j_blx (F := fX11) tb_X11 (nn_ _) bk_X11_lawOf_91 bs_X11_lawOf_91 hz (fun K hK => ?_)
      refine (show po_X11_lawOf T m k s p q T (some (vI 3)) from ?_)
      exact ⟨rfl, _, rfl, by omega, fun z => absurd z (by decide)⟩
    · refine And.intro (fun c15 => ?_) (fun c15 => ?_)
      · refine hK 93 _ [] T ?_
        refine j_blx (F := fX11) tb_X11 (nn_ _) bk_X11_lawOf_93 bs_X11_lawOf_93 hz (fun K hK => ?_)
        refine And.intro (fun c16 => ?_) (fun c16 => ?_)
        · refine hK 102 _ [] T ?_
          refine j_blx (F := fX11) tb_X11 (nn_ _) bk_X11_lawOf_102 bs_X11_lawOf_102 hz (fun K hK => ?_)
          refine And.intro (fun c17 => ?_) (fun c17 => ?_)
          · refine hK 117 _ [] T ?_
            refine j_blx (F := fX11) tb_X11 (nn_ _) bk_X11_lawOf_117 bs_X11_lawOf_117 hz (fun K hK => ?_)
            refine hK 118 _ [vI 0] T ?_
            refine j_drop [some (vR 111 0), some (vI m), some (vI k), some (vI s), some (vI p), some (vI q), some (vI (T 205 0 (23 * T 230 0 m + 0))), none, none] (fun k v hk => ?_) rfl ?_
            · match k, hk with
              | 0, hk => exact hk
              | 1, hk => exact hk
              | 2, hk => exact hk
              | 3, hk => exact hk
              | 4, hk => exact hk
              | 5, hk => exact hk
              | 6, hk => exact hk
              | 7, hk => cases hk
              | 8, hk => cases hk
              | k + 9, hk => cases hk
            refine c_118 0 ?_ ?_ ?_
            · omega
            · omega
            · omega
          · refine And.intro (fun c18 => ?_) (fun c18 => ?_)
            · refine hK 117 [some (vR 111 0), some (vI m), some (vI k), some (vI s), some (vI p), some (vI q), some (vI (T 205 0 (23 * T 230 0 m + 0))), some (vI v), none] [] T ?_
              refine j_blx (F := fX11) tb_X11 (nn_ _) bk_X11_lawOf_117 bs_X11_lawOf_117 hz (fun K hK => ?_)
              refine hK 118 _ [vI 0] T ?_
              refine j_drop [some (vR 111 0), some (vI m), some (vI k), some (vI s), some (vI p), some (vI q), some (vI (T 205 0 (23 * T 230 0 m + 0))), none, none] (fun k v hk => ?_) rfl ?_
              · match k, hk with
                | 0, hk => exact hk
                | 1, hk => exact hk
                | 2, hk => exact hk
                | 3, hk => exact hk
                | 4, hk => exact hk
                | 5, hk => exact hk
                | 6, hk => exact hk
                | 7, hk => cases hk
                | 8, hk => cases hk
                | k + 9, hk => cases hk
              refine c_118 0 ?_ ?_ ?_
              · omega
              · omega
              · omega
            · refine hK 118 [some (vR 111 0), some (vI m), some (vI k), some (vI s), some (vI p), some (vI q), some (vI (T 205 0 (23 * T 230 0 m + 0))), some (vI v), none] [vI 1] T ?_
              refine j_drop [some (vR 111 0), some (vI m), some (vI k), some (vI s), some (vI p), some (vI q), some (vI (T 205 0 (23 * T 230 0 m + 0))), none, none] (fun k v hk => ?_) rfl ?_
              · match k, hk with
                | 0, hk => exact hk
                | 1, hk => exact hk
                | 2, hk => exact hk
                | 3, hk => exact hk
                | 4, hk => exact hk
                | 5, hk => exact hk
                | 6, hk => exact hk
                | 7, hk => cases hk
                | 8, hk => cases hk
                | k + 9, hk => cases hk
              refine c_118 1 ?_ ?_ ?_
              · omega
              · omega
              · omega
        · refine And.intro (fun c19 => ?_) (fun c19 => ?_)
          · refine hK 113 _ [] T ?_
            refine j_blx (F := fX11) tb_X11 (nn_ _) bk_X11_lawOf_113 bs_X11_lawOf_113 hz (fun K hK => ?_)
            refine hK 118 _ [vI 1] T ?_
            refine j_drop [some (vR 111 0), some (vI m), some (vI k), some (vI s), some (vI p), some (vI q), some (vI (T 205 0 (23 * T 230 0 m + 0))), none, none] (fun k v hk => ?_) rfl ?_
            · match k, hk with
              | 0, hk => exact hk
              | 1, hk => exact hk
              | 2, hk => exact hk
              | 3, hk => exact hk
              | 4, hk => exact hk
              | 5, hk => exact hk
              | 6, hk => exact hk
              | 7, hk => cases hk
              | 8, hk => cases hk
              | k + 9, hk => cases hk
            refine c_118 1 ?_ ?_ ?_
            · omega
            · omega
            · omega
          · refine And.intro (fun c20 => ?_) (fun c20 => ?_)
            · refine hK 117 [some (vR 111 0), some (vI m), some (vI k), some (vI s), some (vI p), some (vI q), some (vI (T 205 0 (23 * T 230 0 m + 0))), some (vI v), none] [] T ?_
              refine j_blx (F := fX11) tb_X11 (nn_ _) bk_X11_lawOf_117 bs_X11_lawOf_117 hz (fun K hK => ?_)
              refine hK 118 _ [vI 0] T ?_
              refine j_drop [some (vR 111 0), some (vI m), some (vI k), some (vI s), some (vI p), some (vI q), some (vI (T 205 0 (23 * T 230 0 m + 0))), none, none] (fun k v hk => ?_) rfl ?_
              · match k, hk with
                | 0, hk => exact hk
                | 1, hk => exact hk
                | 2, hk => exact hk
                | 3, hk => exact hk
                | 4, hk => exact hk
                | 5, hk => exact hk
                | 6, hk => exact hk
                | 7, hk => cases hk
                | 8, hk => cases hk
                | k + 9, hk => cases hk
              refine c_118 0 ?_ ?_ ?_
              · omega
              · omega
              · omega
            · refine And.intro (fun c21 => ?_) (fun c21 => ?_)
              · refine hK 117 [some (vR 111 0), some (vI m), some (vI k), some (vI s), some (vI p), some (vI q), some (vI (T 205 0 (23 * T 230 0 m + 0))), some (vI v), none] [] T ?_
                refine j_blx (F := fX11) tb_X11 (nn_ _) bk_X11_lawOf_117 bs_X11_lawOf_117 hz (fun K hK => ?_)
                refine hK 118 _ [vI 0] T ?_
                refine j_drop [some (vR 111 0), some (vI m), some (vI k), some (vI s), some (vI p), some (vI q), some (vI (T 205 0 (23 * T 230 0 m + 0))), none, none] (fun k v hk => ?_) rfl ?_
                · match k, hk with
                  | 0, hk => exact hk
                  | 1, hk => exact hk
                  | 2, hk => exact hk
                  | 3, hk => exact hk
                  | 4, hk => exact hk
                  | 5, hk => exact hk
                  | 6, hk => exact hk
                  | 7, hk => cases hk
                  | 8, hk => cases hk
                  | k + 9, hk => cases hk
                refine c_118 0 ?_ ?_ ?_
                · omega
                · omega
                · omega
              · refine hK 118 [some (vR 111 0), some (vI m), some (vI k), some (vI s), some (vI p), some (vI q), some (vI (T 205 0 (23 * T 230 0 m + 0))), some (vI v), none] [vI 1] T ?_
                refine j_drop [some (vR 111 0), some (vI m), some (vI k), some (vI s), some (vI p), some (vI q), some (vI (T 205 0 (23 * T 230 0 m + 0))), none, none] (fun k v hk => ?_) rfl ?_
                · match k, hk with
                  | 0, hk => exact hk
                  | 1, hk => exact hk
                  | 2, hk => exact hk
                  | 3, hk => exact hk
                  | 4, hk => exact hk
                  | 5, hk => exact hk
                  | 6, hk => exact hk
                  | 7, hk => cases hk
                  | 8, hk => cases hk
                  | k + 9, hk => cases hk
                refine c_118 1 ?_ ?_ ?_
                · omega
                · omega
                · omega
      · refine hK 84 _ [vI 5, vI m, vR 111 0] T ?_
        refine j_callV (y := yX11_liveOf) (Yc := zX11_liveOf) (rest := []) [vI m, vI 5] (ct_X11_liveOf (T := T) (by omega) (by omega)) cl_X11_400 (qd_c (by decide +kernel)) (nn_ _) rfl (rf_of rfl) (Nat.le_of_ble_eq_true rfl) (Nat.le_of_ble_eq_true rfl) (Nat.le_of_ble_eq_true rfl) rfl ?_
        rintro _ _ ⟨rfl, rfl⟩
        show J_ zX11_lawOf T (po_X11_lawOf T m k s p q) 0 0 87 _ [vI (T 246 0 (8 * m + 5))] T
        refine j_blx (F := fX11) tb_X11 (nn_ _) bk_X11_lawOf_87 bs_X11_lawOf_87 hz (fun K hK => ?_)
        refine And.intro (fun c22 => ?_) (fun c22 => ?_)
        · refine hK 93 _ [] T ?_
          refine j_blx (F := fX11) tb_X11 (nn_ _) bk_X11_lawOf_93 bs_X11_lawOf_93 hz (fun K hK => ?_)
          refine And.intro (fun c23 => ?_) (fun c23 => ?_)
          · refine hK 102 _ [] T ?_
            refine j_blx (F := fX11) tb_X11 (nn_ _) bk_X11_lawOf_102 bs_X11_lawOf_102 hz (fun K hK => ?_)
            refine And.intro (fun c24 => ?_) (fun c24 => ?_)
            · refine hK 117 _ [] T ?_
              refine j_blx (F := fX11) tb_X11 (nn_ _) bk_X11_lawOf_117 bs_X11_lawOf_117 hz (fun K hK => ?_)
              refine hK 118 _ [vI 0] T ?_
              refine j_drop [some (vR 111 0), some (vI m), some (vI k), some (vI s), some (vI p), some (vI q), some (vI (T 205 0 (23 * T 230 0 m + 0))), none, none] (fun k v hk => ?_) rfl ?_
              · match k, hk with
                | 0, hk => exact hk
                | 1, hk => exact hk
                | 2, hk => exact hk
                | 3, hk => exact hk
                | 4, hk => exact hk
                | 5, hk => exact hk
                | 6, hk => exact hk
                | 7, hk => cases hk
                | 8, hk => cases hk
                | k + 9, hk => cases hk
              refine c_118 0 ?_ ?_ ?_
              · omega
              · omega
              · omega
            · refine And.intro (fun c25 => ?_) (fun c25 => ?_)
              · refine hK 117 [some (vR 111 0), some (vI m), some (vI k), some (vI s), some (vI p), some (vI q), some (vI (T 205 0 (23 * T 230 0 m + 0))), some (vI v), none] [] T ?_
                refine j_blx (F := fX11) tb_X11 (nn_ _) bk_X11_lawOf_117 bs_X11_lawOf_117 hz (fun K hK => ?_)
                refine hK 118 _ [vI 0] T ?_
                refine j_drop [some (vR 111 0), some (vI m), some (vI k), some (vI s), some (vI p), some (vI q), some (vI (T 205 0 (23 * T 230 0 m + 0))), none, none] (fun k v hk => ?_) rfl ?_
                · match k, hk with
                  | 0, hk => exact hk
                  | 1, hk => exact hk
                  | 2, hk => exact hk
                  | 3, hk => exact hk
                  | 4, hk => exact hk
                  | 5, hk => exact hk
                  | 6, hk => exact hk
                  | 7, hk => cases hk
                  | 8, hk => cases hk
                  | k + 9, hk => cases hk
                refine c_118 0 ?_ ?_ ?_
                · omega
                · omega
                · omega
              · refine hK 118 [some (vR 111 0), some (vI m), some (vI k), some (vI s), some (vI p), some (vI q), some (vI (T 205 0 (23 * T 230 0 m + 0))), some (vI v), none] [vI 1] T ?_
                refine j_drop [some (vR 111 0), some (vI m), some (vI k), some (vI s), some (vI p), some (vI q), some (vI (T 205 0 (23 * T 230 0 m + 0))), none, none] (fun k v hk => ?_) rfl ?_
                · match k, hk with
                  | 0, hk => exact hk
                  | 1, hk => exact hk
                  | 2, hk => exact hk
                  | 3, hk => exact hk
                  | 4, hk => exact hk
                  | 5, hk => exact hk
                  | 6, hk => exact hk
                  | 7, hk => cases hk
                  | 8, hk => cases hk
                  | k + 9, hk => cases hk
                refine c_118 1 ?_ ?_ ?_
                · omega
                · omega
                · omega
          · refine And.intro (fun c26 => ?_) (fun c26 => ?_)
            · refine hK 113 _ [] T ?_
              refine j_blx (F := fX11) tb_X11 (nn_ _) bk_X11_lawOf_113 bs_X11_lawOf_113 hz (fun K hK => ?_)
              refine hK 118 _ [vI 1] T ?_
              refine j_drop [some (vR 111 0), some (vI m), some (vI k), some (vI s), some (vI p), some (vI q), some (vI (T 205 0 (23 * T 230 0 m + 0))), none, none] (fun k v hk => ?_) rfl ?_
              · match k, hk with
                | 0, hk => exact hk
                | 1, hk => exact hk
                | 2, hk => exact hk
                | 3, hk => exact hk
                | 4, hk => exact hk
                | 5, hk => exact hk
                | 6, hk => exact hk
                | 7, hk => cases hk
                | 8, hk => cases hk
                | k + 9, hk => cases hk
              refine c_118 1 ?_ ?_ ?_
              · omega
              · omega
              · omega
            · refine And.intro (fun c27 => ?_) (fun c27 => ?_)
              · refine hK 117 [some (vR 111 0), some (vI m), some (vI k), some (vI s), some (vI p), some (vI q), some (vI (T 205 0 (23 * T 230 0 m + 0))), some (vI v), none] [] T ?_
                refine j_blx (F := fX11) tb_X11 (nn_ _) bk_X11_lawOf_117 bs_X11_lawOf_117 hz (fun K hK => ?_)
                refine hK 118 _ [vI 0] T ?_
                refine j_drop [some (vR 111 0), some (vI m), some (vI k), some (vI s), some (vI p), some (vI q), some (vI (T 205 0 (23 * T 230 0 m + 0))), none, none] (fun k v hk => ?_) rfl ?_
                · match k, hk with
                  | 0, hk => exact hk
                  | 1, hk => exact hk
                  | 2, hk => exact hk
                  | 3, hk => exact hk
                  | 4, hk => exact hk
                  | 5, hk => exact hk
                  | 6, hk => exact hk
                  | 7, hk => cases hk
                  | 8, hk => cases hk
                  | k + 9, hk => cases hk
                refine c_118 0 ?_ ?_ ?_
                · omega
                · omega
                · omega
              · refine And.intro (fun c28 => ?_) (fun c28 => ?_)
                · refine hK 117 [some (vR 111 0), some (vI m), some (vI k), some (vI s), some (vI p), some (vI q), some (vI (T 205 0 (23 * T 230 0 m + 0))), some (vI v), none] [] T ?_
                  refine j_blx (F := fX11) tb_X11 (nn_ _) bk_X11_lawOf_117 bs_X11_lawOf_117 hz (fun K hK => ?_)
                  refine hK 118 _ [vI 0] T ?_
                  refine j_drop [some (vR 111 0), some (vI m), some (vI k), some (vI s), some (vI p), some (vI q), some (vI (T 205 0 (23 * T 230 0 m + 0))), none, none] (fun k v hk => ?_) rfl ?_
                  · match k, hk with
                    | 0, hk => exact hk
                    | 1, hk => exact hk
                    | 2, hk => exact hk
                    | 3, hk => exact hk
                    | 4, hk => exact hk
                    | 5, hk => exact hk
                    | 6, hk => exact hk
                    | 7, hk => cases hk
                    | 8, hk => cases hk
                    | k + 9, hk => cases hk
                  refine c_118 0 ?_ ?_ ?_
                  · omega
                  · omega
                  · omega
                · refine hK 118 [some (vR 111 0), some (vI m), some (vI k), some (vI s), some (vI p), some (vI q), some (vI (T 205 0 (23 * T 230 0 m + 0))), some (vI v), none] [vI 1] T ?_
                  refine j_drop [some (vR 111 0), some (vI m), some (vI k), some (vI s), some (vI p), some (vI q), some (vI (T 205 0 (23 * T 230 0 m + 0))), none, none] (fun k v hk => ?_) rfl ?_
                  · match k, hk with
                    | 0, hk => exact hk
                    | 1, hk => exact hk
                    | 2, hk => exact hk
                    | 3, hk => exact hk
                    | 4, hk => exact hk
                    | 5, hk => exact hk
                    | 6, hk => exact hk
                    | 7, hk => cases hk
                    | 8, hk => cases hk
                    | k + 9, hk => cases hk
                  refine c_118 1 ?_ ?_ ?_
                  · omega
                  · omega
                  · omega
        · refine (show po_X11_lawOf T m k s p q T (some (vI 3)) from ?_)
          exact ⟨rfl, _, rfl, by omega, fun z => absurd z (by decide)⟩
  refine j_blx (F := fX11) tb_X11 (nn_ _) bk_X11_lawOf_0 bs_X11_lawOf_0 hz (fun K hK => ?_)
  refine ix_i (by omega) ?_
  intro b29 b29b
  refine hK 8 _ [vI 0, vI (T 230 0 m), vR 111 0] T ?_
  refine j_callV (y := yX11_rule0) (Yc := zX11_rule0) (rest := []) [vI (T 230 0 m), vI 0] (ct_X11_rule0 (T := T) (by omega) (by omega)) cl_X11_321 (qd_c (by decide +kernel)) (nn_ _) rfl (rf_of rfl) (Nat.le_of_ble_eq_true rfl) (Nat.le_of_ble_eq_true rfl) (Nat.le_of_ble_eq_true rfl) rfl ?_
  rintro _ _ ⟨rfl, rfl⟩
  show J_ zX11_lawOf T (po_X11_lawOf T m k s p q) 0 0 11 _ [vI (T 205 0 (23 * (T 230 0 m) + 0))] T
  refine j_blx (F := fX11) tb_X11 (nn_ _) bk_X11_lawOf_11 bs_X11_lawOf_11 hz (fun K hK => ?_)
  refine ix_i (by omega) ?_
  intro b30 b30b
  refine And.intro (fun c31 => ?_) (fun c31 => ?_)
  · refine hK 25 [some (vR 111 0), some (vI m), some (vI k), some (vI s), some (vI p), some (vI q), some (vI (T 205 0 (23 * (T 230 0 m) + 0))), none, none] [] T ?_
    refine j_blx (F := fX11) tb_X11 (nn_ _) bk_X11_lawOf_25 bs_X11_lawOf_25 hz (fun K hK => ?_)
    refine hK 30 _ [vI s, vI k, vI (T 205 0 (23 * (T 230 0 m) + 0)), vR 111 0] T ?_
    refine j_callV (y := yX11_isTold) (Yc := zX11_isTold) (rest := []) [vI (T 205 0 (23 * (T 230 0 m) + 0)), vI k, vI s] (ct_X11_isTold (T := T)) cl_X11_397 (qd_c (by decide +kernel)) (nn_ _) rfl (rf_of rfl) (Nat.le_of_ble_eq_true rfl) (Nat.le_of_ble_eq_true rfl) (Nat.le_of_ble_eq_true rfl) rfl ?_
    rintro _ _ ⟨rfl, x32, rfl, hx32⟩
    show J_ zX11_lawOf T (po_X11_lawOf T m k s p q) 0 0 33 _ [vI x32] T
    refine j_blx (F := fX11) tb_X11 (nn_ _) bk_X11_lawOf_33 bs_X11_lawOf_33 hz (fun K hK => ?_)
    refine And.intro (fun c33 => ?_) (fun c33 => ?_)
    · refine hK 38 _ [] T ?_
      refine j_blx (F := fX11) tb_X11 (nn_ _) bk_X11_lawOf_38 bs_X11_lawOf_38 hz (fun K hK => ?_)
      refine And.intro (fun c34 => ?_) (fun c34 => ?_)
      · refine hK 67 _ [] T ?_
        refine j_blx (F := fX11) tb_X11 (nn_ _) bk_X11_lawOf_67 bs_X11_lawOf_67 hz (fun K hK => ?_)
        refine hK 68 _ [vI 0] T ?_
        refine c_68 0 ?_ ?_ ?_
        · omega
        · omega
        · omega
      · refine And.intro (fun c35 => ?_) (fun c35 => ?_)
        · refine hK 53 _ [] T ?_
          refine j_blx (F := fX11) tb_X11 (nn_ _) bk_X11_lawOf_53 bs_X11_lawOf_53 hz (fun K hK => ?_)
          refine hK 56 _ [vI 0, vI m, vR 111 0] T ?_
          refine j_callV (y := yX11_liveOf) (Yc := zX11_liveOf) (rest := []) [vI m, vI 0] (ct_X11_liveOf (T := T) (by omega) (by omega)) cl_X11_400 (qd_c (by decide +kernel)) (nn_ _) rfl (rf_of rfl) (Nat.le_of_ble_eq_true rfl) (Nat.le_of_ble_eq_true rfl) (Nat.le_of_ble_eq_true rfl) rfl ?_
          rintro _ _ ⟨rfl, rfl⟩
          show J_ zX11_lawOf T (po_X11_lawOf T m k s p q) 0 0 59 _ [vI (T 246 0 (8 * m + 0))] T
          refine j_blx (F := fX11) tb_X11 (nn_ _) bk_X11_lawOf_59 bs_X11_lawOf_59 hz (fun K hK => ?_)
          refine And.intro (fun c36 => ?_) (fun c36 => ?_)
          · refine hK 67 _ [] T ?_
            refine j_blx (F := fX11) tb_X11 (nn_ _) bk_X11_lawOf_67 bs_X11_lawOf_67 hz (fun K hK => ?_)
            refine hK 68 _ [vI 0] T ?_
            refine c_68 0 ?_ ?_ ?_
            · omega
            · omega
            · omega
          · refine hK 68 _ [vI 1] T ?_
            refine c_68 1 ?_ ?_ ?_
            · omega
            · omega
            · omega
        · refine And.intro (fun c37 => ?_) (fun c37 => ?_)
          · refine hK 67 _ [] T ?_
            refine j_blx (F := fX11) tb_X11 (nn_ _) bk_X11_lawOf_67 bs_X11_lawOf_67 hz (fun K hK => ?_)
            refine hK 68 _ [vI 0] T ?_
            refine c_68 0 ?_ ?_ ?_
            · omega
            · omega
            · omega
          · refine hK 56 _ [vI 0, vI m, vR 111 0] T ?_
            refine j_callV (y := yX11_liveOf) (Yc := zX11_liveOf) (rest := []) [vI m, vI 0] (ct_X11_liveOf (T := T) (by omega) (by omega)) cl_X11_400 (qd_c (by decide +kernel)) (nn_ _) rfl (rf_of rfl) (Nat.le_of_ble_eq_true rfl) (Nat.le_of_ble_eq_true rfl) (Nat.le_of_ble_eq_true rfl) rfl ?_
            rintro _ _ ⟨rfl, rfl⟩
            show J_ zX11_lawOf T (po_X11_lawOf T m k s p q) 0 0 59 _ [vI (T 246 0 (8 * m + 0))] T
            refine j_blx (F := fX11) tb_X11 (nn_ _) bk_X11_lawOf_59 bs_X11_lawOf_59 hz (fun K hK => ?_)
            refine And.intro (fun c38 => ?_) (fun c38 => ?_)
            · refine hK 67 _ [] T ?_
              refine j_blx (F := fX11) tb_X11 (nn_ _) bk_X11_lawOf_67 bs_X11_lawOf_67 hz (fun K hK => ?_)
              refine hK 68 _ [vI 0] T ?_
              refine c_68 0 ?_ ?_ ?_
              · omega
              · omega
              · omega
            · refine hK 68 _ [vI 1] T ?_
              refine c_68 1 ?_ ?_ ?_
              · omega
              · omega
              · omega
    · refine (show po_X11_lawOf T m k s p q T (some (vI 2)) from ?_)
      exact ⟨rfl, _, rfl, by omega, fun z => absurd z (by decide)⟩
  · refine (show po_X11_lawOf T m k s p q T (some (vI 1)) from ?_)
    exact ⟨rfl, _, rfl, by omega, fun z => absurd z (by decide)⟩
abbrev cX11_addScore : ByteArray := prog_13_method_57_code
def yX11_addScore : MethodName := ⟨RX11, "addScore", "(III)V"⟩
def zX11_addScore : Zm := (RX11, cX11_addScore, 4, none, { frames := 0, cells := 0, slots := 0, locals := 0 })
theorem bk_X11_addScore_0 : ck_ fX11 none cX11_addScore 0 [.aload 0, .tableswitch 0 11 36 #[], .iload 1, .dup2, .iaload, .iload 2, .ifCond .ne 15, .iload 3, .goto 16] 15 = true := qck_r (nn_ _) (by decide +kernel)
theorem bs_X11_addScore_0 {P : Zt → Option Zv → Prop} (K : Int → Zl → List Zv → Zt → Prop) : sx_ K P [.aload 0, .tableswitch 0 11 36 #[], .iload 1, .dup2, .iaload, .iload 2, .ifCond .ne 15, .iload 3, .goto 16] 15 = x_aload 0 (x_g1 111 236 (x_iload 1 (x_dup2 (x_iaload (x_iload 2 (x_ifCond .ne 15 K (x_iload 3 (x_goto 16 K)))))))) := ((xe_aload 0).trans (congrArg (x_aload 0) ((xe_g1 (kk := 111) rfl tl_11_36).trans (congrArg (x_g1 111 236) ((xe_iload 1).trans (congrArg (x_iload 1) ((xe_dup2).trans (congrArg (x_dup2) ((xe_iaload).trans (congrArg (x_iaload) ((xe_iload 2).trans (congrArg (x_iload 2) ((xe_ifCond .ne 15).trans (congrArg (x_ifCond .ne 15 K) ((xe_iload 3).trans (congrArg (x_iload 3) (xe_goto 16)))))))))))))))))
theorem bk_X11_addScore_15 : ck_ fX11 none cX11_addScore 15 [.iconst 0, .iadd, .iastore, .aload 0, .tableswitch 0 11 37 #[], .iload 1, .dup2, .iaload, .iload 2, .iconst 1, .if_icmp .ne 34, .iload 3, .goto 35] 34 = true := qck_r (nn_ _) (by decide +kernel)
theorem bs_X11_addScore_15 {P : Zt → Option Zv → Prop} (K : Int → Zl → List Zv → Zt → Prop) : sx_ K P [.iconst 0, .iadd, .iastore, .aload 0, .tableswitch 0 11 37 #[], .iload 1, .dup2, .iaload, .iload 2, .iconst 1, .if_icmp .ne 34, .iload 3, .goto 35] 34 = x_iconst 0 (x_iadd (x_iastore (x_aload 0 (x_g1 111 237 (x_iload 1 (x_dup2 (x_iaload (x_iload 2 (x_iconst 1 (x_if_icmp .ne 34 K (x_iload 3 (x_goto 35 K)))))))))))) := ((xe_iconst 0).trans (congrArg (x_iconst 0) ((xe_iadd).trans (congrArg (x_iadd) ((xe_iastore).trans (congrArg (x_iastore) ((xe_aload 0).trans (congrArg (x_aload 0) ((xe_g1 (kk := 111) rfl tl_11_37).trans (congrArg (x_g1 111 237) ((xe_iload 1).trans (congrArg (x_iload 1) ((xe_dup2).trans (congrArg (x_dup2) ((xe_iaload).trans (congrArg (x_iaload) ((xe_iload 2).trans (congrArg (x_iload 2) ((xe_iconst 1).trans (congrArg (x_iconst 1) ((xe_if_icmp .ne 34).trans (congrArg (x_if_icmp .ne 34 K) ((xe_iload 3).trans (congrArg (x_iload 3) (xe_goto 35)))))))))))))))))))))))))
theorem bk_X11_addScore_34 : ck_ fX11 none cX11_addScore 34 [.iconst 0, .iadd, .iastore, .return_] 38 = true := qck_r (nn_ _) (by decide +kernel)
theorem bs_X11_addScore_34 {P : Zt → Option Zv → Prop} (K : Int → Zl → List Zv → Zt → Prop) : sx_ K P [.iconst 0, .iadd, .iastore, .return_] 38 = x_iconst 0 (x_iadd (x_iastore (x_return_ P))) := ((xe_iconst 0).trans (congrArg (x_iconst 0) ((xe_iadd).trans (congrArg (x_iadd) ((xe_iastore).trans (congrArg (x_iastore) (xe_return_)))))))
theorem bk_X11_addScore_35 : ck_ fX11 none cX11_addScore 35 [.iadd, .iastore, .return_] 38 = true := qck_r (nn_ _) (by decide +kernel)
theorem bs_X11_addScore_35 {P : Zt → Option Zv → Prop} (K : Int → Zl → List Zv → Zt → Prop) : sx_ K P [.iadd, .iastore, .return_] 38 = x_iadd (x_iastore (x_return_ P)) := ((xe_iadd).trans (congrArg (x_iadd) ((xe_iastore).trans (congrArg (x_iastore) (xe_return_)))))
theorem bk_X11_addScore_16 : ck_ fX11 none cX11_addScore 16 [.iadd, .iastore, .aload 0, .tableswitch 0 11 37 #[], .iload 1, .dup2, .iaload, .iload 2, .iconst 1, .if_icmp .ne 34, .iload 3, .goto 35] 34 = true := qck_r (nn_ _) (by decide +kernel)
theorem bs_X11_addScore_16 {P : Zt → Option Zv → Prop} (K : Int → Zl → List Zv → Zt → Prop) : sx_ K P [.iadd, .iastore, .aload 0, .tableswitch 0 11 37 #[], .iload 1, .dup2, .iaload, .iload 2, .iconst 1, .if_icmp .ne 34, .iload 3, .goto 35] 34 = x_iadd (x_iastore (x_aload 0 (x_g1 111 237 (x_iload 1 (x_dup2 (x_iaload (x_iload 2 (x_iconst 1 (x_if_icmp .ne 34 K (x_iload 3 (x_goto 35 K))))))))))) := ((xe_iadd).trans (congrArg (x_iadd) ((xe_iastore).trans (congrArg (x_iastore) ((xe_aload 0).trans (congrArg (x_aload 0) ((xe_g1 (kk := 111) rfl tl_11_37).trans (congrArg (x_g1 111 237) ((xe_iload 1).trans (congrArg (x_iload 1) ((xe_dup2).trans (congrArg (x_dup2) ((xe_iaload).trans (congrArg (x_iaload) ((xe_iload 2).trans (congrArg (x_iload 2) ((xe_iconst 1).trans (congrArg (x_iconst 1) ((xe_if_icmp .ne 34).trans (congrArg (x_if_icmp .ne 34 K) ((xe_iload 3).trans (congrArg (x_iload 3) (xe_goto 35)))))))))))))))))))))))
abbrev po_X11_addScore (T : Zt) (bu : Int) (m s v : Int) : Zt → Option Zv → Prop := fun T' r => r = none ∧ fr_ [(236, []), (237, [])] T T' ∧ (SO_ T T' m ∧ SB1_ T' m (bu + 4))
set_option maxHeartbeats 4000000 in
theorem ct_X11_addScore {T : Zt} {bu : Int} {m s v : Int} (h1 : 0 ≤ m ∧ m < 400) (hv : 0 ≤ v ∧ v ≤ 4) (hbu : 9 ≤ bu ∧ bu ≤ 19000) (hsb : SB1_ T m bu) : Ct_ yX11_addScore zX11_addScore T [vR 111 0, vI m, vI s, vI v] (po_X11_addScore T bu m s v) := by
  refine ct_of pn_11 rfl rfl (Nat.le_of_ble_eq_true rfl) (fun hT hav => ?_)
  have hr_m : -2147483648 ≤ m ∧ m ≤ 2147483647 := hav (vI m) (by simp)
  have hr_s : -2147483648 ≤ s ∧ s ≤ 2147483647 := hav (vI s) (by simp)
  have hr_v : -2147483648 ≤ v ∧ v ≤ 2147483647 := hav (vI v) (by simp)
  have hz : zX11_addScore.2.2.2.1 = some .boolean → ∀ (T' : Zt) (x : Int), po_X11_addScore T bu m s v T' (some (vI x)) → 0 ≤ x ∧ x ≤ 1 := fun h => by cases h
  have hs0 := hsb.1
  have hs1 := hsb.2.1
  show J_ zX11_addScore T (po_X11_addScore T bu m s v) 0 0 0 [some (vR 111 0), some (vI m), some (vI s), some (vI v)] [] T
  refine j_blx (F := fX11) tb_X11 (nn_ _) bk_X11_addScore_0 bs_X11_addScore_0 hz (fun K hK => ?_)
  refine ix_i (by omega) ?_
  intro b1 b1b
  refine And.intro (fun c2 => ?_) (fun c2 => ?_)
  · refine hK 15 _ [vI (T 236 0 m), vI m, vR 236 0] T ?_
    refine j_blx (F := fX11) tb_X11 (nn_ _) bk_X11_addScore_15 bs_X11_addScore_15 hz (fun K hK => ?_)
    refine rg_i (by omega) ?_
    refine iy_i (by omega) (by omega) ?_
    refine x_nm (fun U3 hU3 => ?_)
    have e4 := up_f hU3
    refine ix_i (by omega) ?_
    intro b5 b5b
    have e6 : U3 237 0 m = T 237 0 m := up_k hU3 (by exact Nat.ne_of_beq_eq_false rfl) 0 m
    rw [e6] at b5 b5b ⊢
    refine And.intro (fun c7 => ?_) (fun c7 => ?_)
    · refine hK 34 _ [vI (T 237 0 m), vI m, vR 237 0] U3 ?_
      refine j_blx (F := fX11) tb_X11 (nn_ _) bk_X11_addScore_34 bs_X11_addScore_34 hz (fun K hK => ?_)
      refine rg_i (by omega) ?_
      refine iy_i (by omega) (by omega) ?_
      refine x_nm (fun U8 hU8 => ?_)
      have e9 := up_f hU8
      refine (show po_X11_addScore T bu m s v U8 (none) from ?_)
      exact ⟨rfl, fr_u (fr_u (fr_0 _ _) hU3 rfl) hU8 rfl, so_1 (so_0 (so_r) hU3) hU8, sb1_1 (sb1_0 (sb1_m (c := bu + 4) hsb (by omega)) hU3 (by omega)) hU8 (by omega)⟩
    · refine hK 35 _ [vI v, vI (T 237 0 m), vI m, vR 237 0] U3 ?_
      refine j_blx (F := fX11) tb_X11 (nn_ _) bk_X11_addScore_35 bs_X11_addScore_35 hz (fun K hK => ?_)
      refine rg_i (by omega) ?_
      refine iy_i (by omega) (by omega) ?_
      refine x_nm (fun U10 hU10 => ?_)
      have e11 := up_f hU10
      refine (show po_X11_addScore T bu m s v U10 (none) from ?_)
      exact ⟨rfl, fr_u (fr_u (fr_0 _ _) hU3 rfl) hU10 rfl, so_1 (so_0 (so_r) hU3) hU10, sb1_1 (sb1_0 (sb1_m (c := bu + 4) hsb (by omega)) hU3 (by omega)) hU10 (by omega)⟩
  · refine hK 16 _ [vI v, vI (T 236 0 m), vI m, vR 236 0] T ?_
    refine j_blx (F := fX11) tb_X11 (nn_ _) bk_X11_addScore_16 bs_X11_addScore_16 hz (fun K hK => ?_)
    refine rg_i (by omega) ?_
    refine iy_i (by omega) (by omega) ?_
    refine x_nm (fun U12 hU12 => ?_)
    have e13 := up_f hU12
    refine ix_i (by omega) ?_
    intro b14 b14b
    have e15 : U12 237 0 m = T 237 0 m := up_k hU12 (by exact Nat.ne_of_beq_eq_false rfl) 0 m
    rw [e15] at b14 b14b ⊢
    refine And.intro (fun c16 => ?_) (fun c16 => ?_)
    · refine hK 34 _ [vI (T 237 0 m), vI m, vR 237 0] U12 ?_
      refine j_blx (F := fX11) tb_X11 (nn_ _) bk_X11_addScore_34 bs_X11_addScore_34 hz (fun K hK => ?_)
      refine rg_i (by omega) ?_
      refine iy_i (by omega) (by omega) ?_
      refine x_nm (fun U17 hU17 => ?_)
      have e18 := up_f hU17
      refine (show po_X11_addScore T bu m s v U17 (none) from ?_)
      exact ⟨rfl, fr_u (fr_u (fr_0 _ _) hU12 rfl) hU17 rfl, so_1 (so_0 (so_r) hU12) hU17, sb1_1 (sb1_0 (sb1_m (c := bu + 4) hsb (by omega)) hU12 (by omega)) hU17 (by omega)⟩
    · refine hK 35 _ [vI v, vI (T 237 0 m), vI m, vR 237 0] U12 ?_
      refine j_blx (F := fX11) tb_X11 (nn_ _) bk_X11_addScore_35 bs_X11_addScore_35 hz (fun K hK => ?_)
      refine rg_i (by omega) ?_
      refine iy_i (by omega) (by omega) ?_
      refine x_nm (fun U19 hU19 => ?_)
      have e20 := up_f hU19
      refine (show po_X11_addScore T bu m s v U19 (none) from ?_)
      exact ⟨rfl, fr_u (fr_u (fr_0 _ _) hU12 rfl) hU19 rfl, so_1 (so_0 (so_r) hU12) hU19, sb1_1 (sb1_0 (sb1_m (c := bu + 4) hsb (by omega)) hU12 (by omega)) hU19 (by omega)⟩
abbrev cX11_scoreOf : ByteArray := prog_13_method_58_code
def yX11_scoreOf : MethodName := ⟨RX11, "scoreOf", "(II)I"⟩
def zX11_scoreOf : Zm := (RX11, cX11_scoreOf, 3, (some .int), { frames := 0, cells := 0, slots := 0, locals := 0 })
theorem bk_X11_scoreOf_0 : ck_ fX11 (some .int) cX11_scoreOf 0 [.iload 2, .ifCond .ne 13, .aload 0, .tableswitch 0 11 36 #[], .iload 1, .iaload, .goto 19] 13 = true := qck_r (nn_ _) (by decide +kernel)
theorem bs_X11_scoreOf_0 {P : Zt → Option Zv → Prop} (K : Int → Zl → List Zv → Zt → Prop) : sx_ K P [.iload 2, .ifCond .ne 13, .aload 0, .tableswitch 0 11 36 #[], .iload 1, .iaload, .goto 19] 13 = x_iload 2 (x_ifCond .ne 13 K (x_aload 0 (x_g1 111 236 (x_iload 1 (x_iaload (x_goto 19 K)))))) := ((xe_iload 2).trans (congrArg (x_iload 2) ((xe_ifCond .ne 13).trans (congrArg (x_ifCond .ne 13 K) ((xe_aload 0).trans (congrArg (x_aload 0) ((xe_g1 (kk := 111) rfl tl_11_36).trans (congrArg (x_g1 111 236) ((xe_iload 1).trans (congrArg (x_iload 1) ((xe_iaload).trans (congrArg (x_iaload) (xe_goto 19)))))))))))))
theorem bk_X11_scoreOf_13 : ck_ fX11 (some .int) cX11_scoreOf 13 [.aload 0, .tableswitch 0 11 37 #[], .iload 1, .iaload, .ireturn] 20 = true := qck_r (nn_ _) (by decide +kernel)
theorem bs_X11_scoreOf_13 {P : Zt → Option Zv → Prop} (K : Int → Zl → List Zv → Zt → Prop) : sx_ K P [.aload 0, .tableswitch 0 11 37 #[], .iload 1, .iaload, .ireturn] 20 = x_aload 0 (x_g1 111 237 (x_iload 1 (x_iaload (x_ireturn P)))) := ((xe_aload 0).trans (congrArg (x_aload 0) ((xe_g1 (kk := 111) rfl tl_11_37).trans (congrArg (x_g1 111 237) ((xe_iload 1).trans (congrArg (x_iload 1) ((xe_iaload).trans (congrArg (x_iaload) (xe_ireturn)))))))))
theorem bk_X11_scoreOf_19 : ck_ fX11 (some .int) cX11_scoreOf 19 [.ireturn] 20 = true := qck_r (nn_ _) (by decide +kernel)
theorem bs_X11_scoreOf_19 {P : Zt → Option Zv → Prop} (K : Int → Zl → List Zv → Zt → Prop) : sx_ K P [.ireturn] 20 = x_ireturn P := (xe_ireturn)
abbrev po_X11_scoreOf (T : Zt) (m s : Int) : Zt → Option Zv → Prop := fun T' r => T = T' ∧ ∃ x : Int, r = some (vI x) ∧ (0 = (0 : Int))
set_option maxHeartbeats 4000000 in
theorem ct_X11_scoreOf {T : Zt} {m s : Int} (h1 : 0 ≤ m ∧ m < 400) : Ct_ yX11_scoreOf zX11_scoreOf T [vR 111 0, vI m, vI s] (po_X11_scoreOf T m s) := by
  refine ct_of pn_11 rfl rfl (Nat.le_of_ble_eq_true rfl) (fun hT hav => ?_)
  have hr_m : -2147483648 ≤ m ∧ m ≤ 2147483647 := hav (vI m) (by simp)
  have hr_s : -2147483648 ≤ s ∧ s ≤ 2147483647 := hav (vI s) (by simp)
  have hz : zX11_scoreOf.2.2.2.1 = some .boolean → ∀ (T' : Zt) (x : Int), po_X11_scoreOf T m s T' (some (vI x)) → 0 ≤ x ∧ x ≤ 1 := fun h => by cases h
  show J_ zX11_scoreOf T (po_X11_scoreOf T m s) 0 0 0 [some (vR 111 0), some (vI m), some (vI s)] [] T
  refine j_blx (F := fX11) tb_X11 (nn_ _) bk_X11_scoreOf_0 bs_X11_scoreOf_0 hz (fun K hK => ?_)
  refine And.intro (fun c1 => ?_) (fun c1 => ?_)
  · refine hK 13 _ [] T ?_
    refine j_blx (F := fX11) tb_X11 (nn_ _) bk_X11_scoreOf_13 bs_X11_scoreOf_13 hz (fun K hK => ?_)
    refine ix_i (by omega) ?_
    intro b2 b2b
    refine (show po_X11_scoreOf T m s T (some (vI (T 237 0 m))) from ?_)
    exact ⟨rfl, _, rfl, by rfl⟩
  · refine ix_i (by omega) ?_
    intro b3 b3b
    refine hK 19 _ [vI (T 236 0 m)] T ?_
    refine j_blx (F := fX11) tb_X11 (nn_ _) bk_X11_scoreOf_19 bs_X11_scoreOf_19 hz (fun K hK => ?_)
    refine (show po_X11_scoreOf T m s T (some (vI (T 236 0 m))) from ?_)
    exact ⟨rfl, _, rfl, by rfl⟩
abbrev cX11_sendOff : ByteArray := prog_13_method_59_code
def yX11_sendOff : MethodName := ⟨RX11, "sendOff", "(III)V"⟩
def zX11_sendOff : Zm := (RX11, cX11_sendOff, 7, none, { frames := 1, cells := 0, slots := 0, locals := 22 })
theorem bk_X11_sendOff_27 : ck_ fX11 none cX11_sendOff 27 [.iload 6, .aload 0, .tableswitch 0 11 44 #[], .iload 4, .iaload, .if_icmp .ge 91, .aload 0, .tableswitch 0 11 45 #[], .iconst 6, .iload 4, .imul, .iload 6, .iadd, .iaload, .iload 3, .if_icmp .eq 85, .aload 0, .tableswitch 0 11 45 #[], .iconst 6, .iload 4, .imul, .iload 5, .iadd, .aload 0, .tableswitch 0 11 45 #[], .iconst 6, .iload 4, .imul, .iload 6, .iadd, .iaload, .iastore, .iinc 5 1, .iinc 6 1, .goto 27] 91 = true := qck_r (nn_ _) (by decide +kernel)
theorem bs_X11_sendOff_27 {P : Zt → Option Zv → Prop} (K : Int → Zl → List Zv → Zt → Prop) : sx_ K P [.iload 6, .aload 0, .tableswitch 0 11 44 #[], .iload 4, .iaload, .if_icmp .ge 91, .aload 0, .tableswitch 0 11 45 #[], .iconst 6, .iload 4, .imul, .iload 6, .iadd, .iaload, .iload 3, .if_icmp .eq 85, .aload 0, .tableswitch 0 11 45 #[], .iconst 6, .iload 4, .imul, .iload 5, .iadd, .aload 0, .tableswitch 0 11 45 #[], .iconst 6, .iload 4, .imul, .iload 6, .iadd, .iaload, .iastore, .iinc 5 1, .iinc 6 1, .goto 27] 91 = x_iload 6 (x_aload 0 (x_g1 111 244 (x_iload 4 (x_iaload (x_if_icmp .ge 91 K (x_aload 0 (x_g1 111 245 (x_iconst 6 (x_iload 4 (x_imul (x_iload 6 (x_iadd (x_iaload (x_iload 3 (x_if_icmp .eq 85 K (x_aload 0 (x_g1 111 245 (x_iconst 6 (x_iload 4 (x_imul (x_iload 5 (x_iadd (x_aload 0 (x_g1 111 245 (x_iconst 6 (x_iload 4 (x_imul (x_iload 6 (x_iadd (x_iaload (x_iastore (x_iinc 5 1 (x_iinc 6 1 (x_goto 27 K)))))))))))))))))))))))))))))))))) := ((xe_iload 6).trans (congrArg (x_iload 6) ((xe_aload 0).trans (congrArg (x_aload 0) ((xe_g1 (kk := 111) rfl tl_11_44).trans (congrArg (x_g1 111 244) ((xe_iload 4).trans (congrArg (x_iload 4) ((xe_iaload).trans (congrArg (x_iaload) ((xe_if_icmp .ge 91).trans (congrArg (x_if_icmp .ge 91 K) ((xe_aload 0).trans (congrArg (x_aload 0) ((xe_g1 (kk := 111) rfl tl_11_45).trans (congrArg (x_g1 111 245) ((xe_iconst 6).trans (congrArg (x_iconst 6) ((xe_iload 4).trans (congrArg (x_iload 4) ((xe_imul).trans (congrArg (x_imul) ((xe_iload 6).trans (congrArg (x_iload 6) ((xe_iadd).trans (congrArg (x_iadd) ((xe_iaload).trans (congrArg (x_iaload) ((xe_iload 3).trans (congrArg (x_iload 3) ((xe_if_icmp .eq 85).trans (congrArg (x_if_icmp .eq 85 K) ((xe_aload 0).trans (congrArg (x_aload 0) ((xe_g1 (kk := 111) rfl tl_11_45).trans (congrArg (x_g1 111 245) ((xe_iconst 6).trans (congrArg (x_iconst 6) ((xe_iload 4).trans (congrArg (x_iload 4) ((xe_imul).trans (congrArg (x_imul) ((xe_iload 5).trans (congrArg (x_iload 5) ((xe_iadd).trans (congrArg (x_iadd) ((xe_aload 0).trans (congrArg (x_aload 0) ((xe_g1 (kk := 111) rfl tl_11_45).trans (congrArg (x_g1 111 245) ((xe_iconst 6).trans (congrArg (x_iconst 6) ((xe_iload 4).trans (congrArg (x_iload 4) ((xe_imul).trans (congrArg (x_imul) ((xe_iload 6).trans (congrArg (x_iload 6) ((xe_iadd).trans (congrArg (x_iadd) ((xe_iaload).trans (congrArg (x_iaload) ((xe_iastore).trans (congrArg (x_iastore) ((xe_iinc 5 1).trans (congrArg (x_iinc 5 1) ((xe_iinc 6 1).trans (congrArg (x_iinc 6 1) (xe_goto 27)))))))))))))))))))))))))))))))))))))))))))))))))))))))))))))))))))))
theorem bk_X11_sendOff_91 : ck_ fX11 none cX11_sendOff 91 [.aload 0, .tableswitch 0 11 44 #[], .iload 4, .iload 5, .iastore, .iconst 2, .iload 5, .imul, .aload 0, .aload 0, .tableswitch 0 11 30 #[], .iload 1, .iaload, .iconst 9] 113 = true := qck_r (nn_ _) (by decide +kernel)
theorem bs_X11_sendOff_91 {P : Zt → Option Zv → Prop} (K : Int → Zl → List Zv → Zt → Prop) : sx_ K P [.aload 0, .tableswitch 0 11 44 #[], .iload 4, .iload 5, .iastore, .iconst 2, .iload 5, .imul, .aload 0, .aload 0, .tableswitch 0 11 30 #[], .iload 1, .iaload, .iconst 9] 113 = x_aload 0 (x_g1 111 244 (x_iload 4 (x_iload 5 (x_iastore (x_iconst 2 (x_iload 5 (x_imul (x_aload 0 (x_aload 0 (x_g1 111 230 (x_iload 1 (x_iaload (x_iconst 9 (K 113)))))))))))))) := ((xe_aload 0).trans (congrArg (x_aload 0) ((xe_g1 (kk := 111) rfl tl_11_44).trans (congrArg (x_g1 111 244) ((xe_iload 4).trans (congrArg (x_iload 4) ((xe_iload 5).trans (congrArg (x_iload 5) ((xe_iastore).trans (congrArg (x_iastore) ((xe_iconst 2).trans (congrArg (x_iconst 2) ((xe_iload 5).trans (congrArg (x_iload 5) ((xe_imul).trans (congrArg (x_imul) ((xe_aload 0).trans (congrArg (x_aload 0) ((xe_aload 0).trans (congrArg (x_aload 0) ((xe_g1 (kk := 111) rfl tl_11_30).trans (congrArg (x_g1 111 230) ((xe_iload 1).trans (congrArg (x_iload 1) ((xe_iaload).trans (congrArg (x_iaload) ((xe_iconst 9).trans (congrArg (x_iconst 9) xe_nil))))))))))))))))))))))))))))
theorem bk_X11_sendOff_116 : ck_ fX11 none cX11_sendOff 116 [.if_icmp .ge 178, .aload 0, .tableswitch 0 11 35 #[], .iload 1, .iconst 2, .iastore, .aload 0, .tableswitch 0 11 36 #[], .iload 1, .iload 2, .ifCond .ne 139, .iconst 0, .goto 151] 139 = true := qck_r (nn_ _) (by decide +kernel)
theorem bs_X11_sendOff_116 {P : Zt → Option Zv → Prop} (K : Int → Zl → List Zv → Zt → Prop) : sx_ K P [.if_icmp .ge 178, .aload 0, .tableswitch 0 11 35 #[], .iload 1, .iconst 2, .iastore, .aload 0, .tableswitch 0 11 36 #[], .iload 1, .iload 2, .ifCond .ne 139, .iconst 0, .goto 151] 139 = x_if_icmp .ge 178 K (x_aload 0 (x_g1 111 235 (x_iload 1 (x_iconst 2 (x_iastore (x_aload 0 (x_g1 111 236 (x_iload 1 (x_iload 2 (x_ifCond .ne 139 K (x_iconst 0 (x_goto 151 K)))))))))))) := ((xe_if_icmp .ge 178).trans (congrArg (x_if_icmp .ge 178 K) ((xe_aload 0).trans (congrArg (x_aload 0) ((xe_g1 (kk := 111) rfl tl_11_35).trans (congrArg (x_g1 111 235) ((xe_iload 1).trans (congrArg (x_iload 1) ((xe_iconst 2).trans (congrArg (x_iconst 2) ((xe_iastore).trans (congrArg (x_iastore) ((xe_aload 0).trans (congrArg (x_aload 0) ((xe_g1 (kk := 111) rfl tl_11_36).trans (congrArg (x_g1 111 236) ((xe_iload 1).trans (congrArg (x_iload 1) ((xe_iload 2).trans (congrArg (x_iload 2) ((xe_ifCond .ne 139).trans (congrArg (x_ifCond .ne 139 K) ((xe_iconst 0).trans (congrArg (x_iconst 0) (xe_goto 151)))))))))))))))))))))))))
theorem bk_X11_sendOff_178 : ck_ fX11 none cX11_sendOff 178 [.return_] 179 = true := qck_r (nn_ _) (by decide +kernel)
theorem bs_X11_sendOff_178 {P : Zt → Option Zv → Prop} (K : Int → Zl → List Zv → Zt → Prop) : sx_ K P [.return_] 179 = x_return_ P := (xe_return_)
theorem bk_X11_sendOff_139 : ck_ fX11 none cX11_sendOff 139 [.aload 0, .aload 0, .tableswitch 0 11 30 #[], .iload 1, .iaload, .iconst 12] 148 = true := qck_r (nn_ _) (by decide +kernel)
theorem bs_X11_sendOff_139 {P : Zt → Option Zv → Prop} (K : Int → Zl → List Zv → Zt → Prop) : sx_ K P [.aload 0, .aload 0, .tableswitch 0 11 30 #[], .iload 1, .iaload, .iconst 12] 148 = x_aload 0 (x_aload 0 (x_g1 111 230 (x_iload 1 (x_iaload (x_iconst 12 (K 148)))))) := ((xe_aload 0).trans (congrArg (x_aload 0) ((xe_aload 0).trans (congrArg (x_aload 0) ((xe_g1 (kk := 111) rfl tl_11_30).trans (congrArg (x_g1 111 230) ((xe_iload 1).trans (congrArg (x_iload 1) ((xe_iaload).trans (congrArg (x_iaload) ((xe_iconst 12).trans (congrArg (x_iconst 12) xe_nil))))))))))))
theorem bk_X11_sendOff_151 : ck_ fX11 none cX11_sendOff 151 [.iastore, .aload 0, .tableswitch 0 11 37 #[], .iload 1, .iload 2, .ifCond .ne 176, .aload 0, .aload 0, .tableswitch 0 11 30 #[], .iload 1, .iaload, .iconst 12] 170 = true := qck_r (nn_ _) (by decide +kernel)
theorem bs_X11_sendOff_151 {P : Zt → Option Zv → Prop} (K : Int → Zl → List Zv → Zt → Prop) : sx_ K P [.iastore, .aload 0, .tableswitch 0 11 37 #[], .iload 1, .iload 2, .ifCond .ne 176, .aload 0, .aload 0, .tableswitch 0 11 30 #[], .iload 1, .iaload, .iconst 12] 170 = x_iastore (x_aload 0 (x_g1 111 237 (x_iload 1 (x_iload 2 (x_ifCond .ne 176 K (x_aload 0 (x_aload 0 (x_g1 111 230 (x_iload 1 (x_iaload (x_iconst 12 (K 170)))))))))))) := ((xe_iastore).trans (congrArg (x_iastore) ((xe_aload 0).trans (congrArg (x_aload 0) ((xe_g1 (kk := 111) rfl tl_11_37).trans (congrArg (x_g1 111 237) ((xe_iload 1).trans (congrArg (x_iload 1) ((xe_iload 2).trans (congrArg (x_iload 2) ((xe_ifCond .ne 176).trans (congrArg (x_ifCond .ne 176 K) ((xe_aload 0).trans (congrArg (x_aload 0) ((xe_aload 0).trans (congrArg (x_aload 0) ((xe_g1 (kk := 111) rfl tl_11_30).trans (congrArg (x_g1 111 230) ((xe_iload 1).trans (congrArg (x_iload 1) ((xe_iaload).trans (congrArg (x_iaload) ((xe_iconst 12).trans (congrArg (x_iconst 12) xe_nil))))))))))))))))))))))))
theorem bk_X11_sendOff_176 : ck_ fX11 none cX11_sendOff 176 [.iconst 0, .iastore, .return_] 179 = true := qck_r (nn_ _) (by decide +kernel)
theorem bs_X11_sendOff_176 {P : Zt → Option Zv → Prop} (K : Int → Zl → List Zv → Zt → Prop) : sx_ K P [.iconst 0, .iastore, .return_] 179 = x_iconst 0 (x_iastore (x_return_ P)) := ((xe_iconst 0).trans (congrArg (x_iconst 0) ((xe_iastore).trans (congrArg (x_iastore) (xe_return_)))))
theorem bk_X11_sendOff_173 : ck_ fX11 none cX11_sendOff 173 [.goto 177] 176 = true := qck_r (nn_ _) (by decide +kernel)
theorem bs_X11_sendOff_173 {P : Zt → Option Zv → Prop} (K : Int → Zl → List Zv → Zt → Prop) : sx_ K P [.goto 177] 176 = x_goto 177 K := (xe_goto 177)
theorem bk_X11_sendOff_177 : ck_ fX11 none cX11_sendOff 177 [.iastore, .return_] 179 = true := qck_r (nn_ _) (by decide +kernel)
theorem bs_X11_sendOff_177 {P : Zt → Option Zv → Prop} (K : Int → Zl → List Zv → Zt → Prop) : sx_ K P [.iastore, .return_] 179 = x_iastore (x_return_ P) := ((xe_iastore).trans (congrArg (x_iastore) (xe_return_)))
theorem bk_X11_sendOff_85 : ck_ fX11 none cX11_sendOff 85 [.iinc 6 1, .goto 27] 91 = true := qck_r (nn_ _) (by decide +kernel)
theorem bs_X11_sendOff_85 {P : Zt → Option Zv → Prop} (K : Int → Zl → List Zv → Zt → Prop) : sx_ K P [.iinc 6 1, .goto 27] 91 = x_iinc 6 1 (x_goto 27 K) := ((xe_iinc 6 1).trans (congrArg (x_iinc 6 1) (xe_goto 27)))
theorem bk_X11_sendOff_0 : ck_ fX11 none cX11_sendOff 0 [.iconst 2, .iload 1, .imul, .iload 2, .iadd, .istore 4, .aload 0, .tableswitch 0 11 43 #[], .iload 3, .iconst 1, .bastore, .aload 0, .tableswitch 0 11 41 #[], .iload 3, .iconst 2, .iastore, .iconst 0, .istore 5, .iconst 0, .istore 6] 27 = true := qck_r (nn_ _) (by decide +kernel)
theorem bs_X11_sendOff_0 {P : Zt → Option Zv → Prop} (K : Int → Zl → List Zv → Zt → Prop) : sx_ K P [.iconst 2, .iload 1, .imul, .iload 2, .iadd, .istore 4, .aload 0, .tableswitch 0 11 43 #[], .iload 3, .iconst 1, .bastore, .aload 0, .tableswitch 0 11 41 #[], .iload 3, .iconst 2, .iastore, .iconst 0, .istore 5, .iconst 0, .istore 6] 27 = x_iconst 2 (x_iload 1 (x_imul (x_iload 2 (x_iadd (x_istore 4 (x_aload 0 (x_g1 111 243 (x_iload 3 (x_iconst 1 (x_bastore (x_aload 0 (x_g1 111 241 (x_iload 3 (x_iconst 2 (x_iastore (x_iconst 0 (x_istore 5 (x_iconst 0 (x_istore 6 (K 27)))))))))))))))))))) := ((xe_iconst 2).trans (congrArg (x_iconst 2) ((xe_iload 1).trans (congrArg (x_iload 1) ((xe_imul).trans (congrArg (x_imul) ((xe_iload 2).trans (congrArg (x_iload 2) ((xe_iadd).trans (congrArg (x_iadd) ((xe_istore 4).trans (congrArg (x_istore 4) ((xe_aload 0).trans (congrArg (x_aload 0) ((xe_g1 (kk := 111) rfl tl_11_43).trans (congrArg (x_g1 111 243) ((xe_iload 3).trans (congrArg (x_iload 3) ((xe_iconst 1).trans (congrArg (x_iconst 1) ((xe_bastore).trans (congrArg (x_bastore) ((xe_aload 0).trans (congrArg (x_aload 0) ((xe_g1 (kk := 111) rfl tl_11_41).trans (congrArg (x_g1 111 241) ((xe_iload 3).trans (congrArg (x_iload 3) ((xe_iconst 2).trans (congrArg (x_iconst 2) ((xe_iastore).trans (congrArg (x_iastore) ((xe_iconst 0).trans (congrArg (x_iconst 0) ((xe_istore 5).trans (congrArg (x_istore 5) ((xe_iconst 0).trans (congrArg (x_iconst 0) ((xe_istore 6).trans (congrArg (x_istore 6) xe_nil))))))))))))))))))))))))))))))))))))))))
abbrev po_X11_sendOff (T : Zt) (bu : Int) (m s sl : Int) : Zt → Option Zv → Prop := fun T' r => r = none ∧ fr_ [(243, []), (241, []), (245, []), (244, []), (235, []), (236, []), (237, [])] T T' ∧ (FM_ T' ∧ SO_ T T' m ∧ SB1_ T' m (bu))
set_option maxHeartbeats 4000000 in
theorem ct_X11_sendOff {T : Zt} {bu : Int} {m s sl : Int} (h1 : 0 ≤ m ∧ m < T 111 0 29) (hs : 0 ≤ s ∧ s ≤ 1) (h3 : 0 ≤ sl ∧ sl < 8000) (hmc : MC_ T) (hri : RI_ T) (hfm : FM_ T) (hbu : 9 ≤ bu) (hsb : SB1_ T m bu) : Ct_ yX11_sendOff zX11_sendOff T [vR 111 0, vI m, vI s, vI sl] (po_X11_sendOff T bu m s sl) := by
  refine ct_of pn_11 rfl rfl (Nat.le_of_ble_eq_true rfl) (fun hT hav => ?_)
  have hr_m : -2147483648 ≤ m ∧ m ≤ 2147483647 := hav (vI m) (by simp)
  have hr_s : -2147483648 ≤ s ∧ s ≤ 2147483647 := hav (vI s) (by simp)
  have hr_sl : -2147483648 ≤ sl ∧ sl ≤ 2147483647 := hav (vI sl) (by simp)
  have hz : zX11_sendOff.2.2.2.1 = some .boolean → ∀ (T' : Zt) (x : Int), po_X11_sendOff T bu m s sl T' (some (vI x)) → 0 ≤ x ∧ x ≤ 1 := fun h => by cases h
  have hb_29 : 0 ≤ T 111 0 29 ∧ T 111 0 29 ≤ 400 := bd_f hT 111 29 (by decide +kernel : (tf_ 111)[29]? = some (0, 0, 0, 400)) 0
  have hb_6 : 0 ≤ T 111 0 6 ∧ T 111 0 6 ≤ 4 := bd_f hT 111 6 (by decide +kernel : (tf_ 111)[6]? = some (0, 0, 0, 4)) 0
  have hcm := hmc m (by omega) (by omega)
  have hcb : 0 ≤ T 230 0 m ∧ T 230 0 m ≤ 3 := bd_a hT 230 (by decide +kernel : ta_ 230 = some (1, some 400, 0, 3)) 0 (by omega)
  have hr9 : (1 : Int) ≤ T 205 0 (23 * T 230 0 m + 9) ∧ T 205 0 (23 * T 230 0 m + 9) ≤ (6 : Int) := hri (T 230 0 m) 9 (by omega) (by omega) (by omega) (by omega)
  have hr12 : (1 : Int) ≤ T 205 0 (23 * T 230 0 m + 12) ∧ T 205 0 (23 * T 230 0 m + 12) ≤ (9 : Int) := hri (T 230 0 m) 12 (by omega) (by omega) (by omega) (by omega)
  have hfb : 0 ≤ T 244 0 (2 * m + s) ∧ T 244 0 (2 * m + s) ≤ 6 := bd_a hT 244 (by decide +kernel : ta_ 244 = some (1, some 800, 0, 6)) 0 (by omega)
  show J_ zX11_sendOff T (po_X11_sendOff T bu m s sl) 0 0 0 [some (vR 111 0), some (vI m), some (vI s), some (vI sl), none, none, none] [] T
  have c_27 : ∀ (nn : Nat) (kp : Int) (i : Int) (T1 : Zt), ((6 - i).toNat) ≤ nn → (fr_ [(243, []), (241, []), (245, [])] T T1) → (0 ≤ kp ∧ kp ≤ i ∧ i ≤ T 244 0 (2 * m + s)) → J_ zX11_sendOff T (po_X11_sendOff T bu m s sl) 0 0 27 [some (vR 111 0), some (vI m), some (vI s), some (vI sl), some (vI (2 * m + s)), some (vI kp), some (vI i)] [] T1 := by
    intro nn
    induction nn using Nat.strongRecOn with
    | _ nn ih_27 =>
      intro kp i T1 hm_27 hf_27 i1
      refine j_blx (F := fX11) tb_X11 (nn_ _) bk_X11_sendOff_27 bs_X11_sendOff_27 hz (fun K hK => ?_)
      refine ix_i (by omega) ?_
      intro b1 b1b
      have e2 : T1 244 0 (2 * m + s) = T 244 0 (2 * m + s) := hf_27 244 0 (2 * m + s) rfl
      rw [e2] at b1 b1b ⊢
      refine And.intro (fun c3 => ?_) (fun c3 => ?_)
      · refine hK 91 _ [] T1 ?_
        refine j_blx (F := fX11) tb_X11 (nn_ _) bk_X11_sendOff_91 bs_X11_sendOff_91 hz (fun K hK => ?_)
        refine iy_i (by omega) (by omega) ?_
        refine x_nm (fun U4 hU4 => ?_)
        have e5 := up_f hU4
        refine rg_i (by omega) ?_
        refine ix_i (by omega) ?_
        intro b6 b6b
        have e7 : U4 230 0 m = T 230 0 m := (up_k hU4 (by exact Nat.ne_of_beq_eq_false rfl) 0 m).trans (hf_27 230 0 m rfl)
        rw [e7] at b6 b6b ⊢
        refine hK 113 _ [vI 9, vI (T 230 0 m), vR 111 0, vI (2 * kp)] U4 ?_
        refine j_callV (y := yX11_rule0) (Yc := zX11_rule0) (rest := [vI (2 * kp)]) [vI (T 230 0 m), vI 9] (ct_X11_rule0 (T := U4) (by omega) (by omega)) cl_X11_321 (qd_c (by decide +kernel)) (nn_ _) rfl (rf_of rfl) (Nat.le_of_ble_eq_true rfl) (Nat.le_of_ble_eq_true rfl) (Nat.le_of_ble_eq_true rfl) rfl ?_
        rintro _ _ ⟨rfl, rfl⟩
        have e8 : U4 205 0 (23 * (T 230 0 m) + 9) = T 205 0 (23 * (T 230 0 m) + 9) := (up_k hU4 (by exact Nat.ne_of_beq_eq_false rfl) 0 (23 * (T 230 0 m) + 9)).trans (hf_27 205 0 (23 * (T 230 0 m) + 9) rfl)
        show J_ zX11_sendOff T (po_X11_sendOff T bu m s sl) 0 0 116 _ [vI (U4 205 0 (23 * (T 230 0 m) + 9)), vI (2 * kp)] U4
        refine j_blx (F := fX11) tb_X11 (nn_ _) bk_X11_sendOff_116 bs_X11_sendOff_116 hz (fun K hK => ?_)
        refine And.intro (fun c9 => ?_) (fun c9 => ?_)
        · refine hK 178 _ [] U4 ?_
          refine j_blx (F := fX11) tb_X11 (nn_ _) bk_X11_sendOff_178 bs_X11_sendOff_178 hz (fun K hK => ?_)
          refine (show po_X11_sendOff T bu m s sl U4 (none) from ?_)
          exact ⟨rfl, fr_u (fr_t (fr_0 _ _) (fr_s hf_27 rfl)) hU4 rfl, fm_f (FM__f (ws := [(243, []), (241, []), (245, [])]) (hfm) hf_27 ⟨fun _ => rfl, fun _ => rfl, trivial⟩) hU4 (by omega), so_f (ws := [(244, [])]) (so_f (ws := [(243, []), (241, []), (245, [])]) (so_r) hf_27 ⟨fun _ => rfl, fun _ => rfl, fun _ => rfl⟩) (fr_u (fr_0 _ _) hU4 rfl) ⟨fun _ => rfl, fun _ => rfl, fun _ => rfl⟩, sb1_f (ws := [(244, [])]) (sb1_f (ws := [(243, []), (241, []), (245, [])]) (hsb) hf_27 ⟨fun _ => rfl, fun _ => rfl, fun _ => rfl⟩) (fr_u (fr_0 _ _) hU4 rfl) ⟨fun _ => rfl, fun _ => rfl, fun _ => rfl⟩⟩
        · refine iy_i (by omega) (by omega) ?_
          refine x_nm (fun U10 hU10 => ?_)
          have e11 := up_f hU10
          refine And.intro (fun c12 => ?_) (fun c12 => ?_)
          · refine hK 139 _ [vI m, vR 236 0] U10 ?_
            refine j_blx (F := fX11) tb_X11 (nn_ _) bk_X11_sendOff_139 bs_X11_sendOff_139 hz (fun K hK => ?_)
            refine ix_i (by omega) ?_
            intro b13 b13b
            have e14 : U10 230 0 m = T 230 0 m := (up_k hU10 (by exact Nat.ne_of_beq_eq_false rfl) 0 m).trans ((up_k hU4 (by exact Nat.ne_of_beq_eq_false rfl) 0 m).trans (hf_27 230 0 m rfl))
            rw [e14] at b13 b13b ⊢
            refine hK 148 _ [vI 12, vI (T 230 0 m), vR 111 0, vI m, vR 236 0] U10 ?_
            refine j_callV (y := yX11_rule0) (Yc := zX11_rule0) (rest := [vI m, vR 236 0]) [vI (T 230 0 m), vI 12] (ct_X11_rule0 (T := U10) (by omega) (by omega)) cl_X11_321 (qd_c (by decide +kernel)) (nn_ _) rfl (rf_of rfl) (Nat.le_of_ble_eq_true rfl) (Nat.le_of_ble_eq_true rfl) (Nat.le_of_ble_eq_true rfl) rfl ?_
            rintro _ _ ⟨rfl, rfl⟩
            have e15 : U10 205 0 (23 * (T 230 0 m) + 12) = T 205 0 (23 * (T 230 0 m) + 12) := (up_k hU10 (by exact Nat.ne_of_beq_eq_false rfl) 0 (23 * (T 230 0 m) + 12)).trans ((up_k hU4 (by exact Nat.ne_of_beq_eq_false rfl) 0 (23 * (T 230 0 m) + 12)).trans (hf_27 205 0 (23 * (T 230 0 m) + 12) rfl))
            show J_ zX11_sendOff T (po_X11_sendOff T bu m s sl) 0 0 151 _ [vI (U10 205 0 (23 * (T 230 0 m) + 12)), vI m, vR 236 0] U10
            refine j_blx (F := fX11) tb_X11 (nn_ _) bk_X11_sendOff_151 bs_X11_sendOff_151 hz (fun K hK => ?_)
            refine iy_i (by omega) (by omega) ?_
            refine x_nm (fun U16 hU16 => ?_)
            have e17 := up_f hU16
            refine And.intro (fun c18 => ?_) (fun c18 => ?_)
            · refine hK 176 _ [vI m, vR 237 0] U16 ?_
              refine j_blx (F := fX11) tb_X11 (nn_ _) bk_X11_sendOff_176 bs_X11_sendOff_176 hz (fun K hK => ?_)
              refine iy_i (by omega) (by omega) ?_
              refine x_nm (fun U19 hU19 => ?_)
              have e20 := up_f hU19
              refine (show po_X11_sendOff T bu m s sl U19 (none) from ?_)
              have e8 : U19 235 0 m = 2 := ((up_k hU19 (by exact Nat.ne_of_beq_eq_false rfl) 0 m).trans (up_k hU16 (by exact Nat.ne_of_beq_eq_false rfl) 0 m)).trans (up_f hU10)
              exact ⟨rfl, fr_u (fr_u (fr_u (fr_u (fr_t (fr_0 _ _) (fr_s hf_27 rfl)) hU4 rfl) hU10 rfl) hU16 rfl) hU19 rfl, fm_3 hfm hs (fun j hj => (up_k hU19 (by exact Nat.ne_of_beq_eq_false rfl) 0 j).trans ((up_k hU16 (by exact Nat.ne_of_beq_eq_false rfl) 0 j).trans ((up_g hU10 (fun z => hj z.2.2)).trans ((up_k hU4 (by exact Nat.ne_of_beq_eq_false rfl) 0 j).trans (hf_27 235 0 j rfl))))) (fun j hj => (up_k hU19 (by exact Nat.ne_of_beq_eq_false rfl) 0 j).trans ((up_k hU16 (by exact Nat.ne_of_beq_eq_false rfl) 0 j).trans ((up_k hU10 (by exact Nat.ne_of_beq_eq_false rfl) 0 j).trans ((up_g hU4 (fun z => hj z.2.2)).trans (hf_27 244 0 j rfl))))) (by omega), so_1 (so_0 (so_f (ws := [(235, [])]) (so_f (ws := [(244, [])]) (so_f (ws := [(243, []), (241, []), (245, [])]) (so_r) hf_27 ⟨fun _ => rfl, fun _ => rfl, fun _ => rfl⟩) (fr_u (fr_0 _ _) hU4 rfl) ⟨fun _ => rfl, fun _ => rfl, fun _ => rfl⟩) (fr_u (fr_0 _ _) hU10 rfl) ⟨fun _ => rfl, fun _ => rfl, fun _ => rfl⟩) hU16) hU19, sb1_1 (sb1_0 (sb1_f (ws := [(235, [])]) (sb1_f (ws := [(244, [])]) (sb1_f (ws := [(243, []), (241, []), (245, [])]) (hsb) hf_27 ⟨fun _ => rfl, fun _ => rfl, fun _ => rfl⟩) (fr_u (fr_0 _ _) hU4 rfl) ⟨fun _ => rfl, fun _ => rfl, fun _ => rfl⟩) (fr_u (fr_0 _ _) hU10 rfl) ⟨fun _ => rfl, fun _ => rfl, fun _ => rfl⟩) hU16 (by omega)) hU19 (by omega)⟩
            · refine ix_i (by omega) ?_
              intro b21 b21b
              have e22 : U16 230 0 m = T 230 0 m := (up_k hU16 (by exact Nat.ne_of_beq_eq_false rfl) 0 m).trans ((up_k hU10 (by exact Nat.ne_of_beq_eq_false rfl) 0 m).trans ((up_k hU4 (by exact Nat.ne_of_beq_eq_false rfl) 0 m).trans (hf_27 230 0 m rfl)))
              rw [e22] at b21 b21b ⊢
              refine hK 170 _ [vI 12, vI (T 230 0 m), vR 111 0, vI m, vR 237 0] U16 ?_
              refine j_callV (y := yX11_rule0) (Yc := zX11_rule0) (rest := [vI m, vR 237 0]) [vI (T 230 0 m), vI 12] (ct_X11_rule0 (T := U16) (by omega) (by omega)) cl_X11_321 (qd_c (by decide +kernel)) (nn_ _) rfl (rf_of rfl) (Nat.le_of_ble_eq_true rfl) (Nat.le_of_ble_eq_true rfl) (Nat.le_of_ble_eq_true rfl) rfl ?_
              rintro _ _ ⟨rfl, rfl⟩
              have e23 : U16 205 0 (23 * (T 230 0 m) + 12) = T 205 0 (23 * (T 230 0 m) + 12) := (up_k hU16 (by exact Nat.ne_of_beq_eq_false rfl) 0 (23 * (T 230 0 m) + 12)).trans ((up_k hU10 (by exact Nat.ne_of_beq_eq_false rfl) 0 (23 * (T 230 0 m) + 12)).trans ((up_k hU4 (by exact Nat.ne_of_beq_eq_false rfl) 0 (23 * (T 230 0 m) + 12)).trans (hf_27 205 0 (23 * (T 230 0 m) + 12) rfl)))
              show J_ zX11_sendOff T (po_X11_sendOff T bu m s sl) 0 0 173 _ [vI (U16 205 0 (23 * (T 230 0 m) + 12)), vI m, vR 237 0] U16
              refine j_blx (F := fX11) tb_X11 (nn_ _) bk_X11_sendOff_173 bs_X11_sendOff_173 hz (fun K hK => ?_)
              refine hK 177 _ [vI (U16 205 0 (23 * (T 230 0 m) + 12)), vI m, vR 237 0] U16 ?_
              refine j_blx (F := fX11) tb_X11 (nn_ _) bk_X11_sendOff_177 bs_X11_sendOff_177 hz (fun K hK => ?_)
              refine iy_i (by omega) (by omega) ?_
              refine x_nm (fun U24 hU24 => ?_)
              have e25 := up_f hU24
              refine (show po_X11_sendOff T bu m s sl U24 (none) from ?_)
              have e8 : U24 235 0 m = 2 := ((up_k hU24 (by exact Nat.ne_of_beq_eq_false rfl) 0 m).trans (up_k hU16 (by exact Nat.ne_of_beq_eq_false rfl) 0 m)).trans (up_f hU10)
              exact ⟨rfl, fr_u (fr_u (fr_u (fr_u (fr_t (fr_0 _ _) (fr_s hf_27 rfl)) hU4 rfl) hU10 rfl) hU16 rfl) hU24 rfl, fm_3 hfm hs (fun j hj => (up_k hU24 (by exact Nat.ne_of_beq_eq_false rfl) 0 j).trans ((up_k hU16 (by exact Nat.ne_of_beq_eq_false rfl) 0 j).trans ((up_g hU10 (fun z => hj z.2.2)).trans ((up_k hU4 (by exact Nat.ne_of_beq_eq_false rfl) 0 j).trans (hf_27 235 0 j rfl))))) (fun j hj => (up_k hU24 (by exact Nat.ne_of_beq_eq_false rfl) 0 j).trans ((up_k hU16 (by exact Nat.ne_of_beq_eq_false rfl) 0 j).trans ((up_k hU10 (by exact Nat.ne_of_beq_eq_false rfl) 0 j).trans ((up_g hU4 (fun z => hj z.2.2)).trans (hf_27 244 0 j rfl))))) (by omega), so_1 (so_0 (so_f (ws := [(235, [])]) (so_f (ws := [(244, [])]) (so_f (ws := [(243, []), (241, []), (245, [])]) (so_r) hf_27 ⟨fun _ => rfl, fun _ => rfl, fun _ => rfl⟩) (fr_u (fr_0 _ _) hU4 rfl) ⟨fun _ => rfl, fun _ => rfl, fun _ => rfl⟩) (fr_u (fr_0 _ _) hU10 rfl) ⟨fun _ => rfl, fun _ => rfl, fun _ => rfl⟩) hU16) hU24, sb1_1 (sb1_0 (sb1_f (ws := [(235, [])]) (sb1_f (ws := [(244, [])]) (sb1_f (ws := [(243, []), (241, []), (245, [])]) (hsb) hf_27 ⟨fun _ => rfl, fun _ => rfl, fun _ => rfl⟩) (fr_u (fr_0 _ _) hU4 rfl) ⟨fun _ => rfl, fun _ => rfl, fun _ => rfl⟩) (fr_u (fr_0 _ _) hU10 rfl) ⟨fun _ => rfl, fun _ => rfl, fun _ => rfl⟩) hU16 (by omega)) hU24 (by omega)⟩
          · refine hK 151 _ [vI 0, vI m, vR 236 0] U10 ?_
            refine j_blx (F := fX11) tb_X11 (nn_ _) bk_X11_sendOff_151 bs_X11_sendOff_151 hz (fun K hK => ?_)
            refine iy_i (by omega) (by omega) ?_
            refine x_nm (fun U26 hU26 => ?_)
            have e27 := up_f hU26
            refine And.intro (fun c28 => ?_) (fun c28 => ?_)
            · refine hK 176 _ [vI m, vR 237 0] U26 ?_
              refine j_blx (F := fX11) tb_X11 (nn_ _) bk_X11_sendOff_176 bs_X11_sendOff_176 hz (fun K hK => ?_)
              refine iy_i (by omega) (by omega) ?_
              refine x_nm (fun U29 hU29 => ?_)
              have e30 := up_f hU29
              refine (show po_X11_sendOff T bu m s sl U29 (none) from ?_)
              have e8 : U29 235 0 m = 2 := ((up_k hU29 (by exact Nat.ne_of_beq_eq_false rfl) 0 m).trans (up_k hU26 (by exact Nat.ne_of_beq_eq_false rfl) 0 m)).trans (up_f hU10)
              exact ⟨rfl, fr_u (fr_u (fr_u (fr_u (fr_t (fr_0 _ _) (fr_s hf_27 rfl)) hU4 rfl) hU10 rfl) hU26 rfl) hU29 rfl, fm_3 hfm hs (fun j hj => (up_k hU29 (by exact Nat.ne_of_beq_eq_false rfl) 0 j).trans ((up_k hU26 (by exact Nat.ne_of_beq_eq_false rfl) 0 j).trans ((up_g hU10 (fun z => hj z.2.2)).trans ((up_k hU4 (by exact Nat.ne_of_beq_eq_false rfl) 0 j).trans (hf_27 235 0 j rfl))))) (fun j hj => (up_k hU29 (by exact Nat.ne_of_beq_eq_false rfl) 0 j).trans ((up_k hU26 (by exact Nat.ne_of_beq_eq_false rfl) 0 j).trans ((up_k hU10 (by exact Nat.ne_of_beq_eq_false rfl) 0 j).trans ((up_g hU4 (fun z => hj z.2.2)).trans (hf_27 244 0 j rfl))))) (by omega), so_1 (so_0 (so_f (ws := [(235, [])]) (so_f (ws := [(244, [])]) (so_f (ws := [(243, []), (241, []), (245, [])]) (so_r) hf_27 ⟨fun _ => rfl, fun _ => rfl, fun _ => rfl⟩) (fr_u (fr_0 _ _) hU4 rfl) ⟨fun _ => rfl, fun _ => rfl, fun _ => rfl⟩) (fr_u (fr_0 _ _) hU10 rfl) ⟨fun _ => rfl, fun _ => rfl, fun _ => rfl⟩) hU26) hU29, sb1_1 (sb1_0 (sb1_f (ws := [(235, [])]) (sb1_f (ws := [(244, [])]) (sb1_f (ws := [(243, []), (241, []), (245, [])]) (hsb) hf_27 ⟨fun _ => rfl, fun _ => rfl, fun _ => rfl⟩) (fr_u (fr_0 _ _) hU4 rfl) ⟨fun _ => rfl, fun _ => rfl, fun _ => rfl⟩) (fr_u (fr_0 _ _) hU10 rfl) ⟨fun _ => rfl, fun _ => rfl, fun _ => rfl⟩) hU26 (by omega)) hU29 (by omega)⟩
            · refine ix_i (by omega) ?_
              intro b31 b31b
              have e32 : U26 230 0 m = T 230 0 m := (up_k hU26 (by exact Nat.ne_of_beq_eq_false rfl) 0 m).trans ((up_k hU10 (by exact Nat.ne_of_beq_eq_false rfl) 0 m).trans ((up_k hU4 (by exact Nat.ne_of_beq_eq_false rfl) 0 m).trans (hf_27 230 0 m rfl)))
              rw [e32] at b31 b31b ⊢
              refine hK 170 _ [vI 12, vI (T 230 0 m), vR 111 0, vI m, vR 237 0] U26 ?_
              refine j_callV (y := yX11_rule0) (Yc := zX11_rule0) (rest := [vI m, vR 237 0]) [vI (T 230 0 m), vI 12] (ct_X11_rule0 (T := U26) (by omega) (by omega)) cl_X11_321 (qd_c (by decide +kernel)) (nn_ _) rfl (rf_of rfl) (Nat.le_of_ble_eq_true rfl) (Nat.le_of_ble_eq_true rfl) (Nat.le_of_ble_eq_true rfl) rfl ?_
              rintro _ _ ⟨rfl, rfl⟩
              have e33 : U26 205 0 (23 * (T 230 0 m) + 12) = T 205 0 (23 * (T 230 0 m) + 12) := (up_k hU26 (by exact Nat.ne_of_beq_eq_false rfl) 0 (23 * (T 230 0 m) + 12)).trans ((up_k hU10 (by exact Nat.ne_of_beq_eq_false rfl) 0 (23 * (T 230 0 m) + 12)).trans ((up_k hU4 (by exact Nat.ne_of_beq_eq_false rfl) 0 (23 * (T 230 0 m) + 12)).trans (hf_27 205 0 (23 * (T 230 0 m) + 12) rfl)))
              show J_ zX11_sendOff T (po_X11_sendOff T bu m s sl) 0 0 173 _ [vI (U26 205 0 (23 * (T 230 0 m) + 12)), vI m, vR 237 0] U26
              refine j_blx (F := fX11) tb_X11 (nn_ _) bk_X11_sendOff_173 bs_X11_sendOff_173 hz (fun K hK => ?_)
              refine hK 177 _ [vI (U26 205 0 (23 * (T 230 0 m) + 12)), vI m, vR 237 0] U26 ?_
              refine j_blx (F := fX11) tb_X11 (nn_ _) bk_X11_sendOff_177 bs_X11_sendOff_177 hz (fun K hK => ?_)
              refine iy_i (by omega) (by omega) ?_
              refine x_nm (fun U34 hU34 => ?_)
              have e35 := up_f hU34
              refine (show po_X11_sendOff T bu m s sl U34 (none) from ?_)
              have e8 : U34 235 0 m = 2 := ((up_k hU34 (by exact Nat.ne_of_beq_eq_false rfl) 0 m).trans (up_k hU26 (by exact Nat.ne_of_beq_eq_false rfl) 0 m)).trans (up_f hU10)
              exact ⟨rfl, fr_u (fr_u (fr_u (fr_u (fr_t (fr_0 _ _) (fr_s hf_27 rfl)) hU4 rfl) hU10 rfl) hU26 rfl) hU34 rfl, fm_3 hfm hs (fun j hj => (up_k hU34 (by exact Nat.ne_of_beq_eq_false rfl) 0 j).trans ((up_k hU26 (by exact Nat.ne_of_beq_eq_false rfl) 0 j).trans ((up_g hU10 (fun z => hj z.2.2)).trans ((up_k hU4 (by exact Nat.ne_of_beq_eq_false rfl) 0 j).trans (hf_27 235 0 j rfl))))) (fun j hj => (up_k hU34 (by exact Nat.ne_of_beq_eq_false rfl) 0 j).trans ((up_k hU26 (by exact Nat.ne_of_beq_eq_false rfl) 0 j).trans ((up_k hU10 (by exact Nat.ne_of_beq_eq_false rfl) 0 j).trans ((up_g hU4 (fun z => hj z.2.2)).trans (hf_27 244 0 j rfl))))) (by omega), so_1 (so_0 (so_f (ws := [(235, [])]) (so_f (ws := [(244, [])]) (so_f (ws := [(243, []), (241, []), (245, [])]) (so_r) hf_27 ⟨fun _ => rfl, fun _ => rfl, fun _ => rfl⟩) (fr_u (fr_0 _ _) hU4 rfl) ⟨fun _ => rfl, fun _ => rfl, fun _ => rfl⟩) (fr_u (fr_0 _ _) hU10 rfl) ⟨fun _ => rfl, fun _ => rfl, fun _ => rfl⟩) hU26) hU34, sb1_1 (sb1_0 (sb1_f (ws := [(235, [])]) (sb1_f (ws := [(244, [])]) (sb1_f (ws := [(243, []), (241, []), (245, [])]) (hsb) hf_27 ⟨fun _ => rfl, fun _ => rfl, fun _ => rfl⟩) (fr_u (fr_0 _ _) hU4 rfl) ⟨fun _ => rfl, fun _ => rfl, fun _ => rfl⟩) (fr_u (fr_0 _ _) hU10 rfl) ⟨fun _ => rfl, fun _ => rfl, fun _ => rfl⟩) hU26 (by omega)) hU34 (by omega)⟩
      · refine rg_i (by omega) ?_
        refine rg_i (by omega) ?_
        refine ix_i (by omega) ?_
        intro b36 b36b
        refine And.intro (fun c37 => ?_) (fun c37 => ?_)
        · refine hK 85 _ [] T1 ?_
          refine j_blx (F := fX11) tb_X11 (nn_ _) bk_X11_sendOff_85 bs_X11_sendOff_85 hz (fun K hK => ?_)
          refine rg_i (by omega) ?_
          refine hK 27 [some (vR 111 0), some (vI m), some (vI s), some (vI sl), some (vI (2 * m + s)), some (vI kp), some (vI (i + 1))] [] T1 ?_
          refine ih_27 _ ?_ kp (i + 1) T1 (Nat.le_refl _) ?_ ?_
          · omega
          · exact fr_t (fr_0 _ _) (fr_s hf_27 rfl)
          · omega
        · refine rg_i (by omega) ?_
          refine rg_i (by omega) ?_
          refine rg_i (by omega) ?_
          refine rg_i (by omega) ?_
          refine ix_i (by omega) ?_
          intro b38 b38b
          refine iy_i (by omega) (by omega) ?_
          refine x_nm (fun U39 hU39 => ?_)
          have e40 := up_f hU39
          refine rg_i (by omega) ?_
          refine rg_i (by omega) ?_
          refine hK 27 [some (vR 111 0), some (vI m), some (vI s), some (vI sl), some (vI (2 * m + s)), some (vI (kp + 1)), some (vI (i + 1))] [] U39 ?_
          refine ih_27 _ ?_ (kp + 1) (i + 1) U39 (Nat.le_refl _) ?_ ?_
          · omega
          · exact fr_u (fr_t (fr_0 _ _) (fr_s hf_27 rfl)) hU39 rfl
          · omega
  refine j_blx (F := fX11) tb_X11 (nn_ _) bk_X11_sendOff_0 bs_X11_sendOff_0 hz (fun K hK => ?_)
  refine rg_i (by omega) ?_
  refine rg_i (by omega) ?_
  refine iy_i (by omega) (by omega) ?_
  refine x_nm (fun U41 hU41 => ?_)
  have e42 := up_f hU41
  refine iy_i (by omega) (by omega) ?_
  refine x_nm (fun U43 hU43 => ?_)
  have e44 := up_f hU43
  refine hK 27 [some (vR 111 0), some (vI m), some (vI s), some (vI sl), some (vI ((2 * m) + s)), some (vI 0), some (vI 0)] [] U43 ?_
  refine c_27 _ 0 0 U43 (Nat.le_refl _) ?_ ?_
  · exact fr_u (fr_u (fr_0 _ _) hU41 rfl) hU43 rfl
  · omega
abbrev cX11_substitute : ByteArray := prog_13_method_60_code
def yX11_substitute : MethodName := ⟨RX11, "substitute", "(IIII)V"⟩
def zX11_substitute : Zm := (RX11, cX11_substitute, 9, none, { frames := 1, cells := 0, slots := 0, locals := 24 })
theorem bk_X11_substitute_29 : ck_ fX11 none cX11_substitute 29 [.iload 8, .aload 0, .tableswitch 0 11 44 #[], .iload 5, .iaload, .if_icmp .ge 96, .aload 0, .tableswitch 0 11 45 #[], .iconst 6, .iload 5, .imul, .iload 8, .iadd, .aload 0, .tableswitch 0 11 45 #[], .iconst 6, .iload 5, .imul, .iload 8, .iadd, .iaload, .iload 6, .if_icmp .ne 76, .iload 7, .goto 89] 76 = true := qck_r (nn_ _) (by decide +kernel)
theorem bs_X11_substitute_29 {P : Zt → Option Zv → Prop} (K : Int → Zl → List Zv → Zt → Prop) : sx_ K P [.iload 8, .aload 0, .tableswitch 0 11 44 #[], .iload 5, .iaload, .if_icmp .ge 96, .aload 0, .tableswitch 0 11 45 #[], .iconst 6, .iload 5, .imul, .iload 8, .iadd, .aload 0, .tableswitch 0 11 45 #[], .iconst 6, .iload 5, .imul, .iload 8, .iadd, .iaload, .iload 6, .if_icmp .ne 76, .iload 7, .goto 89] 76 = x_iload 8 (x_aload 0 (x_g1 111 244 (x_iload 5 (x_iaload (x_if_icmp .ge 96 K (x_aload 0 (x_g1 111 245 (x_iconst 6 (x_iload 5 (x_imul (x_iload 8 (x_iadd (x_aload 0 (x_g1 111 245 (x_iconst 6 (x_iload 5 (x_imul (x_iload 8 (x_iadd (x_iaload (x_iload 6 (x_if_icmp .ne 76 K (x_iload 7 (x_goto 89 K)))))))))))))))))))))))) := ((xe_iload 8).trans (congrArg (x_iload 8) ((xe_aload 0).trans (congrArg (x_aload 0) ((xe_g1 (kk := 111) rfl tl_11_44).trans (congrArg (x_g1 111 244) ((xe_iload 5).trans (congrArg (x_iload 5) ((xe_iaload).trans (congrArg (x_iaload) ((xe_if_icmp .ge 96).trans (congrArg (x_if_icmp .ge 96 K) ((xe_aload 0).trans (congrArg (x_aload 0) ((xe_g1 (kk := 111) rfl tl_11_45).trans (congrArg (x_g1 111 245) ((xe_iconst 6).trans (congrArg (x_iconst 6) ((xe_iload 5).trans (congrArg (x_iload 5) ((xe_imul).trans (congrArg (x_imul) ((xe_iload 8).trans (congrArg (x_iload 8) ((xe_iadd).trans (congrArg (x_iadd) ((xe_aload 0).trans (congrArg (x_aload 0) ((xe_g1 (kk := 111) rfl tl_11_45).trans (congrArg (x_g1 111 245) ((xe_iconst 6).trans (congrArg (x_iconst 6) ((xe_iload 5).trans (congrArg (x_iload 5) ((xe_imul).trans (congrArg (x_imul) ((xe_iload 8).trans (congrArg (x_iload 8) ((xe_iadd).trans (congrArg (x_iadd) ((xe_iaload).trans (congrArg (x_iaload) ((xe_iload 6).trans (congrArg (x_iload 6) ((xe_if_icmp .ne 76).trans (congrArg (x_if_icmp .ne 76 K) ((xe_iload 7).trans (congrArg (x_iload 7) (xe_goto 89)))))))))))))))))))))))))))))))))))))))))))))))))
theorem bk_X11_substitute_96 : ck_ fX11 none cX11_substitute 96 [.aload 0, .tableswitch 0 11 41 #[], .iload 6, .iconst 2, .iastore, .aload 0, .tableswitch 0 11 41 #[], .iload 7, .iconst 1, .iastore, .aload 0, .iload 1, .iconst 6, .iload 2, .iadd, .aload 0, .iload 1, .iconst 6, .iload 2, .iadd] 124 = true := qck_r (nn_ _) (by decide +kernel)
theorem bs_X11_substitute_96 {P : Zt → Option Zv → Prop} (K : Int → Zl → List Zv → Zt → Prop) : sx_ K P [.aload 0, .tableswitch 0 11 41 #[], .iload 6, .iconst 2, .iastore, .aload 0, .tableswitch 0 11 41 #[], .iload 7, .iconst 1, .iastore, .aload 0, .iload 1, .iconst 6, .iload 2, .iadd, .aload 0, .iload 1, .iconst 6, .iload 2, .iadd] 124 = x_aload 0 (x_g1 111 241 (x_iload 6 (x_iconst 2 (x_iastore (x_aload 0 (x_g1 111 241 (x_iload 7 (x_iconst 1 (x_iastore (x_aload 0 (x_iload 1 (x_iconst 6 (x_iload 2 (x_iadd (x_aload 0 (x_iload 1 (x_iconst 6 (x_iload 2 (x_iadd (K 124)))))))))))))))))))) := ((xe_aload 0).trans (congrArg (x_aload 0) ((xe_g1 (kk := 111) rfl tl_11_41).trans (congrArg (x_g1 111 241) ((xe_iload 6).trans (congrArg (x_iload 6) ((xe_iconst 2).trans (congrArg (x_iconst 2) ((xe_iastore).trans (congrArg (x_iastore) ((xe_aload 0).trans (congrArg (x_aload 0) ((xe_g1 (kk := 111) rfl tl_11_41).trans (congrArg (x_g1 111 241) ((xe_iload 7).trans (congrArg (x_iload 7) ((xe_iconst 1).trans (congrArg (x_iconst 1) ((xe_iastore).trans (congrArg (x_iastore) ((xe_aload 0).trans (congrArg (x_aload 0) ((xe_iload 1).trans (congrArg (x_iload 1) ((xe_iconst 6).trans (congrArg (x_iconst 6) ((xe_iload 2).trans (congrArg (x_iload 2) ((xe_iadd).trans (congrArg (x_iadd) ((xe_aload 0).trans (congrArg (x_aload 0) ((xe_iload 1).trans (congrArg (x_iload 1) ((xe_iconst 6).trans (congrArg (x_iconst 6) ((xe_iload 2).trans (congrArg (x_iload 2) ((xe_iadd).trans (congrArg (x_iadd) xe_nil))))))))))))))))))))))))))))))))))))))))
theorem bk_X11_substitute_127 : ck_ fX11 none cX11_substitute 127 [.iconst 1, .fadd] 129 = true := qck_r (nn_ _) (by decide +kernel)
theorem bs_X11_substitute_127 {P : Zt → Option Zv → Prop} (K : Int → Zl → List Zv → Zt → Prop) : sx_ K P [.iconst 1, .fadd] 129 = x_iconst 1 (x_fadd (K 129)) := ((xe_iconst 1).trans (congrArg (x_iconst 1) ((xe_fadd).trans (congrArg (x_fadd) xe_nil))))
set_option maxRecDepth 100000 in
theorem cl_X11_410 : cv_ RX11 410 yX11_setLive zX11_setLive 11 3 := ⟨gi_V (lw_b9 78 (by decide +kernel) rfl : Cond.methodLink RX11 410 yX11_setLive ∈ lw_g) (lw_b9 80 (by decide +kernel) rfl : Cond.instanceMethod yX11_setLive ∈ lw_g) (lw_sel 64 rfl : Cond.selects yX11_setLive.cls yX11_setLive yX11_setLive ∈ lw_g) (lw_b1 10 (by decide +kernel) rfl : Cond.initialized yX11_setLive.cls ∈ lw_g) (lw_b9 81 rfl rfl : Cond.code yX11_setLive cX11_setLive 4 none ∈ lw_g), ⟨by decide, by decide, by decide +kernel⟩, ⟨_, _, rfl⟩⟩
theorem bk_X11_substitute_132 : ck_ fX11 none cX11_substitute 132 [.return_] 133 = true := qck_r (nn_ _) (by decide +kernel)
theorem bs_X11_substitute_132 {P : Zt → Option Zv → Prop} (K : Int → Zl → List Zv → Zt → Prop) : sx_ K P [.return_] 133 = x_return_ P := (xe_return_)
theorem bk_X11_substitute_76 : ck_ fX11 none cX11_substitute 76 [.aload 0, .tableswitch 0 11 45 #[], .iconst 6, .iload 5, .imul, .iload 8, .iadd, .iaload, .iastore, .iinc 8 1, .goto 29] 96 = true := qck_r (nn_ _) (by decide +kernel)
theorem bs_X11_substitute_76 {P : Zt → Option Zv → Prop} (K : Int → Zl → List Zv → Zt → Prop) : sx_ K P [.aload 0, .tableswitch 0 11 45 #[], .iconst 6, .iload 5, .imul, .iload 8, .iadd, .iaload, .iastore, .iinc 8 1, .goto 29] 96 = x_aload 0 (x_g1 111 245 (x_iconst 6 (x_iload 5 (x_imul (x_iload 8 (x_iadd (x_iaload (x_iastore (x_iinc 8 1 (x_goto 29 K)))))))))) := ((xe_aload 0).trans (congrArg (x_aload 0) ((xe_g1 (kk := 111) rfl tl_11_45).trans (congrArg (x_g1 111 245) ((xe_iconst 6).trans (congrArg (x_iconst 6) ((xe_iload 5).trans (congrArg (x_iload 5) ((xe_imul).trans (congrArg (x_imul) ((xe_iload 8).trans (congrArg (x_iload 8) ((xe_iadd).trans (congrArg (x_iadd) ((xe_iaload).trans (congrArg (x_iaload) ((xe_iastore).trans (congrArg (x_iastore) ((xe_iinc 8 1).trans (congrArg (x_iinc 8 1) (xe_goto 29)))))))))))))))))))))
theorem bk_X11_substitute_89 : ck_ fX11 none cX11_substitute 89 [.iastore, .iinc 8 1, .goto 29] 96 = true := qck_r (nn_ _) (by decide +kernel)
theorem bs_X11_substitute_89 {P : Zt → Option Zv → Prop} (K : Int → Zl → List Zv → Zt → Prop) : sx_ K P [.iastore, .iinc 8 1, .goto 29] 96 = x_iastore (x_iinc 8 1 (x_goto 29 K)) := ((xe_iastore).trans (congrArg (x_iastore) ((xe_iinc 8 1).trans (congrArg (x_iinc 8 1) (xe_goto 29)))))
theorem bk_X11_substitute_0 : ck_ fX11 none cX11_substitute 0 [.iconst 2, .iload 1, .imul, .iload 2, .iadd, .istore 5, .aload 0, .iload 5, .iload 3] 11 = true := qck_r (nn_ _) (by decide +kernel)
theorem bs_X11_substitute_0 {P : Zt → Option Zv → Prop} (K : Int → Zl → List Zv → Zt → Prop) : sx_ K P [.iconst 2, .iload 1, .imul, .iload 2, .iadd, .istore 5, .aload 0, .iload 5, .iload 3] 11 = x_iconst 2 (x_iload 1 (x_imul (x_iload 2 (x_iadd (x_istore 5 (x_aload 0 (x_iload 5 (x_iload 3 (K 11))))))))) := ((xe_iconst 2).trans (congrArg (x_iconst 2) ((xe_iload 1).trans (congrArg (x_iload 1) ((xe_imul).trans (congrArg (x_imul) ((xe_iload 2).trans (congrArg (x_iload 2) ((xe_iadd).trans (congrArg (x_iadd) ((xe_istore 5).trans (congrArg (x_istore 5) ((xe_aload 0).trans (congrArg (x_aload 0) ((xe_iload 5).trans (congrArg (x_iload 5) ((xe_iload 3).trans (congrArg (x_iload 3) xe_nil))))))))))))))))))
theorem bk_X11_substitute_14 : ck_ fX11 none cX11_substitute 14 [.istore 6, .aload 0, .iload 5, .iload 4] 21 = true := qck_r (nn_ _) (by decide +kernel)
theorem bs_X11_substitute_14 {P : Zt → Option Zv → Prop} (K : Int → Zl → List Zv → Zt → Prop) : sx_ K P [.istore 6, .aload 0, .iload 5, .iload 4] 21 = x_istore 6 (x_aload 0 (x_iload 5 (x_iload 4 (K 21)))) := ((xe_istore 6).trans (congrArg (x_istore 6) ((xe_aload 0).trans (congrArg (x_aload 0) ((xe_iload 5).trans (congrArg (x_iload 5) ((xe_iload 4).trans (congrArg (x_iload 4) xe_nil))))))))
theorem bk_X11_substitute_24 : ck_ fX11 none cX11_substitute 24 [.istore 7, .iconst 0, .istore 8] 29 = true := qck_r (nn_ _) (by decide +kernel)
theorem bs_X11_substitute_24 {P : Zt → Option Zv → Prop} (K : Int → Zl → List Zv → Zt → Prop) : sx_ K P [.istore 7, .iconst 0, .istore 8] 29 = x_istore 7 (x_iconst 0 (x_istore 8 (K 29))) := ((xe_istore 7).trans (congrArg (x_istore 7) ((xe_iconst 0).trans (congrArg (x_iconst 0) ((xe_istore 8).trans (congrArg (x_istore 8) xe_nil))))))
abbrev po_X11_substitute (T : Zt) (m s p q : Int) : Zt → Option Zv → Prop := fun T' r => r = none ∧ fr_ [(245, []), (241, []), (246, [])] T T' ∧ (0 = (0 : Int))
set_option maxHeartbeats 4000000 in
theorem ct_X11_substitute {T : Zt} {m s p q : Int} (h1 : 0 ≤ m ∧ m < 400) (hs : 0 ≤ s ∧ s ≤ 1) (hs1 : SL_ T (2 * m + s) p) (hs2 : SL_ T (2 * m + s) q) : Ct_ yX11_substitute zX11_substitute T [vR 111 0, vI m, vI s, vI p, vI q] (po_X11_substitute T m s p q) := by
  refine ct_of pn_11 rfl rfl (Nat.le_of_ble_eq_true rfl) (fun hT hav => ?_)
  have hr_m : -2147483648 ≤ m ∧ m ≤ 2147483647 := hav (vI m) (by simp)
  have hr_s : -2147483648 ≤ s ∧ s ≤ 2147483647 := hav (vI s) (by simp)
  have hr_p : -2147483648 ≤ p ∧ p ≤ 2147483647 := hav (vI p) (by simp)
  have hr_q : -2147483648 ≤ q ∧ q ≤ 2147483647 := hav (vI q) (by simp)
  have hz : zX11_substitute.2.2.2.1 = some .boolean → ∀ (T' : Zt) (x : Int), po_X11_substitute T m s p q T' (some (vI x)) → 0 ≤ x ∧ x ≤ 1 := fun h => by cases h
  have hsb : 0 ≤ T 239 0 (2 * m + s) ∧ T 239 0 (2 * m + s) ≤ 10 := bd_a hT 239 (by decide +kernel : ta_ 239 = some (1, some 800, 0, 10)) 0 (by omega)
  show J_ zX11_substitute T (po_X11_substitute T m s p q) 0 0 0 [some (vR 111 0), some (vI m), some (vI s), some (vI p), some (vI q), none, none, none, none] [] T
  have c_29 : ∀ (nn : Nat) (sa : Int) (sb : Int) (i : Int) (T1 : Zt), ((6 - i).toNat) ≤ nn → (fr_ [(245, [])] T T1) → (0 ≤ i ∧ 0 ≤ sa ∧ sa < 8000 ∧ 0 ≤ sb ∧ sb < 8000) → J_ zX11_substitute T (po_X11_substitute T m s p q) 0 0 29 [some (vR 111 0), some (vI m), some (vI s), some (vI p), some (vI q), some (vI (2 * m + s)), some (vI sa), some (vI sb), some (vI i)] [] T1 := by
    intro nn
    induction nn using Nat.strongRecOn with
    | _ nn ih_29 =>
      intro sa sb i T1 hm_29 hf_29 i1
      refine j_blx (F := fX11) tb_X11 (nn_ _) bk_X11_substitute_29 bs_X11_substitute_29 hz (fun K hK => ?_)
      refine ix_i (by omega) ?_
      intro b1 b1b
      have e2 : T1 244 0 (2 * m + s) = T 244 0 (2 * m + s) := hf_29 244 0 (2 * m + s) rfl
      rw [e2] at b1 b1b ⊢
      refine And.intro (fun c3 => ?_) (fun c3 => ?_)
      · refine hK 96 _ [] T1 ?_
        refine j_blx (F := fX11) tb_X11 (nn_ _) bk_X11_substitute_96 bs_X11_substitute_96 hz (fun K hK => ?_)
        refine iy_i (by omega) (by omega) ?_
        refine x_nm (fun U4 hU4 => ?_)
        have e5 := up_f hU4
        refine iy_i (by omega) (by omega) ?_
        refine x_nm (fun U6 hU6 => ?_)
        have e7 := up_f hU6
        refine rg_i (by omega) ?_
        refine rg_i (by omega) ?_
        refine hK 124 _ [vI (6 + s), vI m, vR 111 0, vI (6 + s), vI m, vR 111 0] U6 ?_
        refine j_callV (y := yX11_liveOf) (Yc := zX11_liveOf) (rest := [vI (6 + s), vI m, vR 111 0]) [vI m, vI (6 + s)] (ct_X11_liveOf (T := U6) (by omega) (by omega)) cl_X11_400 (qd_c (by decide +kernel)) (nn_ _) rfl (rf_of rfl) (Nat.le_of_ble_eq_true rfl) (Nat.le_of_ble_eq_true rfl) (Nat.le_of_ble_eq_true rfl) rfl ?_
        rintro _ _ ⟨rfl, rfl⟩
        have e8 : U6 246 0 (8 * m + (6 + s)) = T 246 0 (8 * m + (6 + s)) := (up_k hU6 (by exact Nat.ne_of_beq_eq_false rfl) 0 (8 * m + (6 + s))).trans ((up_k hU4 (by exact Nat.ne_of_beq_eq_false rfl) 0 (8 * m + (6 + s))).trans (hf_29 246 0 (8 * m + (6 + s)) rfl))
        show J_ zX11_substitute T (po_X11_substitute T m s p q) 0 0 127 _ [vI (U6 246 0 (8 * m + (6 + s))), vI (6 + s), vI m, vR 111 0] U6
        refine j_blx (F := fX11) tb_X11 (nn_ _) bk_X11_substitute_127 bs_X11_substitute_127 hz (fun K hK => ?_)
        intro w9 w9b
        refine hK 129 _ [vI (wr_ ((U6 246 0 (8 * m + (6 + s))) + 1)), vI (6 + s), vI m, vR 111 0] U6 ?_
        refine j_callV (y := yX11_setLive) (Yc := zX11_setLive) (rest := []) [vI m, vI (6 + s), vI (wr_ ((U6 246 0 (8 * m + (6 + s))) + 1))] (ct_X11_setLive (T := U6) (by omega) (by omega)) cl_X11_410 (qd_c (by decide +kernel)) (nn_ _) rfl (rf_of rfl) (Nat.le_of_ble_eq_true rfl) (Nat.le_of_ble_eq_true rfl) (Nat.le_of_ble_eq_true rfl) rfl ?_
        rintro U10 _ ⟨rfl, fU10, _⟩
        show J_ zX11_substitute T (po_X11_substitute T m s p q) 0 0 132 _ [] U10
        refine j_blx (F := fX11) tb_X11 (nn_ _) bk_X11_substitute_132 bs_X11_substitute_132 hz (fun K hK => ?_)
        refine (show po_X11_substitute T m s p q U10 (none) from ?_)
        exact ⟨rfl, fr_t (fr_u (fr_u (fr_t (fr_0 _ _) (fr_s hf_29 rfl)) hU4 rfl) hU6 rfl) (fr_s fU10 rfl), by rfl⟩
      · refine rg_i (by omega) ?_
        refine rg_i (by omega) ?_
        refine rg_i (by omega) ?_
        refine rg_i (by omega) ?_
        refine ix_i (by omega) ?_
        intro b11 b11b
        refine And.intro (fun c12 => ?_) (fun c12 => ?_)
        · refine hK 76 _ [vI ((6 * (2 * m + s)) + i), vR 245 0] T1 ?_
          refine j_blx (F := fX11) tb_X11 (nn_ _) bk_X11_substitute_76 bs_X11_substitute_76 hz (fun K hK => ?_)
          refine rg_i (by omega) ?_
          refine rg_i (by omega) ?_
          refine ix_i (by omega) ?_
          intro b13 b13b
          refine iy_i (by omega) (by omega) ?_
          refine x_nm (fun U14 hU14 => ?_)
          have e15 := up_f hU14
          refine rg_i (by omega) ?_
          refine hK 29 [some (vR 111 0), some (vI m), some (vI s), some (vI p), some (vI q), some (vI (2 * m + s)), some (vI sa), some (vI sb), some (vI (i + 1))] [] U14 ?_
          refine ih_29 _ ?_ sa sb (i + 1) U14 (Nat.le_refl _) ?_ ?_
          · omega
          · exact fr_u (fr_t (fr_0 _ _) (fr_s hf_29 rfl)) hU14 rfl
          · omega
        · refine hK 89 [some (vR 111 0), some (vI m), some (vI s), some (vI p), some (vI q), some (vI (2 * m + s)), some (vI sa), some (vI sb), some (vI i)] [vI sb, vI ((6 * (2 * m + s)) + i), vR 245 0] T1 ?_
          refine j_blx (F := fX11) tb_X11 (nn_ _) bk_X11_substitute_89 bs_X11_substitute_89 hz (fun K hK => ?_)
          refine iy_i (by omega) (by omega) ?_
          refine x_nm (fun U16 hU16 => ?_)
          have e17 := up_f hU16
          refine rg_i (by omega) ?_
          refine hK 29 [some (vR 111 0), some (vI m), some (vI s), some (vI p), some (vI q), some (vI (2 * m + s)), some (vI sa), some (vI sb), some (vI (i + 1))] [] U16 ?_
          refine ih_29 _ ?_ sa sb (i + 1) U16 (Nat.le_refl _) ?_ ?_
          · omega
          · exact fr_u (fr_t (fr_0 _ _) (fr_s hf_29 rfl)) hU16 rfl
          · omega
  refine j_blx (F := fX11) tb_X11 (nn_ _) bk_X11_substitute_0 bs_X11_substitute_0 hz (fun K hK => ?_)
  refine rg_i (by omega) ?_
  refine rg_i (by omega) ?_
  refine hK 11 [some (vR 111 0), some (vI m), some (vI s), some (vI p), some (vI q), some (vI ((2 * m) + s)), none, none, none] [vI p, vI ((2 * m) + s), vR 111 0] T ?_
  refine j_callV (y := yX11_slotOf) (Yc := zX11_slotOf) (rest := []) [vI ((2 * m) + s), vI p] (ct_X11_slotOf (T := T) (by omega)) cl_X11_378 (qd_c (by decide +kernel)) (nn_ _) rfl (rf_of rfl) (Nat.le_of_ble_eq_true rfl) (Nat.le_of_ble_eq_true rfl) (Nat.le_of_ble_eq_true rfl) rfl ?_
  rintro _ _ ⟨rfl, x18, rfl, hx18⟩
  show J_ zX11_substitute T (po_X11_substitute T m s p q) 0 0 14 _ [vI x18] T
  refine j_blx (F := fX11) tb_X11 (nn_ _) bk_X11_substitute_14 bs_X11_substitute_14 hz (fun K hK => ?_)
  refine hK 21 [some (vR 111 0), some (vI m), some (vI s), some (vI p), some (vI q), some (vI ((2 * m) + s)), some (vI x18), none, none] [vI q, vI ((2 * m) + s), vR 111 0] T ?_
  refine j_callV (y := yX11_slotOf) (Yc := zX11_slotOf) (rest := []) [vI ((2 * m) + s), vI q] (ct_X11_slotOf (T := T) (by omega)) cl_X11_378 (qd_c (by decide +kernel)) (nn_ _) rfl (rf_of rfl) (Nat.le_of_ble_eq_true rfl) (Nat.le_of_ble_eq_true rfl) (Nat.le_of_ble_eq_true rfl) rfl ?_
  rintro _ _ ⟨rfl, x19, rfl, hx19⟩
  show J_ zX11_substitute T (po_X11_substitute T m s p q) 0 0 24 _ [vI x19] T
  have y1 : 10 * (2 * m + s) ≤ x18 ∧ x18 < 10 * (2 * m + s) + 10 := by
    rcases hx18 with z | z
    · exact absurd hs1 z.2
    · exact ⟨z.1, z.2.1⟩
  have y2 : 10 * (2 * m + s) ≤ x19 ∧ x19 < 10 * (2 * m + s) + 10 := by
    rcases hx19 with z | z
    · exact absurd hs2 z.2
    · exact ⟨z.1, z.2.1⟩
  refine j_blx (F := fX11) tb_X11 (nn_ _) bk_X11_substitute_24 bs_X11_substitute_24 hz (fun K hK => ?_)
  refine hK 29 [some (vR 111 0), some (vI m), some (vI s), some (vI p), some (vI q), some (vI ((2 * m) + s)), some (vI x18), some (vI x19), some (vI 0)] [] T ?_
  refine c_29 _ x18 x19 0 T (Nat.le_refl _) ?_ ?_
  · exact fr_0 _ _
  · omega
abbrev cX11_playFootball : ByteArray := prog_13_method_61_code
def yX11_playFootball : MethodName := ⟨RX11, "playFootball", "(IIIII)V"⟩
def zX11_playFootball : Zm := (RX11, cX11_playFootball, 7, none, { frames := 2, cells := 0, slots := 0, locals := 52 })
theorem bk_X11_playFootball_0 : ck_ fX11 none cX11_playFootball 0 [.iload 2] 1 = true := qck_r (nn_ _) (by decide +kernel)
theorem bs_X11_playFootball_0 {P : Zt → Option Zv → Prop} (K : Int → Zl → List Zv → Zt → Prop) : sx_ K P [.iload 2] 1 = x_iload 2 (K 1) := ((xe_iload 2).trans (congrArg (x_iload 2) xe_nil))
theorem ds_X11_playFootball_1 : decode cX11_playFootball 1 = .ok (.tableswitch 161 0 4 #[35, 73, 83, 95, 141], 35) := by decide +kernel
theorem bk_X11_playFootball_36 : ck_ fX11 none cX11_playFootball 36 [.aload 0, .iload 1, .iconst 0, .aload 0, .iload 1, .iconst 0] 42 = true := qck_r (nn_ _) (by decide +kernel)
theorem bs_X11_playFootball_36 {P : Zt → Option Zv → Prop} (K : Int → Zl → List Zv → Zt → Prop) : sx_ K P [.aload 0, .iload 1, .iconst 0, .aload 0, .iload 1, .iconst 0] 42 = x_aload 0 (x_iload 1 (x_iconst 0 (x_aload 0 (x_iload 1 (x_iconst 0 (K 42)))))) := ((xe_aload 0).trans (congrArg (x_aload 0) ((xe_iload 1).trans (congrArg (x_iload 1) ((xe_iconst 0).trans (congrArg (x_iconst 0) ((xe_aload 0).trans (congrArg (x_aload 0) ((xe_iload 1).trans (congrArg (x_iload 1) ((xe_iconst 0).trans (congrArg (x_iconst 0) xe_nil))))))))))))
theorem bk_X11_playFootball_45 : ck_ fX11 none cX11_playFootball 45 [.iconst 1, .fadd] 47 = true := qck_r (nn_ _) (by decide +kernel)
theorem bs_X11_playFootball_45 {P : Zt → Option Zv → Prop} (K : Int → Zl → List Zv → Zt → Prop) : sx_ K P [.iconst 1, .fadd] 47 = x_iconst 1 (x_fadd (K 47)) := ((xe_iconst 1).trans (congrArg (x_iconst 1) ((xe_fadd).trans (congrArg (x_fadd) xe_nil))))
theorem bk_X11_playFootball_50 : ck_ fX11 none cX11_playFootball 50 [.aload 0, .tableswitch 0 11 35 #[], .iload 1, .aload 0, .iload 1, .iconst 0] 58 = true := qck_r (nn_ _) (by decide +kernel)
theorem bs_X11_playFootball_50 {P : Zt → Option Zv → Prop} (K : Int → Zl → List Zv → Zt → Prop) : sx_ K P [.aload 0, .tableswitch 0 11 35 #[], .iload 1, .aload 0, .iload 1, .iconst 0] 58 = x_aload 0 (x_g1 111 235 (x_iload 1 (x_aload 0 (x_iload 1 (x_iconst 0 (K 58)))))) := ((xe_aload 0).trans (congrArg (x_aload 0) ((xe_g1 (kk := 111) rfl tl_11_35).trans (congrArg (x_g1 111 235) ((xe_iload 1).trans (congrArg (x_iload 1) ((xe_aload 0).trans (congrArg (x_aload 0) ((xe_iload 1).trans (congrArg (x_iload 1) ((xe_iconst 0).trans (congrArg (x_iconst 0) xe_nil))))))))))))
theorem bk_X11_playFootball_61 : ck_ fX11 none cX11_playFootball 61 [.iconst 3, .if_icmp .ne 69, .iconst 2, .goto 70] 69 = true := qck_r (nn_ _) (by decide +kernel)
theorem bs_X11_playFootball_61 {P : Zt → Option Zv → Prop} (K : Int → Zl → List Zv → Zt → Prop) : sx_ K P [.iconst 3, .if_icmp .ne 69, .iconst 2, .goto 70] 69 = x_iconst 3 (x_if_icmp .ne 69 K (x_iconst 2 (x_goto 70 K))) := ((xe_iconst 3).trans (congrArg (x_iconst 3) ((xe_if_icmp .ne 69).trans (congrArg (x_if_icmp .ne 69 K) ((xe_iconst 2).trans (congrArg (x_iconst 2) (xe_goto 70)))))))
theorem bk_X11_playFootball_69 : ck_ fX11 none cX11_playFootball 69 [.iconst 1, .iastore, .goto 172] 74 = true := qck_r (nn_ _) (by decide +kernel)
theorem bs_X11_playFootball_69 {P : Zt → Option Zv → Prop} (K : Int → Zl → List Zv → Zt → Prop) : sx_ K P [.iconst 1, .iastore, .goto 172] 74 = x_iconst 1 (x_iastore (x_goto 172 K)) := ((xe_iconst 1).trans (congrArg (x_iconst 1) ((xe_iastore).trans (congrArg (x_iastore) (xe_goto 172)))))
theorem bk_X11_playFootball_172 : ck_ fX11 none cX11_playFootball 172 [.return_] 173 = true := qck_r (nn_ _) (by decide +kernel)
theorem bs_X11_playFootball_172 {P : Zt → Option Zv → Prop} (K : Int → Zl → List Zv → Zt → Prop) : sx_ K P [.return_] 173 = x_return_ P := (xe_return_)
theorem bk_X11_playFootball_70 : ck_ fX11 none cX11_playFootball 70 [.iastore, .goto 172] 74 = true := qck_r (nn_ _) (by decide +kernel)
theorem bs_X11_playFootball_70 {P : Zt → Option Zv → Prop} (K : Int → Zl → List Zv → Zt → Prop) : sx_ K P [.iastore, .goto 172] 74 = x_iastore (x_goto 172 K) := ((xe_iastore).trans (congrArg (x_iastore) (xe_goto 172)))
theorem bk_X11_playFootball_74 : ck_ fX11 none cX11_playFootball 74 [.aload 0, .iload 1, .iload 3, .iconst 1] 78 = true := qck_r (nn_ _) (by decide +kernel)
theorem bs_X11_playFootball_74 {P : Zt → Option Zv → Prop} (K : Int → Zl → List Zv → Zt → Prop) : sx_ K P [.aload 0, .iload 1, .iload 3, .iconst 1] 78 = x_aload 0 (x_iload 1 (x_iload 3 (x_iconst 1 (K 78)))) := ((xe_aload 0).trans (congrArg (x_aload 0) ((xe_iload 1).trans (congrArg (x_iload 1) ((xe_iload 3).trans (congrArg (x_iload 3) ((xe_iconst 1).trans (congrArg (x_iconst 1) xe_nil))))))))
set_option maxRecDepth 100000 in
theorem cl_X11_413 : cv_ RX11 413 yX11_addScore zX11_addScore 11 3 := ⟨gi_V (lw_b9 82 (by decide +kernel) rfl : Cond.methodLink RX11 413 yX11_addScore ∈ lw_g) (lw_b9 84 (by decide +kernel) rfl : Cond.instanceMethod yX11_addScore ∈ lw_g) (lw_sel 5 rfl : Cond.selects yX11_addScore.cls yX11_addScore yX11_addScore ∈ lw_g) (lw_b1 10 (by decide +kernel) rfl : Cond.initialized yX11_addScore.cls ∈ lw_g) (lw_b9 85 rfl rfl : Cond.code yX11_addScore cX11_addScore 4 none ∈ lw_g), ⟨by decide, by decide, by decide +kernel⟩, ⟨_, _, rfl⟩⟩
theorem bk_X11_playFootball_81 : ck_ fX11 none cX11_playFootball 81 [.goto 172] 84 = true := qck_r (nn_ _) (by decide +kernel)
theorem bs_X11_playFootball_81 {P : Zt → Option Zv → Prop} (K : Int → Zl → List Zv → Zt → Prop) : sx_ K P [.goto 172] 84 = x_goto 172 K := (xe_goto 172)
theorem bk_X11_playFootball_84 : ck_ fX11 none cX11_playFootball 84 [.aload 0, .iload 1, .iconst 1, .iload 3, .isub, .iconst 1] 90 = true := qck_r (nn_ _) (by decide +kernel)
theorem bs_X11_playFootball_84 {P : Zt → Option Zv → Prop} (K : Int → Zl → List Zv → Zt → Prop) : sx_ K P [.aload 0, .iload 1, .iconst 1, .iload 3, .isub, .iconst 1] 90 = x_aload 0 (x_iload 1 (x_iconst 1 (x_iload 3 (x_isub (x_iconst 1 (K 90)))))) := ((xe_aload 0).trans (congrArg (x_aload 0) ((xe_iload 1).trans (congrArg (x_iload 1) ((xe_iconst 1).trans (congrArg (x_iconst 1) ((xe_iload 3).trans (congrArg (x_iload 3) ((xe_isub).trans (congrArg (x_isub) ((xe_iconst 1).trans (congrArg (x_iconst 1) xe_nil))))))))))))
theorem bk_X11_playFootball_93 : ck_ fX11 none cX11_playFootball 93 [.goto 172] 96 = true := qck_r (nn_ _) (by decide +kernel)
theorem bs_X11_playFootball_93 {P : Zt → Option Zv → Prop} (K : Int → Zl → List Zv → Zt → Prop) : sx_ K P [.goto 172] 96 = x_goto 172 K := (xe_goto 172)
theorem bk_X11_playFootball_96 : ck_ fX11 none cX11_playFootball 96 [.aload 0, .iconst 2, .iload 1, .imul, .iload 3, .iadd, .iload 4] 104 = true := qck_r (nn_ _) (by decide +kernel)
theorem bs_X11_playFootball_96 {P : Zt → Option Zv → Prop} (K : Int → Zl → List Zv → Zt → Prop) : sx_ K P [.aload 0, .iconst 2, .iload 1, .imul, .iload 3, .iadd, .iload 4] 104 = x_aload 0 (x_iconst 2 (x_iload 1 (x_imul (x_iload 3 (x_iadd (x_iload 4 (K 104))))))) := ((xe_aload 0).trans (congrArg (x_aload 0) ((xe_iconst 2).trans (congrArg (x_iconst 2) ((xe_iload 1).trans (congrArg (x_iload 1) ((xe_imul).trans (congrArg (x_imul) ((xe_iload 3).trans (congrArg (x_iload 3) ((xe_iadd).trans (congrArg (x_iadd) ((xe_iload 4).trans (congrArg (x_iload 4) xe_nil))))))))))))))
theorem bk_X11_playFootball_107 : ck_ fX11 none cX11_playFootball 107 [.istore 6, .aload 0, .tableswitch 0 11 42 #[], .iload 6, .dup2, .iaload, .iconst 1, .iadd, .iastore, .aload 0, .tableswitch 0 11 42 #[], .iload 6, .iaload, .iconst 2, .if_icmp .ne 172, .aload 0, .iload 1, .iload 3, .iload 6] 136 = true := qck_r (nn_ _) (by decide +kernel)
theorem bs_X11_playFootball_107 {P : Zt → Option Zv → Prop} (K : Int → Zl → List Zv → Zt → Prop) : sx_ K P [.istore 6, .aload 0, .tableswitch 0 11 42 #[], .iload 6, .dup2, .iaload, .iconst 1, .iadd, .iastore, .aload 0, .tableswitch 0 11 42 #[], .iload 6, .iaload, .iconst 2, .if_icmp .ne 172, .aload 0, .iload 1, .iload 3, .iload 6] 136 = x_istore 6 (x_aload 0 (x_g1 111 242 (x_iload 6 (x_dup2 (x_iaload (x_iconst 1 (x_iadd (x_iastore (x_aload 0 (x_g1 111 242 (x_iload 6 (x_iaload (x_iconst 2 (x_if_icmp .ne 172 K (x_aload 0 (x_iload 1 (x_iload 3 (x_iload 6 (K 136))))))))))))))))))) := ((xe_istore 6).trans (congrArg (x_istore 6) ((xe_aload 0).trans (congrArg (x_aload 0) ((xe_g1 (kk := 111) rfl tl_11_42).trans (congrArg (x_g1 111 242) ((xe_iload 6).trans (congrArg (x_iload 6) ((xe_dup2).trans (congrArg (x_dup2) ((xe_iaload).trans (congrArg (x_iaload) ((xe_iconst 1).trans (congrArg (x_iconst 1) ((xe_iadd).trans (congrArg (x_iadd) ((xe_iastore).trans (congrArg (x_iastore) ((xe_aload 0).trans (congrArg (x_aload 0) ((xe_g1 (kk := 111) rfl tl_11_42).trans (congrArg (x_g1 111 242) ((xe_iload 6).trans (congrArg (x_iload 6) ((xe_iaload).trans (congrArg (x_iaload) ((xe_iconst 2).trans (congrArg (x_iconst 2) ((xe_if_icmp .ne 172).trans (congrArg (x_if_icmp .ne 172 K) ((xe_aload 0).trans (congrArg (x_aload 0) ((xe_iload 1).trans (congrArg (x_iload 1) ((xe_iload 3).trans (congrArg (x_iload 3) ((xe_iload 6).trans (congrArg (x_iload 6) xe_nil))))))))))))))))))))))))))))))))))))))
set_option maxRecDepth 100000 in
theorem cl_X11_416 : cv_ RX11 416 yX11_sendOff zX11_sendOff 11 3 := ⟨gi_V (lw_b9 86 (by decide +kernel) rfl : Cond.methodLink RX11 416 yX11_sendOff ∈ lw_g) (lw_b9 88 (by decide +kernel) rfl : Cond.instanceMethod yX11_sendOff ∈ lw_g) (lw_sel 63 rfl : Cond.selects yX11_sendOff.cls yX11_sendOff yX11_sendOff ∈ lw_g) (lw_b1 10 (by decide +kernel) rfl : Cond.initialized yX11_sendOff.cls ∈ lw_g) (lw_b9 89 rfl rfl : Cond.code yX11_sendOff cX11_sendOff 7 none ∈ lw_g), ⟨by decide, by decide, by decide +kernel⟩, ⟨_, _, rfl⟩⟩
theorem bk_X11_playFootball_139 : ck_ fX11 none cX11_playFootball 139 [.goto 172] 142 = true := qck_r (nn_ _) (by decide +kernel)
theorem bs_X11_playFootball_139 {P : Zt → Option Zv → Prop} (K : Int → Zl → List Zv → Zt → Prop) : sx_ K P [.goto 172] 142 = x_goto 172 K := (xe_goto 172)
theorem bk_X11_playFootball_142 : ck_ fX11 none cX11_playFootball 142 [.aload 0, .iload 1, .iload 3, .aload 0, .iconst 2, .iload 1, .imul, .iload 3, .iadd, .iload 4] 153 = true := qck_r (nn_ _) (by decide +kernel)
theorem bs_X11_playFootball_142 {P : Zt → Option Zv → Prop} (K : Int → Zl → List Zv → Zt → Prop) : sx_ K P [.aload 0, .iload 1, .iload 3, .aload 0, .iconst 2, .iload 1, .imul, .iload 3, .iadd, .iload 4] 153 = x_aload 0 (x_iload 1 (x_iload 3 (x_aload 0 (x_iconst 2 (x_iload 1 (x_imul (x_iload 3 (x_iadd (x_iload 4 (K 153)))))))))) := ((xe_aload 0).trans (congrArg (x_aload 0) ((xe_iload 1).trans (congrArg (x_iload 1) ((xe_iload 3).trans (congrArg (x_iload 3) ((xe_aload 0).trans (congrArg (x_aload 0) ((xe_iconst 2).trans (congrArg (x_iconst 2) ((xe_iload 1).trans (congrArg (x_iload 1) ((xe_imul).trans (congrArg (x_imul) ((xe_iload 3).trans (congrArg (x_iload 3) ((xe_iadd).trans (congrArg (x_iadd) ((xe_iload 4).trans (congrArg (x_iload 4) xe_nil))))))))))))))))))))
theorem bk_X11_playFootball_159 : ck_ fX11 none cX11_playFootball 159 [.goto 172] 162 = true := qck_r (nn_ _) (by decide +kernel)
theorem bs_X11_playFootball_159 {P : Zt → Option Zv → Prop} (K : Int → Zl → List Zv → Zt → Prop) : sx_ K P [.goto 172] 162 = x_goto 172 K := (xe_goto 172)
theorem bk_X11_playFootball_162 : ck_ fX11 none cX11_playFootball 162 [.aload 0, .iload 1, .iload 3, .iload 4, .iload 5] 169 = true := qck_r (nn_ _) (by decide +kernel)
theorem bs_X11_playFootball_162 {P : Zt → Option Zv → Prop} (K : Int → Zl → List Zv → Zt → Prop) : sx_ K P [.aload 0, .iload 1, .iload 3, .iload 4, .iload 5] 169 = x_aload 0 (x_iload 1 (x_iload 3 (x_iload 4 (x_iload 5 (K 169))))) := ((xe_aload 0).trans (congrArg (x_aload 0) ((xe_iload 1).trans (congrArg (x_iload 1) ((xe_iload 3).trans (congrArg (x_iload 3) ((xe_iload 4).trans (congrArg (x_iload 4) ((xe_iload 5).trans (congrArg (x_iload 5) xe_nil))))))))))
set_option maxRecDepth 100000 in
theorem cl_X11_419 : cv_ RX11 419 yX11_substitute zX11_substitute 11 4 := ⟨gi_V (lw_b9 90 (by decide +kernel) rfl : Cond.methodLink RX11 419 yX11_substitute ∈ lw_g) (lw_b9 92 (by decide +kernel) rfl : Cond.instanceMethod yX11_substitute ∈ lw_g) (lw_sel 71 rfl : Cond.selects yX11_substitute.cls yX11_substitute yX11_substitute ∈ lw_g) (lw_b1 10 (by decide +kernel) rfl : Cond.initialized yX11_substitute.cls ∈ lw_g) (lw_b9 93 rfl rfl : Cond.code yX11_substitute cX11_substitute 9 none ∈ lw_g), ⟨by decide, by decide, by decide +kernel⟩, ⟨_, _, rfl⟩⟩
abbrev po_X11_playFootball (T : Zt) (bu : Int) (m k s p q : Int) : Zt → Option Zv → Prop := fun T' r => r = none ∧ fr_ [(244, []), (241, []), (242, []), (243, []), (245, []), (246, []), (236, []), (237, []), (235, [])] T T' ∧ (FM_ T' ∧ SO_ T T' m ∧ SB1_ T' m (bu + 4))
set_option maxHeartbeats 4000000 in
theorem ct_X11_playFootball {T : Zt} {bu : Int} {m k s p q : Int} (h1 : 0 ≤ m ∧ m < T 111 0 29) (hmc : MC_ T) (hri : RI_ T) (hfm : FM_ T) (hgo : T 235 0 m = 1) (hk : 0 ≤ k ∧ k ≤ 5) (hs : k = 0 ∨ (0 ≤ s ∧ s ≤ 1)) (hp : k = 0 ∨ SL_ T (2 * m + s) p) (hq : k = 5 → SL_ T (2 * m + s) q) (hbu : 9 ≤ bu ∧ bu ≤ 19000) (hsb : SB1_ T m bu) : Ct_ yX11_playFootball zX11_playFootball T [vR 111 0, vI m, vI k, vI s, vI p, vI q] (po_X11_playFootball T bu m k s p q) := by
  refine ct_of pn_11 rfl rfl (Nat.le_of_ble_eq_true rfl) (fun hT hav => ?_)
  have hr_m : -2147483648 ≤ m ∧ m ≤ 2147483647 := hav (vI m) (by simp)
  have hr_k : -2147483648 ≤ k ∧ k ≤ 2147483647 := hav (vI k) (by simp)
  have hr_s : -2147483648 ≤ s ∧ s ≤ 2147483647 := hav (vI s) (by simp)
  have hr_p : -2147483648 ≤ p ∧ p ≤ 2147483647 := hav (vI p) (by simp)
  have hr_q : -2147483648 ≤ q ∧ q ≤ 2147483647 := hav (vI q) (by simp)
  have hz : zX11_playFootball.2.2.2.1 = some .boolean → ∀ (T' : Zt) (x : Int), po_X11_playFootball T bu m k s p q T' (some (vI x)) → 0 ≤ x ∧ x ≤ 1 := fun h => by cases h
  have hb_29 : 0 ≤ T 111 0 29 ∧ T 111 0 29 ≤ 400 := bd_f hT 111 29 (by decide +kernel : (tf_ 111)[29]? = some (0, 0, 0, 400)) 0
  show J_ zX11_playFootball T (po_X11_playFootball T bu m k s p q) 0 0 0 [some (vR 111 0), some (vI m), some (vI k), some (vI s), some (vI p), some (vI q), none] [] T
  refine j_blx (F := fX11) tb_X11 (nn_ _) bk_X11_playFootball_0 bs_X11_playFootball_0 hz (fun K hK => ?_)
  refine hK 1 _ [vI k] T ?_
  by_cases z1_0 : k = 0
  · refine j_tsI (pc := 1) 0 (off := 35) (tgt := 36) (by decide) ds_X11_playFootball_1 (by omega) (by decide) rfl (by decide) (by decide) ?_
    refine j_blx (F := fX11) tb_X11 (nn_ _) bk_X11_playFootball_36 bs_X11_playFootball_36 hz (fun K hK => ?_)
    refine hK 42 _ [vI 0, vI m, vR 111 0, vI 0, vI m, vR 111 0] T ?_
    refine j_callV (y := yX11_liveOf) (Yc := zX11_liveOf) (rest := [vI 0, vI m, vR 111 0]) [vI m, vI 0] (ct_X11_liveOf (T := T) (by omega) (by omega)) cl_X11_400 (qd_c (by decide +kernel)) (nn_ _) rfl (rf_of rfl) (Nat.le_of_ble_eq_true rfl) (Nat.le_of_ble_eq_true rfl) (Nat.le_of_ble_eq_true rfl) rfl ?_
    rintro _ _ ⟨rfl, rfl⟩
    show J_ zX11_playFootball T (po_X11_playFootball T bu m k s p q) 0 0 45 _ [vI (T 246 0 (8 * m + 0)), vI 0, vI m, vR 111 0] T
    refine j_blx (F := fX11) tb_X11 (nn_ _) bk_X11_playFootball_45 bs_X11_playFootball_45 hz (fun K hK => ?_)
    intro w2 w2b
    refine hK 47 _ [vI (wr_ ((T 246 0 (8 * m + 0)) + 1)), vI 0, vI m, vR 111 0] T ?_
    refine j_callV (y := yX11_setLive) (Yc := zX11_setLive) (rest := []) [vI m, vI 0, vI (wr_ ((T 246 0 (8 * m + 0)) + 1))] (ct_X11_setLive (T := T) (by omega) (by omega)) cl_X11_410 (qd_c (by decide +kernel)) (nn_ _) rfl (rf_of rfl) (Nat.le_of_ble_eq_true rfl) (Nat.le_of_ble_eq_true rfl) (Nat.le_of_ble_eq_true rfl) rfl ?_
    rintro U3 _ ⟨rfl, fU3, _⟩
    show J_ zX11_playFootball T (po_X11_playFootball T bu m k s p q) 0 0 50 _ [] U3
    refine j_blx (F := fX11) tb_X11 (nn_ _) bk_X11_playFootball_50 bs_X11_playFootball_50 hz (fun K hK => ?_)
    refine hK 58 _ [vI 0, vI m, vR 111 0, vI m, vR 235 0] U3 ?_
    refine j_callV (y := yX11_liveOf) (Yc := zX11_liveOf) (rest := [vI m, vR 235 0]) [vI m, vI 0] (ct_X11_liveOf (T := U3) (by omega) (by omega)) cl_X11_400 (qd_c (by decide +kernel)) (nn_ _) rfl (rf_of rfl) (Nat.le_of_ble_eq_true rfl) (Nat.le_of_ble_eq_true rfl) (Nat.le_of_ble_eq_true rfl) rfl ?_
    rintro _ _ ⟨rfl, rfl⟩
    show J_ zX11_playFootball T (po_X11_playFootball T bu m k s p q) 0 0 61 _ [vI (U3 246 0 (8 * m + 0)), vI m, vR 235 0] U3
    refine j_blx (F := fX11) tb_X11 (nn_ _) bk_X11_playFootball_61 bs_X11_playFootball_61 hz (fun K hK => ?_)
    refine And.intro (fun c4 => ?_) (fun c4 => ?_)
    · refine hK 69 _ [vI m, vR 235 0] U3 ?_
      refine j_blx (F := fX11) tb_X11 (nn_ _) bk_X11_playFootball_69 bs_X11_playFootball_69 hz (fun K hK => ?_)
      refine iy_i (by omega) (by omega) ?_
      refine x_nm (fun U5 hU5 => ?_)
      have e6 := up_f hU5
      refine hK 172 _ [] U5 ?_
      refine j_blx (F := fX11) tb_X11 (nn_ _) bk_X11_playFootball_172 bs_X11_playFootball_172 hz (fun K hK => ?_)
      refine (show po_X11_playFootball T bu m k s p q U5 (none) from ?_)
      exact ⟨rfl, fr_u (fr_t (fr_0 _ _) (fr_s fU3 rfl)) hU5 rfl, fm_1 (FM__f (ws := [(246, [])]) (hfm) fU3 ⟨fun _ => rfl, fun _ => rfl, trivial⟩) hU5 ((fU3 235 0 m rfl).trans hgo), so_f (ws := [(235, [])]) (so_f (ws := [(246, [])]) (so_r) fU3 ⟨fun _ => rfl, fun _ => rfl, fun _ => rfl⟩) (fr_u (fr_0 _ _) hU5 rfl) ⟨fun _ => rfl, fun _ => rfl, fun _ => rfl⟩, sb1_f (ws := [(235, [])]) (sb1_f (ws := [(246, [])]) (sb1_m (c := bu + 4) hsb (by omega)) fU3 ⟨fun _ => rfl, fun _ => rfl, fun _ => rfl⟩) (fr_u (fr_0 _ _) hU5 rfl) ⟨fun _ => rfl, fun _ => rfl, fun _ => rfl⟩⟩
    · refine hK 70 _ [vI 2, vI m, vR 235 0] U3 ?_
      refine j_blx (F := fX11) tb_X11 (nn_ _) bk_X11_playFootball_70 bs_X11_playFootball_70 hz (fun K hK => ?_)
      refine iy_i (by omega) (by omega) ?_
      refine x_nm (fun U7 hU7 => ?_)
      have e8 := up_f hU7
      refine hK 172 _ [] U7 ?_
      refine j_blx (F := fX11) tb_X11 (nn_ _) bk_X11_playFootball_172 bs_X11_playFootball_172 hz (fun K hK => ?_)
      refine (show po_X11_playFootball T bu m k s p q U7 (none) from ?_)
      exact ⟨rfl, fr_u (fr_t (fr_0 _ _) (fr_s fU3 rfl)) hU7 rfl, fm_w (FM__f (ws := [(246, [])]) (hfm) fU3 ⟨fun _ => rfl, fun _ => rfl, trivial⟩) hU7 (by decide), so_f (ws := [(235, [])]) (so_f (ws := [(246, [])]) (so_r) fU3 ⟨fun _ => rfl, fun _ => rfl, fun _ => rfl⟩) (fr_u (fr_0 _ _) hU7 rfl) ⟨fun _ => rfl, fun _ => rfl, fun _ => rfl⟩, sb1_f (ws := [(235, [])]) (sb1_f (ws := [(246, [])]) (sb1_m (c := bu + 4) hsb (by omega)) fU3 ⟨fun _ => rfl, fun _ => rfl, fun _ => rfl⟩) (fr_u (fr_0 _ _) hU7 rfl) ⟨fun _ => rfl, fun _ => rfl, fun _ => rfl⟩⟩
  by_cases z1_1 : k = 1
  · refine j_tsI (pc := 1) 1 (off := 73) (tgt := 74) (by decide) ds_X11_playFootball_1 (by omega) (by decide) rfl (by decide) (by decide) ?_
    refine j_blx (F := fX11) tb_X11 (nn_ _) bk_X11_playFootball_74 bs_X11_playFootball_74 hz (fun K hK => ?_)
    refine hK 78 _ [vI 1, vI s, vI m, vR 111 0] T ?_
    refine j_callV (y := yX11_addScore) (Yc := zX11_addScore) (rest := []) [vI m, vI s, vI 1] (ct_X11_addScore (T := T) (bu := bu) (by omega) (by omega) (by omega) (hsb)) cl_X11_413 (qd_c (by decide +kernel)) (nn_ _) rfl (rf_of rfl) (Nat.le_of_ble_eq_true rfl) (Nat.le_of_ble_eq_true rfl) (Nat.le_of_ble_eq_true rfl) rfl ?_
    rintro U9 _ ⟨rfl, fU9, ⟨qU9o, qU9b⟩⟩
    show J_ zX11_playFootball T (po_X11_playFootball T bu m k s p q) 0 0 81 _ [] U9
    refine j_blx (F := fX11) tb_X11 (nn_ _) bk_X11_playFootball_81 bs_X11_playFootball_81 hz (fun K hK => ?_)
    refine hK 172 _ [] U9 ?_
    refine j_blx (F := fX11) tb_X11 (nn_ _) bk_X11_playFootball_172 bs_X11_playFootball_172 hz (fun K hK => ?_)
    refine (show po_X11_playFootball T bu m k s p q U9 (none) from ?_)
    exact ⟨rfl, fr_t (fr_0 _ _) (fr_s fU9 rfl), FM__f (ws := [(236, []), (237, [])]) (hfm) fU9 ⟨fun _ => rfl, fun _ => rfl, trivial⟩, so_t (so_r) qU9o (fun j => rfl), qU9b⟩
  by_cases z1_2 : k = 2
  · refine j_tsI (pc := 1) 2 (off := 83) (tgt := 84) (by decide) ds_X11_playFootball_1 (by omega) (by decide) rfl (by decide) (by decide) ?_
    refine j_blx (F := fX11) tb_X11 (nn_ _) bk_X11_playFootball_84 bs_X11_playFootball_84 hz (fun K hK => ?_)
    refine rg_i (by omega) ?_
    refine hK 90 _ [vI 1, vI (1 - s), vI m, vR 111 0] T ?_
    refine j_callV (y := yX11_addScore) (Yc := zX11_addScore) (rest := []) [vI m, vI (1 - s), vI 1] (ct_X11_addScore (T := T) (bu := bu) (by omega) (by omega) (by omega) (hsb)) cl_X11_413 (qd_c (by decide +kernel)) (nn_ _) rfl (rf_of rfl) (Nat.le_of_ble_eq_true rfl) (Nat.le_of_ble_eq_true rfl) (Nat.le_of_ble_eq_true rfl) rfl ?_
    rintro U10 _ ⟨rfl, fU10, ⟨qU10o, qU10b⟩⟩
    show J_ zX11_playFootball T (po_X11_playFootball T bu m k s p q) 0 0 93 _ [] U10
    refine j_blx (F := fX11) tb_X11 (nn_ _) bk_X11_playFootball_93 bs_X11_playFootball_93 hz (fun K hK => ?_)
    refine hK 172 _ [] U10 ?_
    refine j_blx (F := fX11) tb_X11 (nn_ _) bk_X11_playFootball_172 bs_X11_playFootball_172 hz (fun K hK => ?_)
    refine (show po_X11_playFootball T bu m k s p q U10 (none) from ?_)
    exact ⟨rfl, fr_t (fr_0 _ _) (fr_s fU10 rfl), FM__f (ws := [(236, []), (237, [])]) (hfm) fU10 ⟨fun _ => rfl, fun _ => rfl, trivial⟩, so_t (so_r) qU10o (fun j => rfl), qU10b⟩
  by_cases z1_3 : k = 3
  · refine j_tsI (pc := 1) 3 (off := 95) (tgt := 96) (by decide) ds_X11_playFootball_1 (by omega) (by decide) rfl (by decide) (by decide) ?_
    refine j_blx (F := fX11) tb_X11 (nn_ _) bk_X11_playFootball_96 bs_X11_playFootball_96 hz (fun K hK => ?_)
    refine rg_i (by omega) ?_
    refine rg_i (by omega) ?_
    refine hK 104 _ [vI p, vI ((2 * m) + s), vR 111 0] T ?_
    refine j_callV (y := yX11_slotOf) (Yc := zX11_slotOf) (rest := []) [vI ((2 * m) + s), vI p] (ct_X11_slotOf (T := T) (by omega)) cl_X11_378 (qd_c (by decide +kernel)) (nn_ _) rfl (rf_of rfl) (Nat.le_of_ble_eq_true rfl) (Nat.le_of_ble_eq_true rfl) (Nat.le_of_ble_eq_true rfl) rfl ?_
    rintro _ _ ⟨rfl, x11, rfl, hx11⟩
    show J_ zX11_playFootball T (po_X11_playFootball T bu m k s p q) 0 0 107 _ [vI x11] T
    have yy : 10 * (2 * m + s) ≤ x11 ∧ x11 < 10 * (2 * m + s) + 10 ∧ x11 < 10 * (2 * m + s) + T 239 0 (2 * m + s) := by
      rcases hx11 with z | z
      · rcases hp with y | y
        · omega
        · exact absurd y z.2
      · exact ⟨z.1, z.2.1, z.2.2.2⟩
    have hyo := hsb.2.2 x11 (by omega) (by omega)
    refine j_blx (F := fX11) tb_X11 (nn_ _) bk_X11_playFootball_107 bs_X11_playFootball_107 hz (fun K hK => ?_)
    refine ix_i (by omega) ?_
    intro b12 b12b
    refine rg_i (by omega) ?_
    refine iy_i (by omega) (by omega) ?_
    refine x_nm (fun U13 hU13 => ?_)
    have e14 := up_f hU13
    refine ix_i (by omega) ?_
    intro b15 b15b
    have e16 : U13 242 0 x11 = (T 242 0 x11) + 1 := up_f hU13
    rw [e16] at b15 b15b ⊢
    refine And.intro (fun c17 => ?_) (fun c17 => ?_)
    · refine hK 172 [some (vR 111 0), some (vI m), some (vI k), some (vI s), some (vI p), some (vI q), some (vI x11)] [] U13 ?_
      refine j_blx (F := fX11) tb_X11 (nn_ _) bk_X11_playFootball_172 bs_X11_playFootball_172 hz (fun K hK => ?_)
      refine (show po_X11_playFootball T bu m k s p q U13 (none) from ?_)
      exact ⟨rfl, fr_u (fr_0 _ _) hU13 rfl, FM__f (ws := [(242, [])]) (hfm) (fr_u (fr_0 _ _) hU13 rfl) ⟨fun _ => rfl, fun _ => rfl, trivial⟩, so_y (so_r) hU13 (2 * m + s) (by omega), sb1_y (sb1_m (c := bu + 4) hsb (by omega)) hU13 (by omega)⟩
    · refine hK 136 _ [vI x11, vI s, vI m, vR 111 0] U13 ?_
      have e18 : U13 111 0 29 = T 111 0 29 := up_k hU13 (by exact Nat.ne_of_beq_eq_false rfl) 0 29
      refine j_callV (y := yX11_sendOff) (Yc := zX11_sendOff) (rest := []) [vI m, vI s, vI x11] (ct_X11_sendOff (T := U13) (bu := bu + 4) (by omega) (by omega) (by omega) (MC__f (ws := [(242, [])]) hmc (fr_u (fr_0 _ _) hU13 rfl) ⟨fun _ => rfl, rfl, rfl, trivial⟩) (RI__f (ws := [(242, [])]) hri (fr_u (fr_0 _ _) hU13 rfl) ⟨fun _ => rfl, rfl, trivial⟩) (FM__f (ws := [(242, [])]) (hfm) (fr_u (fr_0 _ _) hU13 rfl) ⟨fun _ => rfl, fun _ => rfl, trivial⟩) (by omega) (sb1_y (sb1_m (c := bu + 4) hsb (by omega)) hU13 (by omega))) cl_X11_416 (qd_c (by decide +kernel)) (nn_ _) rfl (rf_of rfl) (Nat.le_of_ble_eq_true rfl) (Nat.le_of_ble_eq_true rfl) (Nat.le_of_ble_eq_true rfl) rfl ?_
      rintro U19 _ ⟨rfl, fU19, ⟨qU19, qU19o, qU19b⟩⟩
      show J_ zX11_playFootball T (po_X11_playFootball T bu m k s p q) 0 0 139 _ [] U19
      refine j_blx (F := fX11) tb_X11 (nn_ _) bk_X11_playFootball_139 bs_X11_playFootball_139 hz (fun K hK => ?_)
      refine hK 172 _ [] U19 ?_
      refine j_blx (F := fX11) tb_X11 (nn_ _) bk_X11_playFootball_172 bs_X11_playFootball_172 hz (fun K hK => ?_)
      refine (show po_X11_playFootball T bu m k s p q U19 (none) from ?_)
      exact ⟨rfl, fr_t (fr_u (fr_0 _ _) hU13 rfl) (fr_s fU19 rfl), qU19, so_t (so_y (so_r) hU13 (2 * m + s) (by omega)) qU19o (fun j => up_k hU13 (by exact Nat.ne_of_beq_eq_false rfl) 0 j), qU19b⟩
  by_cases z1_4 : k = 4
  · refine j_tsI (pc := 1) 4 (off := 141) (tgt := 142) (by decide) ds_X11_playFootball_1 (by omega) (by decide) rfl (by decide) (by decide) ?_
    refine j_blx (F := fX11) tb_X11 (nn_ _) bk_X11_playFootball_142 bs_X11_playFootball_142 hz (fun K hK => ?_)
    refine rg_i (by omega) ?_
    refine rg_i (by omega) ?_
    refine hK 153 _ [vI p, vI ((2 * m) + s), vR 111 0, vI s, vI m, vR 111 0] T ?_
    refine j_callV (y := yX11_slotOf) (Yc := zX11_slotOf) (rest := [vI s, vI m, vR 111 0]) [vI ((2 * m) + s), vI p] (ct_X11_slotOf (T := T) (by omega)) cl_X11_378 (qd_c (by decide +kernel)) (nn_ _) rfl (rf_of rfl) (Nat.le_of_ble_eq_true rfl) (Nat.le_of_ble_eq_true rfl) (Nat.le_of_ble_eq_true rfl) rfl ?_
    rintro _ _ ⟨rfl, x20, rfl, hx20⟩
    show J_ zX11_playFootball T (po_X11_playFootball T bu m k s p q) 0 0 156 _ [vI x20, vI s, vI m, vR 111 0] T
    have yy : 10 * (2 * m + s) ≤ x20 ∧ x20 < 10 * (2 * m + s) + 10 ∧ x20 < 10 * (2 * m + s) + T 239 0 (2 * m + s) := by
      rcases hx20 with z | z
      · rcases hp with y | y
        · omega
        · exact absurd y z.2
      · exact ⟨z.1, z.2.1, z.2.2.2⟩
    have hyo := hsb.2.2 x20 (by omega) (by omega)
    refine j_callV (y := yX11_sendOff) (Yc := zX11_sendOff) (rest := []) [vI m, vI s, vI x20] (ct_X11_sendOff (T := T) (bu := bu + 4) (by omega) (by omega) (by omega) (hmc) (hri) (hfm) (by omega) (sb1_m (c := bu + 4) hsb (by omega))) cl_X11_416 (qd_c (by decide +kernel)) (nn_ _) rfl (rf_of rfl) (Nat.le_of_ble_eq_true rfl) (Nat.le_of_ble_eq_true rfl) (Nat.le_of_ble_eq_true rfl) rfl ?_
    rintro U21 _ ⟨rfl, fU21, ⟨qU21, qU21o, qU21b⟩⟩
    show J_ zX11_playFootball T (po_X11_playFootball T bu m k s p q) 0 0 159 _ [] U21
    refine j_blx (F := fX11) tb_X11 (nn_ _) bk_X11_playFootball_159 bs_X11_playFootball_159 hz (fun K hK => ?_)
    refine hK 172 _ [] U21 ?_
    refine j_blx (F := fX11) tb_X11 (nn_ _) bk_X11_playFootball_172 bs_X11_playFootball_172 hz (fun K hK => ?_)
    refine (show po_X11_playFootball T bu m k s p q U21 (none) from ?_)
    exact ⟨rfl, fr_t (fr_0 _ _) (fr_s fU21 rfl), qU21, so_t (so_r) qU21o (fun j => rfl), qU21b⟩
  refine j_tsO (pc := 1) (tgt := 162) (by decide) ds_X11_playFootball_1 (by omega) (by decide) (by decide) ?_
  refine j_blx (F := fX11) tb_X11 (nn_ _) bk_X11_playFootball_162 bs_X11_playFootball_162 hz (fun K hK => ?_)
  refine hK 169 _ [vI q, vI p, vI s, vI m, vR 111 0] T ?_
  refine j_callV (y := yX11_substitute) (Yc := zX11_substitute) (rest := []) [vI m, vI s, vI p, vI q] (ct_X11_substitute (T := T) (by omega) (by omega) (by rcases hp with z | z; omega; exact z) (by exact hq (by omega))) cl_X11_419 (qd_c (by decide +kernel)) (nn_ _) rfl (rf_of rfl) (Nat.le_of_ble_eq_true rfl) (Nat.le_of_ble_eq_true rfl) (Nat.le_of_ble_eq_true rfl) rfl ?_
  rintro U22 _ ⟨rfl, fU22, _⟩
  show J_ zX11_playFootball T (po_X11_playFootball T bu m k s p q) 0 0 172 _ [] U22
  refine j_blx (F := fX11) tb_X11 (nn_ _) bk_X11_playFootball_172 bs_X11_playFootball_172 hz (fun K hK => ?_)
  refine (show po_X11_playFootball T bu m k s p q U22 (none) from ?_)
  exact ⟨rfl, fr_t (fr_0 _ _) (fr_s fU22 rfl), FM__f (ws := [(245, []), (241, []), (246, [])]) (hfm) fU22 ⟨fun _ => rfl, fun _ => rfl, trivial⟩, so_f (ws := [(245, []), (241, []), (246, [])]) (so_r) fU22 ⟨fun _ => rfl, fun _ => rfl, fun _ => rfl⟩, sb1_f (ws := [(245, []), (241, []), (246, [])]) (sb1_m (c := bu + 4) hsb (by omega)) fU22 ⟨fun _ => rfl, fun _ => rfl, fun _ => rfl⟩⟩
abbrev cX11_rotate : ByteArray := prog_13_method_62_code
def yX11_rotate : MethodName := ⟨RX11, "rotate", "(I)V"⟩
def zX11_rotate : Zm := (RX11, cX11_rotate, 5, none, { frames := 0, cells := 0, slots := 0, locals := 0 })
theorem bk_X11_rotate_20 : ck_ fX11 none cX11_rotate 20 [.iload 4, .iconst 1, .iadd, .iload 2, .if_icmp .ge 60, .aload 0, .tableswitch 0 11 45 #[], .iconst 6, .iload 1, .imul, .iload 4, .iadd, .aload 0, .tableswitch 0 11 45 #[], .iconst 6, .iload 1, .imul, .iload 4, .iadd, .iconst 1, .iadd, .iaload, .iastore, .iinc 4 1, .goto 20] 60 = true := qck_r (nn_ _) (by decide +kernel)
theorem bs_X11_rotate_20 {P : Zt → Option Zv → Prop} (K : Int → Zl → List Zv → Zt → Prop) : sx_ K P [.iload 4, .iconst 1, .iadd, .iload 2, .if_icmp .ge 60, .aload 0, .tableswitch 0 11 45 #[], .iconst 6, .iload 1, .imul, .iload 4, .iadd, .aload 0, .tableswitch 0 11 45 #[], .iconst 6, .iload 1, .imul, .iload 4, .iadd, .iconst 1, .iadd, .iaload, .iastore, .iinc 4 1, .goto 20] 60 = x_iload 4 (x_iconst 1 (x_iadd (x_iload 2 (x_if_icmp .ge 60 K (x_aload 0 (x_g1 111 245 (x_iconst 6 (x_iload 1 (x_imul (x_iload 4 (x_iadd (x_aload 0 (x_g1 111 245 (x_iconst 6 (x_iload 1 (x_imul (x_iload 4 (x_iadd (x_iconst 1 (x_iadd (x_iaload (x_iastore (x_iinc 4 1 (x_goto 20 K)))))))))))))))))))))))) := ((xe_iload 4).trans (congrArg (x_iload 4) ((xe_iconst 1).trans (congrArg (x_iconst 1) ((xe_iadd).trans (congrArg (x_iadd) ((xe_iload 2).trans (congrArg (x_iload 2) ((xe_if_icmp .ge 60).trans (congrArg (x_if_icmp .ge 60 K) ((xe_aload 0).trans (congrArg (x_aload 0) ((xe_g1 (kk := 111) rfl tl_11_45).trans (congrArg (x_g1 111 245) ((xe_iconst 6).trans (congrArg (x_iconst 6) ((xe_iload 1).trans (congrArg (x_iload 1) ((xe_imul).trans (congrArg (x_imul) ((xe_iload 4).trans (congrArg (x_iload 4) ((xe_iadd).trans (congrArg (x_iadd) ((xe_aload 0).trans (congrArg (x_aload 0) ((xe_g1 (kk := 111) rfl tl_11_45).trans (congrArg (x_g1 111 245) ((xe_iconst 6).trans (congrArg (x_iconst 6) ((xe_iload 1).trans (congrArg (x_iload 1) ((xe_imul).trans (congrArg (x_imul) ((xe_iload 4).trans (congrArg (x_iload 4) ((xe_iadd).trans (congrArg (x_iadd) ((xe_iconst 1).trans (congrArg (x_iconst 1) ((xe_iadd).trans (congrArg (x_iadd) ((xe_iaload).trans (congrArg (x_iaload) ((xe_iastore).trans (congrArg (x_iastore) ((xe_iinc 4 1).trans (congrArg (x_iinc 4 1) (xe_goto 20)))))))))))))))))))))))))))))))))))))))))))))))))
theorem bk_X11_rotate_60 : ck_ fX11 none cX11_rotate 60 [.aload 0, .tableswitch 0 11 45 #[], .iconst 6, .iload 1, .imul, .iload 2, .iadd, .iconst 1, .isub, .iload 3, .iastore, .return_] 75 = true := qck_r (nn_ _) (by decide +kernel)
theorem bs_X11_rotate_60 {P : Zt → Option Zv → Prop} (K : Int → Zl → List Zv → Zt → Prop) : sx_ K P [.aload 0, .tableswitch 0 11 45 #[], .iconst 6, .iload 1, .imul, .iload 2, .iadd, .iconst 1, .isub, .iload 3, .iastore, .return_] 75 = x_aload 0 (x_g1 111 245 (x_iconst 6 (x_iload 1 (x_imul (x_iload 2 (x_iadd (x_iconst 1 (x_isub (x_iload 3 (x_iastore (x_return_ P))))))))))) := ((xe_aload 0).trans (congrArg (x_aload 0) ((xe_g1 (kk := 111) rfl tl_11_45).trans (congrArg (x_g1 111 245) ((xe_iconst 6).trans (congrArg (x_iconst 6) ((xe_iload 1).trans (congrArg (x_iload 1) ((xe_imul).trans (congrArg (x_imul) ((xe_iload 2).trans (congrArg (x_iload 2) ((xe_iadd).trans (congrArg (x_iadd) ((xe_iconst 1).trans (congrArg (x_iconst 1) ((xe_isub).trans (congrArg (x_isub) ((xe_iload 3).trans (congrArg (x_iload 3) ((xe_iastore).trans (congrArg (x_iastore) (xe_return_)))))))))))))))))))))))
theorem bk_X11_rotate_0 : ck_ fX11 none cX11_rotate 0 [.aload 0, .tableswitch 0 11 44 #[], .iload 1, .iaload, .istore 2, .aload 0, .tableswitch 0 11 45 #[], .iconst 6, .iload 1, .imul, .iaload, .istore 3, .iconst 0, .istore 4] 20 = true := qck_r (nn_ _) (by decide +kernel)
theorem bs_X11_rotate_0 {P : Zt → Option Zv → Prop} (K : Int → Zl → List Zv → Zt → Prop) : sx_ K P [.aload 0, .tableswitch 0 11 44 #[], .iload 1, .iaload, .istore 2, .aload 0, .tableswitch 0 11 45 #[], .iconst 6, .iload 1, .imul, .iaload, .istore 3, .iconst 0, .istore 4] 20 = x_aload 0 (x_g1 111 244 (x_iload 1 (x_iaload (x_istore 2 (x_aload 0 (x_g1 111 245 (x_iconst 6 (x_iload 1 (x_imul (x_iaload (x_istore 3 (x_iconst 0 (x_istore 4 (K 20)))))))))))))) := ((xe_aload 0).trans (congrArg (x_aload 0) ((xe_g1 (kk := 111) rfl tl_11_44).trans (congrArg (x_g1 111 244) ((xe_iload 1).trans (congrArg (x_iload 1) ((xe_iaload).trans (congrArg (x_iaload) ((xe_istore 2).trans (congrArg (x_istore 2) ((xe_aload 0).trans (congrArg (x_aload 0) ((xe_g1 (kk := 111) rfl tl_11_45).trans (congrArg (x_g1 111 245) ((xe_iconst 6).trans (congrArg (x_iconst 6) ((xe_iload 1).trans (congrArg (x_iload 1) ((xe_imul).trans (congrArg (x_imul) ((xe_iaload).trans (congrArg (x_iaload) ((xe_istore 3).trans (congrArg (x_istore 3) ((xe_iconst 0).trans (congrArg (x_iconst 0) ((xe_istore 4).trans (congrArg (x_istore 4) xe_nil))))))))))))))))))))))))))))
abbrev po_X11_rotate (T : Zt) (sh : Int) : Zt → Option Zv → Prop := fun T' r => r = none ∧ fr_ [(245, [])] T T' ∧ (0 = (0 : Int))
set_option maxHeartbeats 4000000 in
theorem ct_X11_rotate {T : Zt} {sh : Int} (h1 : 0 ≤ sh ∧ sh < 800) (h2 : 1 ≤ T 244 0 sh) : Ct_ yX11_rotate zX11_rotate T [vR 111 0, vI sh] (po_X11_rotate T sh) := by
  refine ct_of pn_11 rfl rfl (Nat.le_of_ble_eq_true rfl) (fun hT hav => ?_)
  have hr_sh : -2147483648 ≤ sh ∧ sh ≤ 2147483647 := hav (vI sh) (by simp)
  have hz : zX11_rotate.2.2.2.1 = some .boolean → ∀ (T' : Zt) (x : Int), po_X11_rotate T sh T' (some (vI x)) → 0 ≤ x ∧ x ≤ 1 := fun h => by cases h
  have hfb : 0 ≤ T 244 0 sh ∧ T 244 0 sh ≤ 6 := bd_a hT 244 (by decide +kernel : ta_ 244 = some (1, some 800, 0, 6)) 0 (by omega)
  have hsb : 0 ≤ T 245 0 (6 * sh) ∧ T 245 0 (6 * sh) ≤ 7999 := bd_a hT 245 (by decide +kernel : ta_ 245 = some (1, some 4800, 0, 7999)) 0 (by omega)
  show J_ zX11_rotate T (po_X11_rotate T sh) 0 0 0 [some (vR 111 0), some (vI sh), none, none, none] [] T
  have c_20 : ∀ (nn : Nat) (i : Int) (T1 : Zt), ((6 - i).toNat) ≤ nn → (fr_ [(245, [])] T T1) → (0 ≤ i ∧ i ≤ 6) → J_ zX11_rotate T (po_X11_rotate T sh) 0 0 20 [some (vR 111 0), some (vI sh), some (vI (T 244 0 sh)), some (vI (T 245 0 (6 * sh))), some (vI i)] [] T1 := by
    intro nn
    induction nn using Nat.strongRecOn with
    | _ nn ih_20 =>
      intro i T1 hm_20 hf_20 i1
      refine j_blx (F := fX11) tb_X11 (nn_ _) bk_X11_rotate_20 bs_X11_rotate_20 hz (fun K hK => ?_)
      refine rg_i (by omega) ?_
      refine And.intro (fun c1 => ?_) (fun c1 => ?_)
      · refine hK 60 _ [] T1 ?_
        refine j_blx (F := fX11) tb_X11 (nn_ _) bk_X11_rotate_60 bs_X11_rotate_60 hz (fun K hK => ?_)
        refine rg_i (by omega) ?_
        refine rg_i (by omega) ?_
        refine rg_i (by omega) ?_
        refine iy_i (by omega) (by omega) ?_
        refine x_nm (fun U2 hU2 => ?_)
        have e3 := up_f hU2
        refine (show po_X11_rotate T sh U2 (none) from ?_)
        exact ⟨rfl, fr_u (fr_t (fr_0 _ _) (fr_s hf_20 rfl)) hU2 rfl, by rfl⟩
      · refine rg_i (by omega) ?_
        refine rg_i (by omega) ?_
        refine rg_i (by omega) ?_
        refine rg_i (by omega) ?_
        refine rg_i (by omega) ?_
        refine ix_i (by omega) ?_
        intro b4 b4b
        refine iy_i (by omega) (by omega) ?_
        refine x_nm (fun U5 hU5 => ?_)
        have e6 := up_f hU5
        refine rg_i (by omega) ?_
        refine hK 20 [some (vR 111 0), some (vI sh), some (vI (T 244 0 sh)), some (vI (T 245 0 (6 * sh))), some (vI (i + 1))] [] U5 ?_
        refine ih_20 _ ?_ (i + 1) U5 (Nat.le_refl _) ?_ ?_
        · omega
        · exact fr_u (fr_t (fr_0 _ _) (fr_s hf_20 rfl)) hU5 rfl
        · omega
  refine j_blx (F := fX11) tb_X11 (nn_ _) bk_X11_rotate_0 bs_X11_rotate_0 hz (fun K hK => ?_)
  refine ix_i (by omega) ?_
  intro b7 b7b
  refine rg_i (by omega) ?_
  refine ix_i (by omega) ?_
  intro b8 b8b
  refine hK 20 [some (vR 111 0), some (vI sh), some (vI (T 244 0 sh)), some (vI (T 245 0 (6 * sh))), some (vI 0)] [] T ?_
  refine c_20 _ 0 T (Nat.le_refl _) ?_ ?_
  · exact fr_0 _ _
  · omega
abbrev cX11_playVolleyball : ByteArray := prog_13_method_63_code
def yX11_playVolleyball : MethodName := ⟨RX11, "playVolleyball", "(IIIII)V"⟩
def zX11_playVolleyball : Zm := (RX11, cX11_playVolleyball, 9, none, { frames := 2, cells := 0, slots := 0, locals := 52 })
theorem bk_X11_playVolleyball_97 : ck_ fX11 none cX11_playVolleyball 97 [.istore 7, .aload 0, .iload 1, .iconst 1, .iload 3, .iadd] 104 = true := qck_r (nn_ _) (by decide +kernel)
theorem bs_X11_playVolleyball_97 {P : Zt → Option Zv → Prop} (K : Int → Zl → List Zv → Zt → Prop) : sx_ K P [.istore 7, .aload 0, .iload 1, .iconst 1, .iload 3, .iadd] 104 = x_istore 7 (x_aload 0 (x_iload 1 (x_iconst 1 (x_iload 3 (x_iadd (K 104)))))) := ((xe_istore 7).trans (congrArg (x_istore 7) ((xe_aload 0).trans (congrArg (x_aload 0) ((xe_iload 1).trans (congrArg (x_iload 1) ((xe_iconst 1).trans (congrArg (x_iconst 1) ((xe_iload 3).trans (congrArg (x_iload 3) ((xe_iadd).trans (congrArg (x_iadd) xe_nil))))))))))))
theorem bk_X11_playVolleyball_107 : ck_ fX11 none cX11_playVolleyball 107 [.istore 8, .iload 8, .iload 7, .if_icmp .lt 200, .iload 8, .aload 0, .iload 1, .iconst 2, .iload 3, .isub] 123 = true := qck_r (nn_ _) (by decide +kernel)
theorem bs_X11_playVolleyball_107 {P : Zt → Option Zv → Prop} (K : Int → Zl → List Zv → Zt → Prop) : sx_ K P [.istore 8, .iload 8, .iload 7, .if_icmp .lt 200, .iload 8, .aload 0, .iload 1, .iconst 2, .iload 3, .isub] 123 = x_istore 8 (x_iload 8 (x_iload 7 (x_if_icmp .lt 200 K (x_iload 8 (x_aload 0 (x_iload 1 (x_iconst 2 (x_iload 3 (x_isub (K 123)))))))))) := ((xe_istore 8).trans (congrArg (x_istore 8) ((xe_iload 8).trans (congrArg (x_iload 8) ((xe_iload 7).trans (congrArg (x_iload 7) ((xe_if_icmp .lt 200).trans (congrArg (x_if_icmp .lt 200 K) ((xe_iload 8).trans (congrArg (x_iload 8) ((xe_aload 0).trans (congrArg (x_aload 0) ((xe_iload 1).trans (congrArg (x_iload 1) ((xe_iconst 2).trans (congrArg (x_iconst 2) ((xe_iload 3).trans (congrArg (x_iload 3) ((xe_isub).trans (congrArg (x_isub) xe_nil))))))))))))))))))))
theorem bk_X11_playVolleyball_200 : ck_ fX11 none cX11_playVolleyball 200 [.return_] 201 = true := qck_r (nn_ _) (by decide +kernel)
theorem bs_X11_playVolleyball_200 {P : Zt → Option Zv → Prop} (K : Int → Zl → List Zv → Zt → Prop) : sx_ K P [.return_] 201 = x_return_ P := (xe_return_)
theorem bk_X11_playVolleyball_126 : ck_ fX11 none cX11_playVolleyball 126 [.iconst 2, .fadd, .if_icmp .lt 200, .aload 0, .iload 1, .iconst 1, .iconst 0] 135 = true := qck_r (nn_ _) (by decide +kernel)
theorem bs_X11_playVolleyball_126 {P : Zt → Option Zv → Prop} (K : Int → Zl → List Zv → Zt → Prop) : sx_ K P [.iconst 2, .fadd, .if_icmp .lt 200, .aload 0, .iload 1, .iconst 1, .iconst 0] 135 = x_iconst 2 (x_fadd (x_if_icmp .lt 200 K (x_aload 0 (x_iload 1 (x_iconst 1 (x_iconst 0 (K 135))))))) := ((xe_iconst 2).trans (congrArg (x_iconst 2) ((xe_fadd).trans (congrArg (x_fadd) ((xe_if_icmp .lt 200).trans (congrArg (x_if_icmp .lt 200 K) ((xe_aload 0).trans (congrArg (x_aload 0) ((xe_iload 1).trans (congrArg (x_iload 1) ((xe_iconst 1).trans (congrArg (x_iconst 1) ((xe_iconst 0).trans (congrArg (x_iconst 0) xe_nil))))))))))))))
theorem bk_X11_playVolleyball_138 : ck_ fX11 none cX11_playVolleyball 138 [.aload 0, .iload 1, .iconst 2, .iconst 0] 142 = true := qck_r (nn_ _) (by decide +kernel)
theorem bs_X11_playVolleyball_138 {P : Zt → Option Zv → Prop} (K : Int → Zl → List Zv → Zt → Prop) : sx_ K P [.aload 0, .iload 1, .iconst 2, .iconst 0] 142 = x_aload 0 (x_iload 1 (x_iconst 2 (x_iconst 0 (K 142)))) := ((xe_aload 0).trans (congrArg (x_aload 0) ((xe_iload 1).trans (congrArg (x_iload 1) ((xe_iconst 2).trans (congrArg (x_iconst 2) ((xe_iconst 0).trans (congrArg (x_iconst 0) xe_nil))))))))
theorem bk_X11_playVolleyball_145 : ck_ fX11 none cX11_playVolleyball 145 [.aload 0, .iload 1, .iload 3, .iconst 1] 149 = true := qck_r (nn_ _) (by decide +kernel)
theorem bs_X11_playVolleyball_145 {P : Zt → Option Zv → Prop} (K : Int → Zl → List Zv → Zt → Prop) : sx_ K P [.aload 0, .iload 1, .iload 3, .iconst 1] 149 = x_aload 0 (x_iload 1 (x_iload 3 (x_iconst 1 (K 149)))) := ((xe_aload 0).trans (congrArg (x_aload 0) ((xe_iload 1).trans (congrArg (x_iload 1) ((xe_iload 3).trans (congrArg (x_iload 3) ((xe_iconst 1).trans (congrArg (x_iconst 1) xe_nil))))))))
theorem bk_X11_playVolleyball_152 : ck_ fX11 none cX11_playVolleyball 152 [.aload 0, .iload 1, .iload 3] 155 = true := qck_r (nn_ _) (by decide +kernel)
theorem bs_X11_playVolleyball_152 {P : Zt → Option Zv → Prop} (K : Int → Zl → List Zv → Zt → Prop) : sx_ K P [.aload 0, .iload 1, .iload 3] 155 = x_aload 0 (x_iload 1 (x_iload 3 (K 155))) := ((xe_aload 0).trans (congrArg (x_aload 0) ((xe_iload 1).trans (congrArg (x_iload 1) ((xe_iload 3).trans (congrArg (x_iload 3) xe_nil))))))
set_option maxRecDepth 100000 in
theorem cl_X11_426 : cv_ RX11 426 yX11_scoreOf zX11_scoreOf 11 2 := ⟨gi_V (lw_b9 102 (by decide +kernel) rfl : Cond.methodLink RX11 426 yX11_scoreOf ∈ lw_g) (lw_b9 104 (by decide +kernel) rfl : Cond.instanceMethod yX11_scoreOf ∈ lw_g) (lw_sel 62 rfl : Cond.selects yX11_scoreOf.cls yX11_scoreOf yX11_scoreOf ∈ lw_g) (lw_b1 10 (by decide +kernel) rfl : Cond.initialized yX11_scoreOf.cls ∈ lw_g) (lw_b9 105 rfl rfl : Cond.code yX11_scoreOf cX11_scoreOf 3 (some .int) ∈ lw_g), ⟨by decide, by decide, by decide +kernel⟩, ⟨_, _, rfl⟩⟩
theorem bk_X11_playVolleyball_158 : ck_ fX11 none cX11_playVolleyball 158 [.iconst 3, .if_icmp .ne 172, .aload 0, .tableswitch 0 11 35 #[], .iload 1, .iconst 2, .iastore, .goto 200] 172 = true := qck_r (nn_ _) (by decide +kernel)
theorem bs_X11_playVolleyball_158 {P : Zt → Option Zv → Prop} (K : Int → Zl → List Zv → Zt → Prop) : sx_ K P [.iconst 3, .if_icmp .ne 172, .aload 0, .tableswitch 0 11 35 #[], .iload 1, .iconst 2, .iastore, .goto 200] 172 = x_iconst 3 (x_if_icmp .ne 172 K (x_aload 0 (x_g1 111 235 (x_iload 1 (x_iconst 2 (x_iastore (x_goto 200 K))))))) := ((xe_iconst 3).trans (congrArg (x_iconst 3) ((xe_if_icmp .ne 172).trans (congrArg (x_if_icmp .ne 172 K) ((xe_aload 0).trans (congrArg (x_aload 0) ((xe_g1 (kk := 111) rfl tl_11_35).trans (congrArg (x_g1 111 235) ((xe_iload 1).trans (congrArg (x_iload 1) ((xe_iconst 2).trans (congrArg (x_iconst 2) ((xe_iastore).trans (congrArg (x_iastore) (xe_goto 200)))))))))))))))
theorem bk_X11_playVolleyball_172 : ck_ fX11 none cX11_playVolleyball 172 [.aload 0, .iload 1, .iconst 0, .aload 0, .iload 1, .iconst 0] 178 = true := qck_r (nn_ _) (by decide +kernel)
theorem bs_X11_playVolleyball_172 {P : Zt → Option Zv → Prop} (K : Int → Zl → List Zv → Zt → Prop) : sx_ K P [.aload 0, .iload 1, .iconst 0, .aload 0, .iload 1, .iconst 0] 178 = x_aload 0 (x_iload 1 (x_iconst 0 (x_aload 0 (x_iload 1 (x_iconst 0 (K 178)))))) := ((xe_aload 0).trans (congrArg (x_aload 0) ((xe_iload 1).trans (congrArg (x_iload 1) ((xe_iconst 0).trans (congrArg (x_iconst 0) ((xe_aload 0).trans (congrArg (x_aload 0) ((xe_iload 1).trans (congrArg (x_iload 1) ((xe_iconst 0).trans (congrArg (x_iconst 0) xe_nil))))))))))))
theorem bk_X11_playVolleyball_181 : ck_ fX11 none cX11_playVolleyball 181 [.iconst 1, .fadd] 183 = true := qck_r (nn_ _) (by decide +kernel)
theorem bs_X11_playVolleyball_181 {P : Zt → Option Zv → Prop} (K : Int → Zl → List Zv → Zt → Prop) : sx_ K P [.iconst 1, .fadd] 183 = x_iconst 1 (x_fadd (K 183)) := ((xe_iconst 1).trans (congrArg (x_iconst 1) ((xe_fadd).trans (congrArg (x_fadd) xe_nil))))
theorem bk_X11_playVolleyball_186 : ck_ fX11 none cX11_playVolleyball 186 [.aload 0, .iload 1, .iconst 5, .aload 0, .iload 1, .iconst 0] 192 = true := qck_r (nn_ _) (by decide +kernel)
theorem bs_X11_playVolleyball_186 {P : Zt → Option Zv → Prop} (K : Int → Zl → List Zv → Zt → Prop) : sx_ K P [.aload 0, .iload 1, .iconst 5, .aload 0, .iload 1, .iconst 0] 192 = x_aload 0 (x_iload 1 (x_iconst 5 (x_aload 0 (x_iload 1 (x_iconst 0 (K 192)))))) := ((xe_aload 0).trans (congrArg (x_aload 0) ((xe_iload 1).trans (congrArg (x_iload 1) ((xe_iconst 5).trans (congrArg (x_iconst 5) ((xe_aload 0).trans (congrArg (x_aload 0) ((xe_iload 1).trans (congrArg (x_iload 1) ((xe_iconst 0).trans (congrArg (x_iconst 0) xe_nil))))))))))))
theorem bk_X11_playVolleyball_195 : ck_ fX11 none cX11_playVolleyball 195 [.iconst 2, .frem] 197 = true := qck_r (nn_ _) (by decide +kernel)
theorem bs_X11_playVolleyball_195 {P : Zt → Option Zv → Prop} (K : Int → Zl → List Zv → Zt → Prop) : sx_ K P [.iconst 2, .frem] 197 = x_iconst 2 (x_frem (K 197)) := ((xe_iconst 2).trans (congrArg (x_iconst 2) ((xe_frem).trans (congrArg (x_frem) xe_nil))))
theorem bk_X11_playVolleyball_35 : ck_ fX11 none cX11_playVolleyball 35 [.aload 0, .iload 1, .iconst 5, .iload 3] 39 = true := qck_r (nn_ _) (by decide +kernel)
theorem bs_X11_playVolleyball_35 {P : Zt → Option Zv → Prop} (K : Int → Zl → List Zv → Zt → Prop) : sx_ K P [.aload 0, .iload 1, .iconst 5, .iload 3] 39 = x_aload 0 (x_iload 1 (x_iconst 5 (x_iload 3 (K 39)))) := ((xe_aload 0).trans (congrArg (x_aload 0) ((xe_iload 1).trans (congrArg (x_iload 1) ((xe_iconst 5).trans (congrArg (x_iconst 5) ((xe_iload 3).trans (congrArg (x_iload 3) xe_nil))))))))
theorem bk_X11_playVolleyball_42 : ck_ fX11 none cX11_playVolleyball 42 [.aload 0, .iload 1, .iconst 1, .iload 3, .iadd, .aload 0, .iload 1, .iconst 1, .iload 3, .iadd] 52 = true := qck_r (nn_ _) (by decide +kernel)
theorem bs_X11_playVolleyball_42 {P : Zt → Option Zv → Prop} (K : Int → Zl → List Zv → Zt → Prop) : sx_ K P [.aload 0, .iload 1, .iconst 1, .iload 3, .iadd, .aload 0, .iload 1, .iconst 1, .iload 3, .iadd] 52 = x_aload 0 (x_iload 1 (x_iconst 1 (x_iload 3 (x_iadd (x_aload 0 (x_iload 1 (x_iconst 1 (x_iload 3 (x_iadd (K 52)))))))))) := ((xe_aload 0).trans (congrArg (x_aload 0) ((xe_iload 1).trans (congrArg (x_iload 1) ((xe_iconst 1).trans (congrArg (x_iconst 1) ((xe_iload 3).trans (congrArg (x_iload 3) ((xe_iadd).trans (congrArg (x_iadd) ((xe_aload 0).trans (congrArg (x_aload 0) ((xe_iload 1).trans (congrArg (x_iload 1) ((xe_iconst 1).trans (congrArg (x_iconst 1) ((xe_iload 3).trans (congrArg (x_iload 3) ((xe_iadd).trans (congrArg (x_iadd) xe_nil))))))))))))))))))))
theorem bk_X11_playVolleyball_55 : ck_ fX11 none cX11_playVolleyball 55 [.iconst 1, .fadd] 57 = true := qck_r (nn_ _) (by decide +kernel)
theorem bs_X11_playVolleyball_55 {P : Zt → Option Zv → Prop} (K : Int → Zl → List Zv → Zt → Prop) : sx_ K P [.iconst 1, .fadd] 57 = x_iconst 1 (x_fadd (K 57)) := ((xe_iconst 1).trans (congrArg (x_iconst 1) ((xe_fadd).trans (congrArg (x_fadd) xe_nil))))
theorem bk_X11_playVolleyball_60 : ck_ fX11 none cX11_playVolleyball 60 [.aload 0, .aload 0, .tableswitch 0 11 30 #[], .iload 1, .iaload, .iconst 11] 69 = true := qck_r (nn_ _) (by decide +kernel)
theorem bs_X11_playVolleyball_60 {P : Zt → Option Zv → Prop} (K : Int → Zl → List Zv → Zt → Prop) : sx_ K P [.aload 0, .aload 0, .tableswitch 0 11 30 #[], .iload 1, .iaload, .iconst 11] 69 = x_aload 0 (x_aload 0 (x_g1 111 230 (x_iload 1 (x_iaload (x_iconst 11 (K 69)))))) := ((xe_aload 0).trans (congrArg (x_aload 0) ((xe_aload 0).trans (congrArg (x_aload 0) ((xe_g1 (kk := 111) rfl tl_11_30).trans (congrArg (x_g1 111 230) ((xe_iload 1).trans (congrArg (x_iload 1) ((xe_iaload).trans (congrArg (x_iaload) ((xe_iconst 11).trans (congrArg (x_iconst 11) xe_nil))))))))))))
theorem bk_X11_playVolleyball_72 : ck_ fX11 none cX11_playVolleyball 72 [.istore 6, .aload 0, .iload 1, .iconst 0] 77 = true := qck_r (nn_ _) (by decide +kernel)
theorem bs_X11_playVolleyball_72 {P : Zt → Option Zv → Prop} (K : Int → Zl → List Zv → Zt → Prop) : sx_ K P [.istore 6, .aload 0, .iload 1, .iconst 0] 77 = x_istore 6 (x_aload 0 (x_iload 1 (x_iconst 0 (K 77)))) := ((xe_istore 6).trans (congrArg (x_istore 6) ((xe_aload 0).trans (congrArg (x_aload 0) ((xe_iload 1).trans (congrArg (x_iload 1) ((xe_iconst 0).trans (congrArg (x_iconst 0) xe_nil))))))))
theorem bk_X11_playVolleyball_80 : ck_ fX11 none cX11_playVolleyball 80 [.iconst 4, .if_icmp .ne 95, .iconst 3, .iload 6, .fmul, .iconst 4, .fadd, .iconst 5, .fdiv, .goto 97] 95 = true := qck_r (nn_ _) (by decide +kernel)
theorem bs_X11_playVolleyball_80 {P : Zt → Option Zv → Prop} (K : Int → Zl → List Zv → Zt → Prop) : sx_ K P [.iconst 4, .if_icmp .ne 95, .iconst 3, .iload 6, .fmul, .iconst 4, .fadd, .iconst 5, .fdiv, .goto 97] 95 = x_iconst 4 (x_if_icmp .ne 95 K (x_iconst 3 (x_iload 6 (x_fmul (x_iconst 4 (x_fadd (x_iconst 5 (x_fdiv (x_goto 97 K))))))))) := ((xe_iconst 4).trans (congrArg (x_iconst 4) ((xe_if_icmp .ne 95).trans (congrArg (x_if_icmp .ne 95 K) ((xe_iconst 3).trans (congrArg (x_iconst 3) ((xe_iload 6).trans (congrArg (x_iload 6) ((xe_fmul).trans (congrArg (x_fmul) ((xe_iconst 4).trans (congrArg (x_iconst 4) ((xe_fadd).trans (congrArg (x_fadd) ((xe_iconst 5).trans (congrArg (x_iconst 5) ((xe_fdiv).trans (congrArg (x_fdiv) (xe_goto 97)))))))))))))))))))
theorem bk_X11_playVolleyball_95 : ck_ fX11 none cX11_playVolleyball 95 [.iload 6] 97 = true := qck_r (nn_ _) (by decide +kernel)
theorem bs_X11_playVolleyball_95 {P : Zt → Option Zv → Prop} (K : Int → Zl → List Zv → Zt → Prop) : sx_ K P [.iload 6] 97 = x_iload 6 (K 97) := ((xe_iload 6).trans (congrArg (x_iload 6) xe_nil))
theorem bk_X11_playVolleyball_0 : ck_ fX11 none cX11_playVolleyball 0 [.iload 2, .iconst 5, .if_icmp .ne 16, .aload 0, .iload 1, .iload 3, .iload 4, .iload 5] 12 = true := qck_r (nn_ _) (by decide +kernel)
theorem bs_X11_playVolleyball_0 {P : Zt → Option Zv → Prop} (K : Int → Zl → List Zv → Zt → Prop) : sx_ K P [.iload 2, .iconst 5, .if_icmp .ne 16, .aload 0, .iload 1, .iload 3, .iload 4, .iload 5] 12 = x_iload 2 (x_iconst 5 (x_if_icmp .ne 16 K (x_aload 0 (x_iload 1 (x_iload 3 (x_iload 4 (x_iload 5 (K 12)))))))) := ((xe_iload 2).trans (congrArg (x_iload 2) ((xe_iconst 5).trans (congrArg (x_iconst 5) ((xe_if_icmp .ne 16).trans (congrArg (x_if_icmp .ne 16 K) ((xe_aload 0).trans (congrArg (x_aload 0) ((xe_iload 1).trans (congrArg (x_iload 1) ((xe_iload 3).trans (congrArg (x_iload 3) ((xe_iload 4).trans (congrArg (x_iload 4) ((xe_iload 5).trans (congrArg (x_iload 5) xe_nil))))))))))))))))
theorem bk_X11_playVolleyball_16 : ck_ fX11 none cX11_playVolleyball 16 [.aload 0, .iload 1, .iconst 5] 19 = true := qck_r (nn_ _) (by decide +kernel)
theorem bs_X11_playVolleyball_16 {P : Zt → Option Zv → Prop} (K : Int → Zl → List Zv → Zt → Prop) : sx_ K P [.aload 0, .iload 1, .iconst 5] 19 = x_aload 0 (x_iload 1 (x_iconst 5 (K 19))) := ((xe_aload 0).trans (congrArg (x_aload 0) ((xe_iload 1).trans (congrArg (x_iload 1) ((xe_iconst 5).trans (congrArg (x_iconst 5) xe_nil))))))
theorem bk_X11_playVolleyball_22 : ck_ fX11 none cX11_playVolleyball 22 [.iload 3, .if_icmp .eq 35, .aload 0, .iconst 2, .iload 1, .imul, .iload 3, .iadd] 32 = true := qck_r (nn_ _) (by decide +kernel)
theorem bs_X11_playVolleyball_22 {P : Zt → Option Zv → Prop} (K : Int → Zl → List Zv → Zt → Prop) : sx_ K P [.iload 3, .if_icmp .eq 35, .aload 0, .iconst 2, .iload 1, .imul, .iload 3, .iadd] 32 = x_iload 3 (x_if_icmp .eq 35 K (x_aload 0 (x_iconst 2 (x_iload 1 (x_imul (x_iload 3 (x_iadd (K 32)))))))) := ((xe_iload 3).trans (congrArg (x_iload 3) ((xe_if_icmp .eq 35).trans (congrArg (x_if_icmp .eq 35 K) ((xe_aload 0).trans (congrArg (x_aload 0) ((xe_iconst 2).trans (congrArg (x_iconst 2) ((xe_iload 1).trans (congrArg (x_iload 1) ((xe_imul).trans (congrArg (x_imul) ((xe_iload 3).trans (congrArg (x_iload 3) ((xe_iadd).trans (congrArg (x_iadd) xe_nil))))))))))))))))
set_option maxRecDepth 100000 in
theorem cl_X11_423 : cv_ RX11 423 yX11_rotate zX11_rotate 11 1 := ⟨gi_V (lw_b9 98 (by decide +kernel) rfl : Cond.methodLink RX11 423 yX11_rotate ∈ lw_g) (lw_b9 100 (by decide +kernel) rfl : Cond.instanceMethod yX11_rotate ∈ lw_g) (lw_sel 57 rfl : Cond.selects yX11_rotate.cls yX11_rotate yX11_rotate ∈ lw_g) (lw_b1 10 (by decide +kernel) rfl : Cond.initialized yX11_rotate.cls ∈ lw_g) (lw_b9 101 rfl rfl : Cond.code yX11_rotate cX11_rotate 5 none ∈ lw_g), ⟨by decide, by decide, by decide +kernel⟩, ⟨_, _, rfl⟩⟩
theorem bk_X11_playVolleyball_15 : ck_ fX11 none cX11_playVolleyball 15 [.return_] 16 = true := qck_r (nn_ _) (by decide +kernel)
theorem bs_X11_playVolleyball_15 {P : Zt → Option Zv → Prop} (K : Int → Zl → List Zv → Zt → Prop) : sx_ K P [.return_] 16 = x_return_ P := (xe_return_)
abbrev po_X11_playVolleyball (T : Zt) (bu : Int) (m k s p q : Int) : Zt → Option Zv → Prop := fun T' r => r = none ∧ fr_ [(244, []), (241, []), (242, []), (243, []), (245, []), (246, []), (236, []), (237, []), (235, [])] T T' ∧ (FM_ T' ∧ SO_ T T' m ∧ SB1_ T' m (bu + 4))
set_option maxHeartbeats 4000000 in
theorem ct_X11_playVolleyball {T : Zt} {bu : Int} {m k s p q : Int} (h1 : 0 ≤ m ∧ m < T 111 0 29) (hmc : MC_ T) (hri : RI_ T) (hfm : FM_ T) (hgo : T 235 0 m = 1) (hk : k = 1 ∨ k = 5) (hs : 0 ≤ s ∧ s ≤ 1) (hp : k = 5 → SL_ T (2 * m + s) p ∧ SL_ T (2 * m + s) q) (hbu : 9 ≤ bu ∧ bu ≤ 19000) (hsb : SB1_ T m bu) : Ct_ yX11_playVolleyball zX11_playVolleyball T [vR 111 0, vI m, vI k, vI s, vI p, vI q] (po_X11_playVolleyball T bu m k s p q) := by
  refine ct_of pn_11 rfl rfl (Nat.le_of_ble_eq_true rfl) (fun hT hav => ?_)
  have hr_m : -2147483648 ≤ m ∧ m ≤ 2147483647 := hav (vI m) (by simp)
  have hr_k : -2147483648 ≤ k ∧ k ≤ 2147483647 := hav (vI k) (by simp)
  have hr_s : -2147483648 ≤ s ∧ s ≤ 2147483647 := hav (vI s) (by simp)
  have hr_p : -2147483648 ≤ p ∧ p ≤ 2147483647 := hav (vI p) (by simp)
  have hr_q : -2147483648 ≤ q ∧ q ≤ 2147483647 := hav (vI q) (by simp)
  have hz : zX11_playVolleyball.2.2.2.1 = some .boolean → ∀ (T' : Zt) (x : Int), po_X11_playVolleyball T bu m k s p q T' (some (vI x)) → 0 ≤ x ∧ x ≤ 1 := fun h => by cases h
  have hb_29 : 0 ≤ T 111 0 29 ∧ T 111 0 29 ≤ 400 := bd_f hT 111 29 (by decide +kernel : (tf_ 111)[29]? = some (0, 0, 0, 400)) 0
  have hfo := hfm m s (by omega) (by omega) (by omega) (by omega) hgo
  show J_ zX11_playVolleyball T (po_X11_playVolleyball T bu m k s p q) 0 0 0 [some (vR 111 0), some (vI m), some (vI k), some (vI s), some (vI p), some (vI q), none, none, none] [] T
  have c_97 : ∀ (v : Int) (T2 : Zt), (fr_ [(245, []), (246, [])] T T2) → J_ zX11_playVolleyball T (po_X11_playVolleyball T bu m k s p q) 0 0 97 [some (vR 111 0), some (vI m), some (vI k), some (vI s), some (vI p), some (vI q), none, none, none] [vI v] T2 := by
    intro v T2 hf_97
    refine j_blx (F := fX11) tb_X11 (nn_ _) bk_X11_playVolleyball_97 bs_X11_playVolleyball_97 hz (fun K hK => ?_)
    refine rg_i (by omega) ?_
    refine hK 104 [some (vR 111 0), some (vI m), some (vI k), some (vI s), some (vI p), some (vI q), none, some (vI v), none] [vI (1 + s), vI m, vR 111 0] T2 ?_
    refine j_callV (y := yX11_liveOf) (Yc := zX11_liveOf) (rest := []) [vI m, vI (1 + s)] (ct_X11_liveOf (T := T2) (by omega) (by omega)) cl_X11_400 (qd_c (by decide +kernel)) (nn_ _) rfl (rf_of rfl) (Nat.le_of_ble_eq_true rfl) (Nat.le_of_ble_eq_true rfl) (Nat.le_of_ble_eq_true rfl) rfl ?_
    rintro _ _ ⟨rfl, rfl⟩
    show J_ zX11_playVolleyball T (po_X11_playVolleyball T bu m k s p q) 0 0 107 _ [vI (T2 246 0 (8 * m + (1 + s)))] T2
    refine j_blx (F := fX11) tb_X11 (nn_ _) bk_X11_playVolleyball_107 bs_X11_playVolleyball_107 hz (fun K hK => ?_)
    refine And.intro (fun c1 => ?_) (fun c1 => ?_)
    · refine hK 200 [some (vR 111 0), some (vI m), some (vI k), some (vI s), some (vI p), some (vI q), none, some (vI v), some (vI (T2 246 0 (8 * m + (1 + s))))] [] T2 ?_
      refine j_blx (F := fX11) tb_X11 (nn_ _) bk_X11_playVolleyball_200 bs_X11_playVolleyball_200 hz (fun K hK => ?_)
      refine (show po_X11_playVolleyball T bu m k s p q T2 (none) from ?_)
      exact ⟨rfl, fr_t (fr_0 _ _) (fr_s hf_97 rfl), FM__f (ws := [(245, []), (246, [])]) (hfm) hf_97 ⟨fun _ => rfl, fun _ => rfl, trivial⟩, so_f (ws := [(245, []), (246, [])]) (so_r) hf_97 ⟨fun _ => rfl, fun _ => rfl, fun _ => rfl⟩, sb1_f (ws := [(245, []), (246, [])]) (sb1_m (c := bu + 4) hsb (by omega)) hf_97 ⟨fun _ => rfl, fun _ => rfl, fun _ => rfl⟩⟩
    · refine rg_i (by omega) ?_
      refine hK 123 _ [vI (2 - s), vI m, vR 111 0, vI (T2 246 0 (8 * m + (1 + s)))] T2 ?_
      refine j_callV (y := yX11_liveOf) (Yc := zX11_liveOf) (rest := [vI (T2 246 0 (8 * m + (1 + s)))]) [vI m, vI (2 - s)] (ct_X11_liveOf (T := T2) (by omega) (by omega)) cl_X11_400 (qd_c (by decide +kernel)) (nn_ _) rfl (rf_of rfl) (Nat.le_of_ble_eq_true rfl) (Nat.le_of_ble_eq_true rfl) (Nat.le_of_ble_eq_true rfl) rfl ?_
      rintro _ _ ⟨rfl, rfl⟩
      show J_ zX11_playVolleyball T (po_X11_playVolleyball T bu m k s p q) 0 0 126 _ [vI (T2 246 0 (8 * m + (2 - s))), vI (T2 246 0 (8 * m + (1 + s)))] T2
      refine j_blx (F := fX11) tb_X11 (nn_ _) bk_X11_playVolleyball_126 bs_X11_playVolleyball_126 hz (fun K hK => ?_)
      intro w2 w2b
      refine And.intro (fun c3 => ?_) (fun c3 => ?_)
      · refine hK 200 _ [] T2 ?_
        refine j_blx (F := fX11) tb_X11 (nn_ _) bk_X11_playVolleyball_200 bs_X11_playVolleyball_200 hz (fun K hK => ?_)
        refine (show po_X11_playVolleyball T bu m k s p q T2 (none) from ?_)
        exact ⟨rfl, fr_t (fr_0 _ _) (fr_s hf_97 rfl), FM__f (ws := [(245, []), (246, [])]) (hfm) hf_97 ⟨fun _ => rfl, fun _ => rfl, trivial⟩, so_f (ws := [(245, []), (246, [])]) (so_r) hf_97 ⟨fun _ => rfl, fun _ => rfl, fun _ => rfl⟩, sb1_f (ws := [(245, []), (246, [])]) (sb1_m (c := bu + 4) hsb (by omega)) hf_97 ⟨fun _ => rfl, fun _ => rfl, fun _ => rfl⟩⟩
      · refine hK 135 _ [vI 0, vI 1, vI m, vR 111 0] T2 ?_
        refine j_callV (y := yX11_setLive) (Yc := zX11_setLive) (rest := []) [vI m, vI 1, vI 0] (ct_X11_setLive (T := T2) (by omega) (by omega)) cl_X11_410 (qd_c (by decide +kernel)) (nn_ _) rfl (rf_of rfl) (Nat.le_of_ble_eq_true rfl) (Nat.le_of_ble_eq_true rfl) (Nat.le_of_ble_eq_true rfl) rfl ?_
        rintro U4 _ ⟨rfl, fU4, _⟩
        show J_ zX11_playVolleyball T (po_X11_playVolleyball T bu m k s p q) 0 0 138 _ [] U4
        refine j_blx (F := fX11) tb_X11 (nn_ _) bk_X11_playVolleyball_138 bs_X11_playVolleyball_138 hz (fun K hK => ?_)
        refine hK 142 _ [vI 0, vI 2, vI m, vR 111 0] U4 ?_
        refine j_callV (y := yX11_setLive) (Yc := zX11_setLive) (rest := []) [vI m, vI 2, vI 0] (ct_X11_setLive (T := U4) (by omega) (by omega)) cl_X11_410 (qd_c (by decide +kernel)) (nn_ _) rfl (rf_of rfl) (Nat.le_of_ble_eq_true rfl) (Nat.le_of_ble_eq_true rfl) (Nat.le_of_ble_eq_true rfl) rfl ?_
        rintro U5 _ ⟨rfl, fU5, _⟩
        show J_ zX11_playVolleyball T (po_X11_playVolleyball T bu m k s p q) 0 0 145 _ [] U5
        refine j_blx (F := fX11) tb_X11 (nn_ _) bk_X11_playVolleyball_145 bs_X11_playVolleyball_145 hz (fun K hK => ?_)
        refine hK 149 _ [vI 1, vI s, vI m, vR 111 0] U5 ?_
        refine j_callV (y := yX11_addScore) (Yc := zX11_addScore) (rest := []) [vI m, vI s, vI 1] (ct_X11_addScore (T := U5) (bu := bu) (by omega) (by omega) (by omega) (sb1_f (ws := [(246, [])]) (sb1_f (ws := [(246, [])]) (sb1_f (ws := [(245, []), (246, [])]) (hsb) hf_97 ⟨fun _ => rfl, fun _ => rfl, fun _ => rfl⟩) fU4 ⟨fun _ => rfl, fun _ => rfl, fun _ => rfl⟩) fU5 ⟨fun _ => rfl, fun _ => rfl, fun _ => rfl⟩)) cl_X11_413 (qd_c (by decide +kernel)) (nn_ _) rfl (rf_of rfl) (Nat.le_of_ble_eq_true rfl) (Nat.le_of_ble_eq_true rfl) (Nat.le_of_ble_eq_true rfl) rfl ?_
        rintro U6 _ ⟨rfl, fU6, ⟨qU6o, qU6b⟩⟩
        show J_ zX11_playVolleyball T (po_X11_playVolleyball T bu m k s p q) 0 0 152 _ [] U6
        refine j_blx (F := fX11) tb_X11 (nn_ _) bk_X11_playVolleyball_152 bs_X11_playVolleyball_152 hz (fun K hK => ?_)
        refine hK 155 _ [vI s, vI m, vR 111 0] U6 ?_
        refine j_callV (y := yX11_scoreOf) (Yc := zX11_scoreOf) (rest := []) [vI m, vI s] (ct_X11_scoreOf (T := U6) (by omega)) cl_X11_426 (qd_c (by decide +kernel)) (nn_ _) rfl (rf_of rfl) (Nat.le_of_ble_eq_true rfl) (Nat.le_of_ble_eq_true rfl) (Nat.le_of_ble_eq_true rfl) rfl ?_
        rintro _ _ ⟨rfl, x7, rfl, hx7⟩
        show J_ zX11_playVolleyball T (po_X11_playVolleyball T bu m k s p q) 0 0 158 _ [vI x7] U6
        refine j_blx (F := fX11) tb_X11 (nn_ _) bk_X11_playVolleyball_158 bs_X11_playVolleyball_158 hz (fun K hK => ?_)
        refine And.intro (fun c8 => ?_) (fun c8 => ?_)
        · refine hK 172 _ [] U6 ?_
          refine j_blx (F := fX11) tb_X11 (nn_ _) bk_X11_playVolleyball_172 bs_X11_playVolleyball_172 hz (fun K hK => ?_)
          refine hK 178 _ [vI 0, vI m, vR 111 0, vI 0, vI m, vR 111 0] U6 ?_
          refine j_callV (y := yX11_liveOf) (Yc := zX11_liveOf) (rest := [vI 0, vI m, vR 111 0]) [vI m, vI 0] (ct_X11_liveOf (T := U6) (by omega) (by omega)) cl_X11_400 (qd_c (by decide +kernel)) (nn_ _) rfl (rf_of rfl) (Nat.le_of_ble_eq_true rfl) (Nat.le_of_ble_eq_true rfl) (Nat.le_of_ble_eq_true rfl) rfl ?_
          rintro _ _ ⟨rfl, rfl⟩
          have e9 : U6 246 0 (8 * m + 0) = U5 246 0 (8 * m + 0) := fU6 246 0 (8 * m + 0) rfl
          show J_ zX11_playVolleyball T (po_X11_playVolleyball T bu m k s p q) 0 0 181 _ [vI (U6 246 0 (8 * m + 0)), vI 0, vI m, vR 111 0] U6
          refine j_blx (F := fX11) tb_X11 (nn_ _) bk_X11_playVolleyball_181 bs_X11_playVolleyball_181 hz (fun K hK => ?_)
          intro w10 w10b
          refine hK 183 _ [vI (wr_ ((U6 246 0 (8 * m + 0)) + 1)), vI 0, vI m, vR 111 0] U6 ?_
          refine j_callV (y := yX11_setLive) (Yc := zX11_setLive) (rest := []) [vI m, vI 0, vI (wr_ ((U6 246 0 (8 * m + 0)) + 1))] (ct_X11_setLive (T := U6) (by omega) (by omega)) cl_X11_410 (qd_c (by decide +kernel)) (nn_ _) rfl (rf_of rfl) (Nat.le_of_ble_eq_true rfl) (Nat.le_of_ble_eq_true rfl) (Nat.le_of_ble_eq_true rfl) rfl ?_
          rintro U11 _ ⟨rfl, fU11, _⟩
          show J_ zX11_playVolleyball T (po_X11_playVolleyball T bu m k s p q) 0 0 186 _ [] U11
          refine j_blx (F := fX11) tb_X11 (nn_ _) bk_X11_playVolleyball_186 bs_X11_playVolleyball_186 hz (fun K hK => ?_)
          refine hK 192 _ [vI 0, vI m, vR 111 0, vI 5, vI m, vR 111 0] U11 ?_
          refine j_callV (y := yX11_liveOf) (Yc := zX11_liveOf) (rest := [vI 5, vI m, vR 111 0]) [vI m, vI 0] (ct_X11_liveOf (T := U11) (by omega) (by omega)) cl_X11_400 (qd_c (by decide +kernel)) (nn_ _) rfl (rf_of rfl) (Nat.le_of_ble_eq_true rfl) (Nat.le_of_ble_eq_true rfl) (Nat.le_of_ble_eq_true rfl) rfl ?_
          rintro _ _ ⟨rfl, rfl⟩
          show J_ zX11_playVolleyball T (po_X11_playVolleyball T bu m k s p q) 0 0 195 _ [vI (U11 246 0 (8 * m + 0)), vI 5, vI m, vR 111 0] U11
          refine j_blx (F := fX11) tb_X11 (nn_ _) bk_X11_playVolleyball_195 bs_X11_playVolleyball_195 hz (fun K hK => ?_)
          refine And.intro (by omega) (fun w12 w12b => ?_)
          refine hK 197 _ [vI (dr_ (U11 246 0 (8 * m + 0)) 2), vI 5, vI m, vR 111 0] U11 ?_
          refine j_callV (y := yX11_setLive) (Yc := zX11_setLive) (rest := []) [vI m, vI 5, vI (dr_ (U11 246 0 (8 * m + 0)) 2)] (ct_X11_setLive (T := U11) (by omega) (by omega)) cl_X11_410 (qd_c (by decide +kernel)) (nn_ _) rfl (rf_of rfl) (Nat.le_of_ble_eq_true rfl) (Nat.le_of_ble_eq_true rfl) (Nat.le_of_ble_eq_true rfl) rfl ?_
          rintro U13 _ ⟨rfl, fU13, _⟩
          show J_ zX11_playVolleyball T (po_X11_playVolleyball T bu m k s p q) 0 0 200 _ [] U13
          refine j_blx (F := fX11) tb_X11 (nn_ _) bk_X11_playVolleyball_200 bs_X11_playVolleyball_200 hz (fun K hK => ?_)
          refine (show po_X11_playVolleyball T bu m k s p q U13 (none) from ?_)
          exact ⟨rfl, fr_t (fr_t (fr_t (fr_t (fr_t (fr_t (fr_0 _ _) (fr_s hf_97 rfl)) (fr_s fU4 rfl)) (fr_s fU5 rfl)) (fr_s fU6 rfl)) (fr_s fU11 rfl)) (fr_s fU13 rfl), FM__f (ws := [(246, [])]) (FM__f (ws := [(246, [])]) (FM__f (ws := [(236, []), (237, [])]) (FM__f (ws := [(246, [])]) (FM__f (ws := [(246, [])]) (FM__f (ws := [(245, []), (246, [])]) (hfm) hf_97 ⟨fun _ => rfl, fun _ => rfl, trivial⟩) fU4 ⟨fun _ => rfl, fun _ => rfl, trivial⟩) fU5 ⟨fun _ => rfl, fun _ => rfl, trivial⟩) fU6 ⟨fun _ => rfl, fun _ => rfl, trivial⟩) fU11 ⟨fun _ => rfl, fun _ => rfl, trivial⟩) fU13 ⟨fun _ => rfl, fun _ => rfl, trivial⟩, so_f (ws := [(246, [])]) (so_f (ws := [(246, [])]) (so_t (so_f (ws := [(246, [])]) (so_f (ws := [(246, [])]) (so_f (ws := [(245, []), (246, [])]) (so_r) hf_97 ⟨fun _ => rfl, fun _ => rfl, fun _ => rfl⟩) fU4 ⟨fun _ => rfl, fun _ => rfl, fun _ => rfl⟩) fU5 ⟨fun _ => rfl, fun _ => rfl, fun _ => rfl⟩) qU6o (fun j => (fU5 239 0 j rfl).trans ((fU4 239 0 j rfl).trans (hf_97 239 0 j rfl)))) fU11 ⟨fun _ => rfl, fun _ => rfl, fun _ => rfl⟩) fU13 ⟨fun _ => rfl, fun _ => rfl, fun _ => rfl⟩, sb1_f (ws := [(246, [])]) (sb1_f (ws := [(246, [])]) (qU6b) fU11 ⟨fun _ => rfl, fun _ => rfl, fun _ => rfl⟩) fU13 ⟨fun _ => rfl, fun _ => rfl, fun _ => rfl⟩⟩
        · refine iy_i (by omega) (by omega) ?_
          refine x_nm (fun U14 hU14 => ?_)
          have e15 := up_f hU14
          refine hK 200 _ [] U14 ?_
          refine j_blx (F := fX11) tb_X11 (nn_ _) bk_X11_playVolleyball_200 bs_X11_playVolleyball_200 hz (fun K hK => ?_)
          refine (show po_X11_playVolleyball T bu m k s p q U14 (none) from ?_)
          exact ⟨rfl, fr_u (fr_t (fr_t (fr_t (fr_t (fr_0 _ _) (fr_s hf_97 rfl)) (fr_s fU4 rfl)) (fr_s fU5 rfl)) (fr_s fU6 rfl)) hU14 rfl, fm_w (FM__f (ws := [(236, []), (237, [])]) (FM__f (ws := [(246, [])]) (FM__f (ws := [(246, [])]) (FM__f (ws := [(245, []), (246, [])]) (hfm) hf_97 ⟨fun _ => rfl, fun _ => rfl, trivial⟩) fU4 ⟨fun _ => rfl, fun _ => rfl, trivial⟩) fU5 ⟨fun _ => rfl, fun _ => rfl, trivial⟩) fU6 ⟨fun _ => rfl, fun _ => rfl, trivial⟩) hU14 (by decide), so_f (ws := [(235, [])]) (so_t (so_f (ws := [(246, [])]) (so_f (ws := [(246, [])]) (so_f (ws := [(245, []), (246, [])]) (so_r) hf_97 ⟨fun _ => rfl, fun _ => rfl, fun _ => rfl⟩) fU4 ⟨fun _ => rfl, fun _ => rfl, fun _ => rfl⟩) fU5 ⟨fun _ => rfl, fun _ => rfl, fun _ => rfl⟩) qU6o (fun j => (fU5 239 0 j rfl).trans ((fU4 239 0 j rfl).trans (hf_97 239 0 j rfl)))) (fr_u (fr_0 _ _) hU14 rfl) ⟨fun _ => rfl, fun _ => rfl, fun _ => rfl⟩, sb1_f (ws := [(235, [])]) (qU6b) (fr_u (fr_0 _ _) hU14 rfl) ⟨fun _ => rfl, fun _ => rfl, fun _ => rfl⟩⟩
  have c_35 : ∀ (T1 : Zt), (fr_ [(245, []), (246, [])] T T1) → J_ zX11_playVolleyball T (po_X11_playVolleyball T bu m k s p q) 0 0 35 [some (vR 111 0), some (vI m), some (vI k), some (vI s), some (vI p), some (vI q), none, none, none] [] T1 := by
    intro T1 hf_35
    refine j_blx (F := fX11) tb_X11 (nn_ _) bk_X11_playVolleyball_35 bs_X11_playVolleyball_35 hz (fun K hK => ?_)
    refine hK 39 _ [vI s, vI 5, vI m, vR 111 0] T1 ?_
    refine j_callV (y := yX11_setLive) (Yc := zX11_setLive) (rest := []) [vI m, vI 5, vI s] (ct_X11_setLive (T := T1) (by omega) (by omega)) cl_X11_410 (qd_c (by decide +kernel)) (nn_ _) rfl (rf_of rfl) (Nat.le_of_ble_eq_true rfl) (Nat.le_of_ble_eq_true rfl) (Nat.le_of_ble_eq_true rfl) rfl ?_
    rintro U16 _ ⟨rfl, fU16, _⟩
    show J_ zX11_playVolleyball T (po_X11_playVolleyball T bu m k s p q) 0 0 42 _ [] U16
    refine j_blx (F := fX11) tb_X11 (nn_ _) bk_X11_playVolleyball_42 bs_X11_playVolleyball_42 hz (fun K hK => ?_)
    refine rg_i (by omega) ?_
    refine rg_i (by omega) ?_
    refine hK 52 _ [vI (1 + s), vI m, vR 111 0, vI (1 + s), vI m, vR 111 0] U16 ?_
    refine j_callV (y := yX11_liveOf) (Yc := zX11_liveOf) (rest := [vI (1 + s), vI m, vR 111 0]) [vI m, vI (1 + s)] (ct_X11_liveOf (T := U16) (by omega) (by omega)) cl_X11_400 (qd_c (by decide +kernel)) (nn_ _) rfl (rf_of rfl) (Nat.le_of_ble_eq_true rfl) (Nat.le_of_ble_eq_true rfl) (Nat.le_of_ble_eq_true rfl) rfl ?_
    rintro _ _ ⟨rfl, rfl⟩
    show J_ zX11_playVolleyball T (po_X11_playVolleyball T bu m k s p q) 0 0 55 _ [vI (U16 246 0 (8 * m + (1 + s))), vI (1 + s), vI m, vR 111 0] U16
    refine j_blx (F := fX11) tb_X11 (nn_ _) bk_X11_playVolleyball_55 bs_X11_playVolleyball_55 hz (fun K hK => ?_)
    intro w17 w17b
    refine hK 57 _ [vI (wr_ ((U16 246 0 (8 * m + (1 + s))) + 1)), vI (1 + s), vI m, vR 111 0] U16 ?_
    refine j_callV (y := yX11_setLive) (Yc := zX11_setLive) (rest := []) [vI m, vI (1 + s), vI (wr_ ((U16 246 0 (8 * m + (1 + s))) + 1))] (ct_X11_setLive (T := U16) (by omega) (by omega)) cl_X11_410 (qd_c (by decide +kernel)) (nn_ _) rfl (rf_of rfl) (Nat.le_of_ble_eq_true rfl) (Nat.le_of_ble_eq_true rfl) (Nat.le_of_ble_eq_true rfl) rfl ?_
    rintro U18 _ ⟨rfl, fU18, _⟩
    show J_ zX11_playVolleyball T (po_X11_playVolleyball T bu m k s p q) 0 0 60 _ [] U18
    refine j_blx (F := fX11) tb_X11 (nn_ _) bk_X11_playVolleyball_60 bs_X11_playVolleyball_60 hz (fun K hK => ?_)
    refine ix_i (by omega) ?_
    intro b19 b19b
    have e20 : U18 230 0 m = T 230 0 m := (fU18 230 0 m rfl).trans ((fU16 230 0 m rfl).trans (hf_35 230 0 m rfl))
    rw [e20] at b19 b19b ⊢
    refine hK 69 _ [vI 11, vI (T 230 0 m), vR 111 0] U18 ?_
    refine j_callV (y := yX11_rule0) (Yc := zX11_rule0) (rest := []) [vI (T 230 0 m), vI 11] (ct_X11_rule0 (T := U18) (by omega) (by omega)) cl_X11_321 (qd_c (by decide +kernel)) (nn_ _) rfl (rf_of rfl) (Nat.le_of_ble_eq_true rfl) (Nat.le_of_ble_eq_true rfl) (Nat.le_of_ble_eq_true rfl) rfl ?_
    rintro _ _ ⟨rfl, rfl⟩
    have e21 : U18 205 0 (23 * (T 230 0 m) + 11) = T 205 0 (23 * (T 230 0 m) + 11) := (fU18 205 0 (23 * (T 230 0 m) + 11) rfl).trans ((fU16 205 0 (23 * (T 230 0 m) + 11) rfl).trans (hf_35 205 0 (23 * (T 230 0 m) + 11) rfl))
    show J_ zX11_playVolleyball T (po_X11_playVolleyball T bu m k s p q) 0 0 72 _ [vI (U18 205 0 (23 * (T 230 0 m) + 11))] U18
    refine j_blx (F := fX11) tb_X11 (nn_ _) bk_X11_playVolleyball_72 bs_X11_playVolleyball_72 hz (fun K hK => ?_)
    refine hK 77 [some (vR 111 0), some (vI m), some (vI k), some (vI s), some (vI p), some (vI q), some (vI (U18 205 0 (23 * (T 230 0 m) + 11))), none, none] [vI 0, vI m, vR 111 0] U18 ?_
    refine j_callV (y := yX11_liveOf) (Yc := zX11_liveOf) (rest := []) [vI m, vI 0] (ct_X11_liveOf (T := U18) (by omega) (by omega)) cl_X11_400 (qd_c (by decide +kernel)) (nn_ _) rfl (rf_of rfl) (Nat.le_of_ble_eq_true rfl) (Nat.le_of_ble_eq_true rfl) (Nat.le_of_ble_eq_true rfl) rfl ?_
    rintro _ _ ⟨rfl, rfl⟩
    show J_ zX11_playVolleyball T (po_X11_playVolleyball T bu m k s p q) 0 0 80 _ [vI (U18 246 0 (8 * m + 0))] U18
    refine j_blx (F := fX11) tb_X11 (nn_ _) bk_X11_playVolleyball_80 bs_X11_playVolleyball_80 hz (fun K hK => ?_)
    refine And.intro (fun c22 => ?_) (fun c22 => ?_)
    · refine hK 95 _ [] U18 ?_
      refine j_blx (F := fX11) tb_X11 (nn_ _) bk_X11_playVolleyball_95 bs_X11_playVolleyball_95 hz (fun K hK => ?_)
      refine hK 97 _ [vI (U18 205 0 (23 * (T 230 0 m) + 11))] U18 ?_
      refine j_drop [some (vR 111 0), some (vI m), some (vI k), some (vI s), some (vI p), some (vI q), none, none, none] (fun k v hk => ?_) rfl ?_
      · match k, hk with
        | 0, hk => exact hk
        | 1, hk => exact hk
        | 2, hk => exact hk
        | 3, hk => exact hk
        | 4, hk => exact hk
        | 5, hk => exact hk
        | 6, hk => cases hk
        | 7, hk => cases hk
        | 8, hk => cases hk
        | k + 9, hk => cases hk
      refine c_97 (U18 205 0 (23 * (T 230 0 m) + 11)) U18 ?_
      · exact fr_t (fr_t (fr_t (fr_0 _ _) (fr_s hf_35 rfl)) (fr_s fU16 rfl)) (fr_s fU18 rfl)
    · intro w23 w23b
      intro w24 w24b
      refine And.intro (by omega) (fun w25 w25b => ?_)
      refine hK 97 [some (vR 111 0), some (vI m), some (vI k), some (vI s), some (vI p), some (vI q), some (vI (U18 205 0 (23 * (T 230 0 m) + 11))), none, none] [vI (dq_ (wr_ ((wr_ (3 * (U18 205 0 (23 * (T 230 0 m) + 11)))) + 4)) 5)] U18 ?_
      refine j_drop [some (vR 111 0), some (vI m), some (vI k), some (vI s), some (vI p), some (vI q), none, none, none] (fun k v hk => ?_) rfl ?_
      · match k, hk with
        | 0, hk => exact hk
        | 1, hk => exact hk
        | 2, hk => exact hk
        | 3, hk => exact hk
        | 4, hk => exact hk
        | 5, hk => exact hk
        | 6, hk => cases hk
        | 7, hk => cases hk
        | 8, hk => cases hk
        | k + 9, hk => cases hk
      refine c_97 (dq_ (wr_ ((wr_ (3 * (U18 205 0 (23 * (T 230 0 m) + 11)))) + 4)) 5) U18 ?_
      · exact fr_t (fr_t (fr_t (fr_0 _ _) (fr_s hf_35 rfl)) (fr_s fU16 rfl)) (fr_s fU18 rfl)
  refine j_blx (F := fX11) tb_X11 (nn_ _) bk_X11_playVolleyball_0 bs_X11_playVolleyball_0 hz (fun K hK => ?_)
  refine And.intro (fun c26 => ?_) (fun c26 => ?_)
  · refine hK 16 _ [] T ?_
    refine j_blx (F := fX11) tb_X11 (nn_ _) bk_X11_playVolleyball_16 bs_X11_playVolleyball_16 hz (fun K hK => ?_)
    refine hK 19 _ [vI 5, vI m, vR 111 0] T ?_
    refine j_callV (y := yX11_liveOf) (Yc := zX11_liveOf) (rest := []) [vI m, vI 5] (ct_X11_liveOf (T := T) (by omega) (by omega)) cl_X11_400 (qd_c (by decide +kernel)) (nn_ _) rfl (rf_of rfl) (Nat.le_of_ble_eq_true rfl) (Nat.le_of_ble_eq_true rfl) (Nat.le_of_ble_eq_true rfl) rfl ?_
    rintro _ _ ⟨rfl, rfl⟩
    show J_ zX11_playVolleyball T (po_X11_playVolleyball T bu m k s p q) 0 0 22 _ [vI (T 246 0 (8 * m + 5))] T
    refine j_blx (F := fX11) tb_X11 (nn_ _) bk_X11_playVolleyball_22 bs_X11_playVolleyball_22 hz (fun K hK => ?_)
    refine And.intro (fun c27 => ?_) (fun c27 => ?_)
    · refine hK 35 _ [] T ?_
      refine c_35 T ?_
      · exact fr_0 _ _
    · refine rg_i (by omega) ?_
      refine rg_i (by omega) ?_
      refine hK 32 _ [vI ((2 * m) + s), vR 111 0] T ?_
      refine j_callV (y := yX11_rotate) (Yc := zX11_rotate) (rest := []) [vI ((2 * m) + s)] (ct_X11_rotate (T := T) (by omega) (by exact hfo)) cl_X11_423 (qd_c (by decide +kernel)) (nn_ _) rfl (rf_of rfl) (Nat.le_of_ble_eq_true rfl) (Nat.le_of_ble_eq_true rfl) (Nat.le_of_ble_eq_true rfl) rfl ?_
      rintro U28 _ ⟨rfl, fU28, _⟩
      show J_ zX11_playVolleyball T (po_X11_playVolleyball T bu m k s p q) 0 0 35 _ [] U28
      refine c_35 U28 ?_
      · exact fr_t (fr_0 _ _) (fr_s fU28 rfl)
  · refine hK 12 _ [vI q, vI p, vI s, vI m, vR 111 0] T ?_
    refine j_callV (y := yX11_substitute) (Yc := zX11_substitute) (rest := []) [vI m, vI s, vI p, vI q] (ct_X11_substitute (T := T) (by omega) (by omega) (by exact (hp (by omega)).1) (by exact (hp (by omega)).2)) cl_X11_419 (qd_c (by decide +kernel)) (nn_ _) rfl (rf_of rfl) (Nat.le_of_ble_eq_true rfl) (Nat.le_of_ble_eq_true rfl) (Nat.le_of_ble_eq_true rfl) rfl ?_
    rintro U29 _ ⟨rfl, fU29, _⟩
    show J_ zX11_playVolleyball T (po_X11_playVolleyball T bu m k s p q) 0 0 15 _ [] U29
    refine j_blx (F := fX11) tb_X11 (nn_ _) bk_X11_playVolleyball_15 bs_X11_playVolleyball_15 hz (fun K hK => ?_)
    refine (show po_X11_playVolleyball T bu m k s p q U29 (none) from ?_)
    exact ⟨rfl, fr_t (fr_0 _ _) (fr_s fU29 rfl), FM__f (ws := [(245, []), (241, []), (246, [])]) (hfm) fU29 ⟨fun _ => rfl, fun _ => rfl, trivial⟩, so_f (ws := [(245, []), (241, []), (246, [])]) (so_r) fU29 ⟨fun _ => rfl, fun _ => rfl, fun _ => rfl⟩, sb1_f (ws := [(245, []), (241, []), (246, [])]) (sb1_m (c := bu + 4) hsb (by omega)) fU29 ⟨fun _ => rfl, fun _ => rfl, fun _ => rfl⟩⟩
abbrev cX11_playTennis : ByteArray := prog_13_method_64_code
def yX11_playTennis : MethodName := ⟨RX11, "playTennis", "(III)V"⟩
def zX11_playTennis : Zm := (RX11, cX11_playTennis, 8, none, { frames := 1, cells := 0, slots := 0, locals := 23 })
theorem bk_X11_playTennis_276 : ck_ fX11 none cX11_playTennis 276 [.aload 0, .iload 1, .iconst 5, .iconst 1, .aload 0, .iload 1, .iconst 5] 283 = true := qck_r (nn_ _) (by decide +kernel)
theorem bs_X11_playTennis_276 {P : Zt → Option Zv → Prop} (K : Int → Zl → List Zv → Zt → Prop) : sx_ K P [.aload 0, .iload 1, .iconst 5, .iconst 1, .aload 0, .iload 1, .iconst 5] 283 = x_aload 0 (x_iload 1 (x_iconst 5 (x_iconst 1 (x_aload 0 (x_iload 1 (x_iconst 5 (K 283))))))) := ((xe_aload 0).trans (congrArg (x_aload 0) ((xe_iload 1).trans (congrArg (x_iload 1) ((xe_iconst 5).trans (congrArg (x_iconst 5) ((xe_iconst 1).trans (congrArg (x_iconst 1) ((xe_aload 0).trans (congrArg (x_aload 0) ((xe_iload 1).trans (congrArg (x_iload 1) ((xe_iconst 5).trans (congrArg (x_iconst 5) xe_nil))))))))))))))
theorem bk_X11_playTennis_286 : ck_ fX11 none cX11_playTennis 286 [.fsub] 287 = true := qck_r (nn_ _) (by decide +kernel)
theorem bs_X11_playTennis_286 {P : Zt → Option Zv → Prop} (K : Int → Zl → List Zv → Zt → Prop) : sx_ K P [.fsub] 287 = x_fsub (K 287) := ((xe_fsub).trans (congrArg (x_fsub) xe_nil))
theorem bk_X11_playTennis_290 : ck_ fX11 none cX11_playTennis 290 [.return_] 291 = true := qck_r (nn_ _) (by decide +kernel)
theorem bs_X11_playTennis_290 {P : Zt → Option Zv → Prop} (K : Int → Zl → List Zv → Zt → Prop) : sx_ K P [.return_] 291 = x_return_ P := (xe_return_)
theorem bk_X11_playTennis_223 : ck_ fX11 none cX11_playTennis 223 [.aload 0, .iload 1, .iconst 3, .iconst 0] 227 = true := qck_r (nn_ _) (by decide +kernel)
theorem bs_X11_playTennis_223 {P : Zt → Option Zv → Prop} (K : Int → Zl → List Zv → Zt → Prop) : sx_ K P [.aload 0, .iload 1, .iconst 3, .iconst 0] 227 = x_aload 0 (x_iload 1 (x_iconst 3 (x_iconst 0 (K 227)))) := ((xe_aload 0).trans (congrArg (x_aload 0) ((xe_iload 1).trans (congrArg (x_iload 1) ((xe_iconst 3).trans (congrArg (x_iconst 3) ((xe_iconst 0).trans (congrArg (x_iconst 0) xe_nil))))))))
theorem bk_X11_playTennis_230 : ck_ fX11 none cX11_playTennis 230 [.aload 0, .iload 1, .iconst 4, .iconst 0] 234 = true := qck_r (nn_ _) (by decide +kernel)
theorem bs_X11_playTennis_230 {P : Zt → Option Zv → Prop} (K : Int → Zl → List Zv → Zt → Prop) : sx_ K P [.aload 0, .iload 1, .iconst 4, .iconst 0] 234 = x_aload 0 (x_iload 1 (x_iconst 4 (x_iconst 0 (K 234)))) := ((xe_aload 0).trans (congrArg (x_aload 0) ((xe_iload 1).trans (congrArg (x_iload 1) ((xe_iconst 4).trans (congrArg (x_iconst 4) ((xe_iconst 0).trans (congrArg (x_iconst 0) xe_nil))))))))
theorem bk_X11_playTennis_237 : ck_ fX11 none cX11_playTennis 237 [.aload 0, .iload 1, .iload 3, .iconst 1] 241 = true := qck_r (nn_ _) (by decide +kernel)
theorem bs_X11_playTennis_237 {P : Zt → Option Zv → Prop} (K : Int → Zl → List Zv → Zt → Prop) : sx_ K P [.aload 0, .iload 1, .iload 3, .iconst 1] 241 = x_aload 0 (x_iload 1 (x_iload 3 (x_iconst 1 (K 241)))) := ((xe_aload 0).trans (congrArg (x_aload 0) ((xe_iload 1).trans (congrArg (x_iload 1) ((xe_iload 3).trans (congrArg (x_iload 3) ((xe_iconst 1).trans (congrArg (x_iconst 1) xe_nil))))))))
theorem bk_X11_playTennis_244 : ck_ fX11 none cX11_playTennis 244 [.aload 0, .iload 1, .iload 3] 247 = true := qck_r (nn_ _) (by decide +kernel)
theorem bs_X11_playTennis_244 {P : Zt → Option Zv → Prop} (K : Int → Zl → List Zv → Zt → Prop) : sx_ K P [.aload 0, .iload 1, .iload 3] 247 = x_aload 0 (x_iload 1 (x_iload 3 (K 247))) := ((xe_aload 0).trans (congrArg (x_aload 0) ((xe_iload 1).trans (congrArg (x_iload 1) ((xe_iload 3).trans (congrArg (x_iload 3) xe_nil))))))
theorem bk_X11_playTennis_250 : ck_ fX11 none cX11_playTennis 250 [.iconst 2, .if_icmp .ne 262, .aload 0, .tableswitch 0 11 35 #[], .iload 1, .iconst 2, .iastore, .return_] 262 = true := qck_r (nn_ _) (by decide +kernel)
theorem bs_X11_playTennis_250 {P : Zt → Option Zv → Prop} (K : Int → Zl → List Zv → Zt → Prop) : sx_ K P [.iconst 2, .if_icmp .ne 262, .aload 0, .tableswitch 0 11 35 #[], .iload 1, .iconst 2, .iastore, .return_] 262 = x_iconst 2 (x_if_icmp .ne 262 K (x_aload 0 (x_g1 111 235 (x_iload 1 (x_iconst 2 (x_iastore (x_return_ P))))))) := ((xe_iconst 2).trans (congrArg (x_iconst 2) ((xe_if_icmp .ne 262).trans (congrArg (x_if_icmp .ne 262 K) ((xe_aload 0).trans (congrArg (x_aload 0) ((xe_g1 (kk := 111) rfl tl_11_35).trans (congrArg (x_g1 111 235) ((xe_iload 1).trans (congrArg (x_iload 1) ((xe_iconst 2).trans (congrArg (x_iconst 2) ((xe_iastore).trans (congrArg (x_iastore) (xe_return_)))))))))))))))
theorem bk_X11_playTennis_262 : ck_ fX11 none cX11_playTennis 262 [.aload 0, .iload 1, .iconst 0, .aload 0, .iload 1, .iconst 0] 268 = true := qck_r (nn_ _) (by decide +kernel)
theorem bs_X11_playTennis_262 {P : Zt → Option Zv → Prop} (K : Int → Zl → List Zv → Zt → Prop) : sx_ K P [.aload 0, .iload 1, .iconst 0, .aload 0, .iload 1, .iconst 0] 268 = x_aload 0 (x_iload 1 (x_iconst 0 (x_aload 0 (x_iload 1 (x_iconst 0 (K 268)))))) := ((xe_aload 0).trans (congrArg (x_aload 0) ((xe_iload 1).trans (congrArg (x_iload 1) ((xe_iconst 0).trans (congrArg (x_iconst 0) ((xe_aload 0).trans (congrArg (x_aload 0) ((xe_iload 1).trans (congrArg (x_iload 1) ((xe_iconst 0).trans (congrArg (x_iconst 0) xe_nil))))))))))))
theorem bk_X11_playTennis_271 : ck_ fX11 none cX11_playTennis 271 [.iconst 1, .fadd] 273 = true := qck_r (nn_ _) (by decide +kernel)
theorem bs_X11_playTennis_271 {P : Zt → Option Zv → Prop} (K : Int → Zl → List Zv → Zt → Prop) : sx_ K P [.iconst 1, .fadd] 273 = x_iconst 1 (x_fadd (K 273)) := ((xe_iconst 1).trans (congrArg (x_iconst 1) ((xe_fadd).trans (congrArg (x_fadd) xe_nil))))
theorem bk_X11_playTennis_115 : ck_ fX11 none cX11_playTennis 115 [.istore 5, .aload 0, .iload 1, .iconst 1, .iload 3, .iadd] 122 = true := qck_r (nn_ _) (by decide +kernel)
theorem bs_X11_playTennis_115 {P : Zt → Option Zv → Prop} (K : Int → Zl → List Zv → Zt → Prop) : sx_ K P [.istore 5, .aload 0, .iload 1, .iconst 1, .iload 3, .iadd] 122 = x_istore 5 (x_aload 0 (x_iload 1 (x_iconst 1 (x_iload 3 (x_iadd (K 122)))))) := ((xe_istore 5).trans (congrArg (x_istore 5) ((xe_aload 0).trans (congrArg (x_aload 0) ((xe_iload 1).trans (congrArg (x_iload 1) ((xe_iconst 1).trans (congrArg (x_iconst 1) ((xe_iload 3).trans (congrArg (x_iload 3) ((xe_iadd).trans (congrArg (x_iadd) xe_nil))))))))))))
theorem bk_X11_playTennis_125 : ck_ fX11 none cX11_playTennis 125 [.istore 6, .iload 6, .iload 5, .if_icmp .lt 149, .iload 6, .aload 0, .iload 1, .iconst 2, .iload 3, .isub] 141 = true := qck_r (nn_ _) (by decide +kernel)
theorem bs_X11_playTennis_125 {P : Zt → Option Zv → Prop} (K : Int → Zl → List Zv → Zt → Prop) : sx_ K P [.istore 6, .iload 6, .iload 5, .if_icmp .lt 149, .iload 6, .aload 0, .iload 1, .iconst 2, .iload 3, .isub] 141 = x_istore 6 (x_iload 6 (x_iload 5 (x_if_icmp .lt 149 K (x_iload 6 (x_aload 0 (x_iload 1 (x_iconst 2 (x_iload 3 (x_isub (K 141)))))))))) := ((xe_istore 6).trans (congrArg (x_istore 6) ((xe_iload 6).trans (congrArg (x_iload 6) ((xe_iload 5).trans (congrArg (x_iload 5) ((xe_if_icmp .lt 149).trans (congrArg (x_if_icmp .lt 149 K) ((xe_iload 6).trans (congrArg (x_iload 6) ((xe_aload 0).trans (congrArg (x_aload 0) ((xe_iload 1).trans (congrArg (x_iload 1) ((xe_iconst 2).trans (congrArg (x_iconst 2) ((xe_iload 3).trans (congrArg (x_iload 3) ((xe_isub).trans (congrArg (x_isub) xe_nil))))))))))))))))))))
theorem bk_X11_playTennis_149 : ck_ fX11 none cX11_playTennis 149 [.return_] 150 = true := qck_r (nn_ _) (by decide +kernel)
theorem bs_X11_playTennis_149 {P : Zt → Option Zv → Prop} (K : Int → Zl → List Zv → Zt → Prop) : sx_ K P [.return_] 150 = x_return_ P := (xe_return_)
theorem bk_X11_playTennis_144 : ck_ fX11 none cX11_playTennis 144 [.iconst 2, .fadd, .if_icmp .ge 150, .return_] 150 = true := qck_r (nn_ _) (by decide +kernel)
theorem bs_X11_playTennis_144 {P : Zt → Option Zv → Prop} (K : Int → Zl → List Zv → Zt → Prop) : sx_ K P [.iconst 2, .fadd, .if_icmp .ge 150, .return_] 150 = x_iconst 2 (x_fadd (x_if_icmp .ge 150 K (x_return_ P))) := ((xe_iconst 2).trans (congrArg (x_iconst 2) ((xe_fadd).trans (congrArg (x_fadd) ((xe_if_icmp .ge 150).trans (congrArg (x_if_icmp .ge 150 K) (xe_return_)))))))
theorem bk_X11_playTennis_150 : ck_ fX11 none cX11_playTennis 150 [.aload 0, .iload 1, .iconst 1, .iconst 0] 154 = true := qck_r (nn_ _) (by decide +kernel)
theorem bs_X11_playTennis_150 {P : Zt → Option Zv → Prop} (K : Int → Zl → List Zv → Zt → Prop) : sx_ K P [.aload 0, .iload 1, .iconst 1, .iconst 0] 154 = x_aload 0 (x_iload 1 (x_iconst 1 (x_iconst 0 (K 154)))) := ((xe_aload 0).trans (congrArg (x_aload 0) ((xe_iload 1).trans (congrArg (x_iload 1) ((xe_iconst 1).trans (congrArg (x_iconst 1) ((xe_iconst 0).trans (congrArg (x_iconst 0) xe_nil))))))))
theorem bk_X11_playTennis_157 : ck_ fX11 none cX11_playTennis 157 [.aload 0, .iload 1, .iconst 2, .iconst 0] 161 = true := qck_r (nn_ _) (by decide +kernel)
theorem bs_X11_playTennis_157 {P : Zt → Option Zv → Prop} (K : Int → Zl → List Zv → Zt → Prop) : sx_ K P [.aload 0, .iload 1, .iconst 2, .iconst 0] 161 = x_aload 0 (x_iload 1 (x_iconst 2 (x_iconst 0 (K 161)))) := ((xe_aload 0).trans (congrArg (x_aload 0) ((xe_iload 1).trans (congrArg (x_iload 1) ((xe_iconst 2).trans (congrArg (x_iconst 2) ((xe_iconst 0).trans (congrArg (x_iconst 0) xe_nil))))))))
theorem bk_X11_playTennis_164 : ck_ fX11 none cX11_playTennis 164 [.aload 0, .iload 1, .iconst 3, .iload 3, .iadd, .aload 0, .iload 1, .iconst 3, .iload 3, .iadd] 174 = true := qck_r (nn_ _) (by decide +kernel)
theorem bs_X11_playTennis_164 {P : Zt → Option Zv → Prop} (K : Int → Zl → List Zv → Zt → Prop) : sx_ K P [.aload 0, .iload 1, .iconst 3, .iload 3, .iadd, .aload 0, .iload 1, .iconst 3, .iload 3, .iadd] 174 = x_aload 0 (x_iload 1 (x_iconst 3 (x_iload 3 (x_iadd (x_aload 0 (x_iload 1 (x_iconst 3 (x_iload 3 (x_iadd (K 174)))))))))) := ((xe_aload 0).trans (congrArg (x_aload 0) ((xe_iload 1).trans (congrArg (x_iload 1) ((xe_iconst 3).trans (congrArg (x_iconst 3) ((xe_iload 3).trans (congrArg (x_iload 3) ((xe_iadd).trans (congrArg (x_iadd) ((xe_aload 0).trans (congrArg (x_aload 0) ((xe_iload 1).trans (congrArg (x_iload 1) ((xe_iconst 3).trans (congrArg (x_iconst 3) ((xe_iload 3).trans (congrArg (x_iload 3) ((xe_iadd).trans (congrArg (x_iadd) xe_nil))))))))))))))))))))
theorem bk_X11_playTennis_177 : ck_ fX11 none cX11_playTennis 177 [.iconst 1, .fadd] 179 = true := qck_r (nn_ _) (by decide +kernel)
theorem bs_X11_playTennis_177 {P : Zt → Option Zv → Prop} (K : Int → Zl → List Zv → Zt → Prop) : sx_ K P [.iconst 1, .fadd] 179 = x_iconst 1 (x_fadd (K 179)) := ((xe_iconst 1).trans (congrArg (x_iconst 1) ((xe_fadd).trans (congrArg (x_fadd) xe_nil))))
theorem bk_X11_playTennis_182 : ck_ fX11 none cX11_playTennis 182 [.aload 0, .iload 1, .iconst 3, .iload 3, .iadd] 187 = true := qck_r (nn_ _) (by decide +kernel)
theorem bs_X11_playTennis_182 {P : Zt → Option Zv → Prop} (K : Int → Zl → List Zv → Zt → Prop) : sx_ K P [.aload 0, .iload 1, .iconst 3, .iload 3, .iadd] 187 = x_aload 0 (x_iload 1 (x_iconst 3 (x_iload 3 (x_iadd (K 187))))) := ((xe_aload 0).trans (congrArg (x_aload 0) ((xe_iload 1).trans (congrArg (x_iload 1) ((xe_iconst 3).trans (congrArg (x_iconst 3) ((xe_iload 3).trans (congrArg (x_iload 3) ((xe_iadd).trans (congrArg (x_iadd) xe_nil))))))))))
theorem bk_X11_playTennis_190 : ck_ fX11 none cX11_playTennis 190 [.istore 7, .iload 7, .iload 4, .if_icmp .lt 214, .iload 7, .aload 0, .iload 1, .iconst 4, .iload 3, .isub] 206 = true := qck_r (nn_ _) (by decide +kernel)
theorem bs_X11_playTennis_190 {P : Zt → Option Zv → Prop} (K : Int → Zl → List Zv → Zt → Prop) : sx_ K P [.istore 7, .iload 7, .iload 4, .if_icmp .lt 214, .iload 7, .aload 0, .iload 1, .iconst 4, .iload 3, .isub] 206 = x_istore 7 (x_iload 7 (x_iload 4 (x_if_icmp .lt 214 K (x_iload 7 (x_aload 0 (x_iload 1 (x_iconst 4 (x_iload 3 (x_isub (K 206)))))))))) := ((xe_istore 7).trans (congrArg (x_istore 7) ((xe_iload 7).trans (congrArg (x_iload 7) ((xe_iload 4).trans (congrArg (x_iload 4) ((xe_if_icmp .lt 214).trans (congrArg (x_if_icmp .lt 214 K) ((xe_iload 7).trans (congrArg (x_iload 7) ((xe_aload 0).trans (congrArg (x_aload 0) ((xe_iload 1).trans (congrArg (x_iload 1) ((xe_iconst 4).trans (congrArg (x_iconst 4) ((xe_iload 3).trans (congrArg (x_iload 3) ((xe_isub).trans (congrArg (x_isub) xe_nil))))))))))))))))))))
theorem bk_X11_playTennis_214 : ck_ fX11 none cX11_playTennis 214 [.iload 7, .iload 4, .iconst 1, .fadd, .if_icmp .ne 276] 223 = true := qck_r (nn_ _) (by decide +kernel)
theorem bs_X11_playTennis_214 {P : Zt → Option Zv → Prop} (K : Int → Zl → List Zv → Zt → Prop) : sx_ K P [.iload 7, .iload 4, .iconst 1, .fadd, .if_icmp .ne 276] 223 = x_iload 7 (x_iload 4 (x_iconst 1 (x_fadd (x_if_icmp .ne 276 K (K 223))))) := ((xe_iload 7).trans (congrArg (x_iload 7) ((xe_iload 4).trans (congrArg (x_iload 4) ((xe_iconst 1).trans (congrArg (x_iconst 1) ((xe_fadd).trans (congrArg (x_fadd) ((xe_if_icmp .ne 276).trans (congrArg (x_if_icmp .ne 276 K) xe_nil))))))))))
theorem bk_X11_playTennis_209 : ck_ fX11 none cX11_playTennis 209 [.iconst 2, .fadd, .if_icmp .ge 223, .iload 7, .iload 4, .iconst 1, .fadd, .if_icmp .ne 276] 223 = true := qck_r (nn_ _) (by decide +kernel)
theorem bs_X11_playTennis_209 {P : Zt → Option Zv → Prop} (K : Int → Zl → List Zv → Zt → Prop) : sx_ K P [.iconst 2, .fadd, .if_icmp .ge 223, .iload 7, .iload 4, .iconst 1, .fadd, .if_icmp .ne 276] 223 = x_iconst 2 (x_fadd (x_if_icmp .ge 223 K (x_iload 7 (x_iload 4 (x_iconst 1 (x_fadd (x_if_icmp .ne 276 K (K 223)))))))) := ((xe_iconst 2).trans (congrArg (x_iconst 2) ((xe_fadd).trans (congrArg (x_fadd) ((xe_if_icmp .ge 223).trans (congrArg (x_if_icmp .ge 223 K) ((xe_iload 7).trans (congrArg (x_iload 7) ((xe_iload 4).trans (congrArg (x_iload 4) ((xe_iconst 1).trans (congrArg (x_iconst 1) ((xe_fadd).trans (congrArg (x_fadd) ((xe_if_icmp .ne 276).trans (congrArg (x_if_icmp .ne 276 K) xe_nil))))))))))))))))
theorem bk_X11_playTennis_0 : ck_ fX11 none cX11_playTennis 0 [.iload 2, .iconst 6, .if_icmp .ne 55, .aload 0, .tableswitch 0 11 35 #[], .iload 1, .iconst 2, .iastore, .aload 0, .tableswitch 0 11 36 #[], .iload 1, .iload 3, .iconst 1, .if_icmp .ne 27, .iconst 2, .goto 33] 27 = true := qck_r (nn_ _) (by decide +kernel)
theorem bs_X11_playTennis_0 {P : Zt → Option Zv → Prop} (K : Int → Zl → List Zv → Zt → Prop) : sx_ K P [.iload 2, .iconst 6, .if_icmp .ne 55, .aload 0, .tableswitch 0 11 35 #[], .iload 1, .iconst 2, .iastore, .aload 0, .tableswitch 0 11 36 #[], .iload 1, .iload 3, .iconst 1, .if_icmp .ne 27, .iconst 2, .goto 33] 27 = x_iload 2 (x_iconst 6 (x_if_icmp .ne 55 K (x_aload 0 (x_g1 111 235 (x_iload 1 (x_iconst 2 (x_iastore (x_aload 0 (x_g1 111 236 (x_iload 1 (x_iload 3 (x_iconst 1 (x_if_icmp .ne 27 K (x_iconst 2 (x_goto 33 K))))))))))))))) := ((xe_iload 2).trans (congrArg (x_iload 2) ((xe_iconst 6).trans (congrArg (x_iconst 6) ((xe_if_icmp .ne 55).trans (congrArg (x_if_icmp .ne 55 K) ((xe_aload 0).trans (congrArg (x_aload 0) ((xe_g1 (kk := 111) rfl tl_11_35).trans (congrArg (x_g1 111 235) ((xe_iload 1).trans (congrArg (x_iload 1) ((xe_iconst 2).trans (congrArg (x_iconst 2) ((xe_iastore).trans (congrArg (x_iastore) ((xe_aload 0).trans (congrArg (x_aload 0) ((xe_g1 (kk := 111) rfl tl_11_36).trans (congrArg (x_g1 111 236) ((xe_iload 1).trans (congrArg (x_iload 1) ((xe_iload 3).trans (congrArg (x_iload 3) ((xe_iconst 1).trans (congrArg (x_iconst 1) ((xe_if_icmp .ne 27).trans (congrArg (x_if_icmp .ne 27 K) ((xe_iconst 2).trans (congrArg (x_iconst 2) (xe_goto 33)))))))))))))))))))))))))))))))
theorem bk_X11_playTennis_55 : ck_ fX11 none cX11_playTennis 55 [.aload 0, .aload 0, .tableswitch 0 11 30 #[], .iload 1, .iaload, .iconst 11] 64 = true := qck_r (nn_ _) (by decide +kernel)
theorem bs_X11_playTennis_55 {P : Zt → Option Zv → Prop} (K : Int → Zl → List Zv → Zt → Prop) : sx_ K P [.aload 0, .aload 0, .tableswitch 0 11 30 #[], .iload 1, .iaload, .iconst 11] 64 = x_aload 0 (x_aload 0 (x_g1 111 230 (x_iload 1 (x_iaload (x_iconst 11 (K 64)))))) := ((xe_aload 0).trans (congrArg (x_aload 0) ((xe_aload 0).trans (congrArg (x_aload 0) ((xe_g1 (kk := 111) rfl tl_11_30).trans (congrArg (x_g1 111 230) ((xe_iload 1).trans (congrArg (x_iload 1) ((xe_iaload).trans (congrArg (x_iaload) ((xe_iconst 11).trans (congrArg (x_iconst 11) xe_nil))))))))))))
theorem bk_X11_playTennis_67 : ck_ fX11 none cX11_playTennis 67 [.istore 4, .aload 0, .iload 1, .iconst 1, .iload 3, .iadd, .aload 0, .iload 1, .iconst 1, .iload 3, .iadd] 79 = true := qck_r (nn_ _) (by decide +kernel)
theorem bs_X11_playTennis_67 {P : Zt → Option Zv → Prop} (K : Int → Zl → List Zv → Zt → Prop) : sx_ K P [.istore 4, .aload 0, .iload 1, .iconst 1, .iload 3, .iadd, .aload 0, .iload 1, .iconst 1, .iload 3, .iadd] 79 = x_istore 4 (x_aload 0 (x_iload 1 (x_iconst 1 (x_iload 3 (x_iadd (x_aload 0 (x_iload 1 (x_iconst 1 (x_iload 3 (x_iadd (K 79))))))))))) := ((xe_istore 4).trans (congrArg (x_istore 4) ((xe_aload 0).trans (congrArg (x_aload 0) ((xe_iload 1).trans (congrArg (x_iload 1) ((xe_iconst 1).trans (congrArg (x_iconst 1) ((xe_iload 3).trans (congrArg (x_iload 3) ((xe_iadd).trans (congrArg (x_iadd) ((xe_aload 0).trans (congrArg (x_aload 0) ((xe_iload 1).trans (congrArg (x_iload 1) ((xe_iconst 1).trans (congrArg (x_iconst 1) ((xe_iload 3).trans (congrArg (x_iload 3) ((xe_iadd).trans (congrArg (x_iadd) xe_nil))))))))))))))))))))))
theorem bk_X11_playTennis_82 : ck_ fX11 none cX11_playTennis 82 [.iconst 1, .fadd] 84 = true := qck_r (nn_ _) (by decide +kernel)
theorem bs_X11_playTennis_82 {P : Zt → Option Zv → Prop} (K : Int → Zl → List Zv → Zt → Prop) : sx_ K P [.iconst 1, .fadd] 84 = x_iconst 1 (x_fadd (K 84)) := ((xe_iconst 1).trans (congrArg (x_iconst 1) ((xe_fadd).trans (congrArg (x_fadd) xe_nil))))
theorem bk_X11_playTennis_87 : ck_ fX11 none cX11_playTennis 87 [.aload 0, .iload 1, .iconst 3] 90 = true := qck_r (nn_ _) (by decide +kernel)
theorem bs_X11_playTennis_87 {P : Zt → Option Zv → Prop} (K : Int → Zl → List Zv → Zt → Prop) : sx_ K P [.aload 0, .iload 1, .iconst 3] 90 = x_aload 0 (x_iload 1 (x_iconst 3 (K 90))) := ((xe_aload 0).trans (congrArg (x_aload 0) ((xe_iload 1).trans (congrArg (x_iload 1) ((xe_iconst 3).trans (congrArg (x_iconst 3) xe_nil))))))
theorem bk_X11_playTennis_93 : ck_ fX11 none cX11_playTennis 93 [.iload 4, .if_icmp .ne 114, .aload 0, .iload 1, .iconst 4] 101 = true := qck_r (nn_ _) (by decide +kernel)
theorem bs_X11_playTennis_93 {P : Zt → Option Zv → Prop} (K : Int → Zl → List Zv → Zt → Prop) : sx_ K P [.iload 4, .if_icmp .ne 114, .aload 0, .iload 1, .iconst 4] 101 = x_iload 4 (x_if_icmp .ne 114 K (x_aload 0 (x_iload 1 (x_iconst 4 (K 101))))) := ((xe_iload 4).trans (congrArg (x_iload 4) ((xe_if_icmp .ne 114).trans (congrArg (x_if_icmp .ne 114 K) ((xe_aload 0).trans (congrArg (x_aload 0) ((xe_iload 1).trans (congrArg (x_iload 1) ((xe_iconst 4).trans (congrArg (x_iconst 4) xe_nil))))))))))
theorem bk_X11_playTennis_114 : ck_ fX11 none cX11_playTennis 114 [.iconst 4] 115 = true := qck_r (nn_ _) (by decide +kernel)
theorem bs_X11_playTennis_114 {P : Zt → Option Zv → Prop} (K : Int → Zl → List Zv → Zt → Prop) : sx_ K P [.iconst 4] 115 = x_iconst 4 (K 115) := ((xe_iconst 4).trans (congrArg (x_iconst 4) xe_nil))
theorem bk_X11_playTennis_104 : ck_ fX11 none cX11_playTennis 104 [.iload 4, .if_icmp .ne 114, .iconst 7, .goto 115] 114 = true := qck_r (nn_ _) (by decide +kernel)
theorem bs_X11_playTennis_104 {P : Zt → Option Zv → Prop} (K : Int → Zl → List Zv → Zt → Prop) : sx_ K P [.iload 4, .if_icmp .ne 114, .iconst 7, .goto 115] 114 = x_iload 4 (x_if_icmp .ne 114 K (x_iconst 7 (x_goto 115 K))) := ((xe_iload 4).trans (congrArg (x_iload 4) ((xe_if_icmp .ne 114).trans (congrArg (x_if_icmp .ne 114 K) ((xe_iconst 7).trans (congrArg (x_iconst 7) (xe_goto 115)))))))
theorem bk_X11_playTennis_27 : ck_ fX11 none cX11_playTennis 27 [.aload 0, .tableswitch 0 11 36 #[], .iload 1, .iaload, .iastore, .aload 0, .tableswitch 0 11 37 #[], .iload 1, .iload 3, .ifCond .ne 47, .iconst 2, .goto 53] 47 = true := qck_r (nn_ _) (by decide +kernel)
theorem bs_X11_playTennis_27 {P : Zt → Option Zv → Prop} (K : Int → Zl → List Zv → Zt → Prop) : sx_ K P [.aload 0, .tableswitch 0 11 36 #[], .iload 1, .iaload, .iastore, .aload 0, .tableswitch 0 11 37 #[], .iload 1, .iload 3, .ifCond .ne 47, .iconst 2, .goto 53] 47 = x_aload 0 (x_g1 111 236 (x_iload 1 (x_iaload (x_iastore (x_aload 0 (x_g1 111 237 (x_iload 1 (x_iload 3 (x_ifCond .ne 47 K (x_iconst 2 (x_goto 53 K))))))))))) := ((xe_aload 0).trans (congrArg (x_aload 0) ((xe_g1 (kk := 111) rfl tl_11_36).trans (congrArg (x_g1 111 236) ((xe_iload 1).trans (congrArg (x_iload 1) ((xe_iaload).trans (congrArg (x_iaload) ((xe_iastore).trans (congrArg (x_iastore) ((xe_aload 0).trans (congrArg (x_aload 0) ((xe_g1 (kk := 111) rfl tl_11_37).trans (congrArg (x_g1 111 237) ((xe_iload 1).trans (congrArg (x_iload 1) ((xe_iload 3).trans (congrArg (x_iload 3) ((xe_ifCond .ne 47).trans (congrArg (x_ifCond .ne 47 K) ((xe_iconst 2).trans (congrArg (x_iconst 2) (xe_goto 53)))))))))))))))))))))))
theorem bk_X11_playTennis_47 : ck_ fX11 none cX11_playTennis 47 [.aload 0, .tableswitch 0 11 37 #[], .iload 1, .iaload, .iastore, .return_] 55 = true := qck_r (nn_ _) (by decide +kernel)
theorem bs_X11_playTennis_47 {P : Zt → Option Zv → Prop} (K : Int → Zl → List Zv → Zt → Prop) : sx_ K P [.aload 0, .tableswitch 0 11 37 #[], .iload 1, .iaload, .iastore, .return_] 55 = x_aload 0 (x_g1 111 237 (x_iload 1 (x_iaload (x_iastore (x_return_ P))))) := ((xe_aload 0).trans (congrArg (x_aload 0) ((xe_g1 (kk := 111) rfl tl_11_37).trans (congrArg (x_g1 111 237) ((xe_iload 1).trans (congrArg (x_iload 1) ((xe_iaload).trans (congrArg (x_iaload) ((xe_iastore).trans (congrArg (x_iastore) (xe_return_)))))))))))
theorem bk_X11_playTennis_53 : ck_ fX11 none cX11_playTennis 53 [.iastore, .return_] 55 = true := qck_r (nn_ _) (by decide +kernel)
theorem bs_X11_playTennis_53 {P : Zt → Option Zv → Prop} (K : Int → Zl → List Zv → Zt → Prop) : sx_ K P [.iastore, .return_] 55 = x_iastore (x_return_ P) := ((xe_iastore).trans (congrArg (x_iastore) (xe_return_)))
theorem bk_X11_playTennis_33 : ck_ fX11 none cX11_playTennis 33 [.iastore, .aload 0, .tableswitch 0 11 37 #[], .iload 1, .iload 3, .ifCond .ne 47, .iconst 2, .goto 53] 47 = true := qck_r (nn_ _) (by decide +kernel)
theorem bs_X11_playTennis_33 {P : Zt → Option Zv → Prop} (K : Int → Zl → List Zv → Zt → Prop) : sx_ K P [.iastore, .aload 0, .tableswitch 0 11 37 #[], .iload 1, .iload 3, .ifCond .ne 47, .iconst 2, .goto 53] 47 = x_iastore (x_aload 0 (x_g1 111 237 (x_iload 1 (x_iload 3 (x_ifCond .ne 47 K (x_iconst 2 (x_goto 53 K))))))) := ((xe_iastore).trans (congrArg (x_iastore) ((xe_aload 0).trans (congrArg (x_aload 0) ((xe_g1 (kk := 111) rfl tl_11_37).trans (congrArg (x_g1 111 237) ((xe_iload 1).trans (congrArg (x_iload 1) ((xe_iload 3).trans (congrArg (x_iload 3) ((xe_ifCond .ne 47).trans (congrArg (x_ifCond .ne 47 K) ((xe_iconst 2).trans (congrArg (x_iconst 2) (xe_goto 53)))))))))))))))
abbrev po_X11_playTennis (T : Zt) (bu : Int) (m k s : Int) : Zt → Option Zv → Prop := fun T' r => r = none ∧ fr_ [(246, []), (236, []), (237, []), (235, [])] T T' ∧ (FM_ T' ∧ SO_ T T' m ∧ SB1_ T' m (bu + 4))
set_option maxHeartbeats 4000000 in
theorem ct_X11_playTennis {T : Zt} {bu : Int} {m k s : Int} (h1 : 0 ≤ m ∧ m < 400) (hs : 0 ≤ s ∧ s ≤ 1) (hfm : FM_ T) (hbu : 9 ≤ bu ∧ bu ≤ 19000) (hsb : SB1_ T m bu) : Ct_ yX11_playTennis zX11_playTennis T [vR 111 0, vI m, vI k, vI s] (po_X11_playTennis T bu m k s) := by
  refine ct_of pn_11 rfl rfl (Nat.le_of_ble_eq_true rfl) (fun hT hav => ?_)
  have hr_m : -2147483648 ≤ m ∧ m ≤ 2147483647 := hav (vI m) (by simp)
  have hr_k : -2147483648 ≤ k ∧ k ≤ 2147483647 := hav (vI k) (by simp)
  have hr_s : -2147483648 ≤ s ∧ s ≤ 2147483647 := hav (vI s) (by simp)
  have hz : zX11_playTennis.2.2.2.1 = some .boolean → ∀ (T' : Zt) (x : Int), po_X11_playTennis T bu m k s T' (some (vI x)) → 0 ≤ x ∧ x ≤ 1 := fun h => by cases h
  have hs0 := hsb.1
  have hs1 := hsb.2.1
  show J_ zX11_playTennis T (po_X11_playTennis T bu m k s) 0 0 0 [some (vR 111 0), some (vI m), some (vI k), some (vI s), none, none, none, none] [] T
  have c_276 : ∀ (T3 : Zt), (fr_ [(246, []), (236, []), (237, [])] T T3) → (SO_ T T3 m) → (SB1_ T3 m (bu + 4)) → J_ zX11_playTennis T (po_X11_playTennis T bu m k s) 0 0 276 [some (vR 111 0), some (vI m), some (vI k), some (vI s), none, none, none, none] [] T3 := by
    intro T3 hf_276 so3 sb3
    refine j_blx (F := fX11) tb_X11 (nn_ _) bk_X11_playTennis_276 bs_X11_playTennis_276 hz (fun K hK => ?_)
    refine hK 283 _ [vI 5, vI m, vR 111 0, vI 1, vI 5, vI m, vR 111 0] T3 ?_
    refine j_callV (y := yX11_liveOf) (Yc := zX11_liveOf) (rest := [vI 1, vI 5, vI m, vR 111 0]) [vI m, vI 5] (ct_X11_liveOf (T := T3) (by omega) (by omega)) cl_X11_400 (qd_c (by decide +kernel)) (nn_ _) rfl (rf_of rfl) (Nat.le_of_ble_eq_true rfl) (Nat.le_of_ble_eq_true rfl) (Nat.le_of_ble_eq_true rfl) rfl ?_
    rintro _ _ ⟨rfl, rfl⟩
    show J_ zX11_playTennis T (po_X11_playTennis T bu m k s) 0 0 286 _ [vI (T3 246 0 (8 * m + 5)), vI 1, vI 5, vI m, vR 111 0] T3
    refine j_blx (F := fX11) tb_X11 (nn_ _) bk_X11_playTennis_286 bs_X11_playTennis_286 hz (fun K hK => ?_)
    intro w1 w1b
    refine hK 287 _ [vI (wr_ (1 - (T3 246 0 (8 * m + 5)))), vI 5, vI m, vR 111 0] T3 ?_
    refine j_callV (y := yX11_setLive) (Yc := zX11_setLive) (rest := []) [vI m, vI 5, vI (wr_ (1 - (T3 246 0 (8 * m + 5))))] (ct_X11_setLive (T := T3) (by omega) (by omega)) cl_X11_410 (qd_c (by decide +kernel)) (nn_ _) rfl (rf_of rfl) (Nat.le_of_ble_eq_true rfl) (Nat.le_of_ble_eq_true rfl) (Nat.le_of_ble_eq_true rfl) rfl ?_
    rintro U2 _ ⟨rfl, fU2, _⟩
    show J_ zX11_playTennis T (po_X11_playTennis T bu m k s) 0 0 290 _ [] U2
    refine j_blx (F := fX11) tb_X11 (nn_ _) bk_X11_playTennis_290 bs_X11_playTennis_290 hz (fun K hK => ?_)
    refine (show po_X11_playTennis T bu m k s U2 (none) from ?_)
    exact ⟨rfl, fr_t (fr_t (fr_0 _ _) (fr_s hf_276 rfl)) (fr_s fU2 rfl), FM__f (ws := [(246, [])]) (FM__f (ws := [(246, []), (236, []), (237, [])]) (hfm) hf_276 ⟨fun _ => rfl, fun _ => rfl, trivial⟩) fU2 ⟨fun _ => rfl, fun _ => rfl, trivial⟩, so_f (ws := [(246, [])]) (so3) fU2 ⟨fun _ => rfl, fun _ => rfl, fun _ => rfl⟩, sb1_f (ws := [(246, [])]) (sb3) fU2 ⟨fun _ => rfl, fun _ => rfl, fun _ => rfl⟩⟩
  have c_223 : ∀ (T2 : Zt), (fr_ [(246, [])] T T2) → J_ zX11_playTennis T (po_X11_playTennis T bu m k s) 0 0 223 [some (vR 111 0), some (vI m), some (vI k), some (vI s), none, none, none, none] [] T2 := by
    intro T2 hf_223
    refine j_blx (F := fX11) tb_X11 (nn_ _) bk_X11_playTennis_223 bs_X11_playTennis_223 hz (fun K hK => ?_)
    refine hK 227 _ [vI 0, vI 3, vI m, vR 111 0] T2 ?_
    refine j_callV (y := yX11_setLive) (Yc := zX11_setLive) (rest := []) [vI m, vI 3, vI 0] (ct_X11_setLive (T := T2) (by omega) (by omega)) cl_X11_410 (qd_c (by decide +kernel)) (nn_ _) rfl (rf_of rfl) (Nat.le_of_ble_eq_true rfl) (Nat.le_of_ble_eq_true rfl) (Nat.le_of_ble_eq_true rfl) rfl ?_
    rintro U3 _ ⟨rfl, fU3, _⟩
    show J_ zX11_playTennis T (po_X11_playTennis T bu m k s) 0 0 230 _ [] U3
    refine j_blx (F := fX11) tb_X11 (nn_ _) bk_X11_playTennis_230 bs_X11_playTennis_230 hz (fun K hK => ?_)
    refine hK 234 _ [vI 0, vI 4, vI m, vR 111 0] U3 ?_
    refine j_callV (y := yX11_setLive) (Yc := zX11_setLive) (rest := []) [vI m, vI 4, vI 0] (ct_X11_setLive (T := U3) (by omega) (by omega)) cl_X11_410 (qd_c (by decide +kernel)) (nn_ _) rfl (rf_of rfl) (Nat.le_of_ble_eq_true rfl) (Nat.le_of_ble_eq_true rfl) (Nat.le_of_ble_eq_true rfl) rfl ?_
    rintro U4 _ ⟨rfl, fU4, _⟩
    show J_ zX11_playTennis T (po_X11_playTennis T bu m k s) 0 0 237 _ [] U4
    refine j_blx (F := fX11) tb_X11 (nn_ _) bk_X11_playTennis_237 bs_X11_playTennis_237 hz (fun K hK => ?_)
    refine hK 241 _ [vI 1, vI s, vI m, vR 111 0] U4 ?_
    refine j_callV (y := yX11_addScore) (Yc := zX11_addScore) (rest := []) [vI m, vI s, vI 1] (ct_X11_addScore (T := U4) (bu := bu) (by omega) (by omega) (by omega) (sb1_f (ws := [(246, [])]) (sb1_f (ws := [(246, [])]) (sb1_f (ws := [(246, [])]) (hsb) hf_223 ⟨fun _ => rfl, fun _ => rfl, fun _ => rfl⟩) fU3 ⟨fun _ => rfl, fun _ => rfl, fun _ => rfl⟩) fU4 ⟨fun _ => rfl, fun _ => rfl, fun _ => rfl⟩)) cl_X11_413 (qd_c (by decide +kernel)) (nn_ _) rfl (rf_of rfl) (Nat.le_of_ble_eq_true rfl) (Nat.le_of_ble_eq_true rfl) (Nat.le_of_ble_eq_true rfl) rfl ?_
    rintro U5 _ ⟨rfl, fU5, ⟨qU5o, qU5b⟩⟩
    show J_ zX11_playTennis T (po_X11_playTennis T bu m k s) 0 0 244 _ [] U5
    refine j_blx (F := fX11) tb_X11 (nn_ _) bk_X11_playTennis_244 bs_X11_playTennis_244 hz (fun K hK => ?_)
    refine hK 247 _ [vI s, vI m, vR 111 0] U5 ?_
    refine j_callV (y := yX11_scoreOf) (Yc := zX11_scoreOf) (rest := []) [vI m, vI s] (ct_X11_scoreOf (T := U5) (by omega)) cl_X11_426 (qd_c (by decide +kernel)) (nn_ _) rfl (rf_of rfl) (Nat.le_of_ble_eq_true rfl) (Nat.le_of_ble_eq_true rfl) (Nat.le_of_ble_eq_true rfl) rfl ?_
    rintro _ _ ⟨rfl, x6, rfl, hx6⟩
    show J_ zX11_playTennis T (po_X11_playTennis T bu m k s) 0 0 250 _ [vI x6] U5
    refine j_blx (F := fX11) tb_X11 (nn_ _) bk_X11_playTennis_250 bs_X11_playTennis_250 hz (fun K hK => ?_)
    refine And.intro (fun c7 => ?_) (fun c7 => ?_)
    · refine hK 262 _ [] U5 ?_
      refine j_blx (F := fX11) tb_X11 (nn_ _) bk_X11_playTennis_262 bs_X11_playTennis_262 hz (fun K hK => ?_)
      refine hK 268 _ [vI 0, vI m, vR 111 0, vI 0, vI m, vR 111 0] U5 ?_
      refine j_callV (y := yX11_liveOf) (Yc := zX11_liveOf) (rest := [vI 0, vI m, vR 111 0]) [vI m, vI 0] (ct_X11_liveOf (T := U5) (by omega) (by omega)) cl_X11_400 (qd_c (by decide +kernel)) (nn_ _) rfl (rf_of rfl) (Nat.le_of_ble_eq_true rfl) (Nat.le_of_ble_eq_true rfl) (Nat.le_of_ble_eq_true rfl) rfl ?_
      rintro _ _ ⟨rfl, rfl⟩
      have e8 : U5 246 0 (8 * m + 0) = U4 246 0 (8 * m + 0) := fU5 246 0 (8 * m + 0) rfl
      show J_ zX11_playTennis T (po_X11_playTennis T bu m k s) 0 0 271 _ [vI (U5 246 0 (8 * m + 0)), vI 0, vI m, vR 111 0] U5
      refine j_blx (F := fX11) tb_X11 (nn_ _) bk_X11_playTennis_271 bs_X11_playTennis_271 hz (fun K hK => ?_)
      intro w9 w9b
      refine hK 273 _ [vI (wr_ ((U5 246 0 (8 * m + 0)) + 1)), vI 0, vI m, vR 111 0] U5 ?_
      refine j_callV (y := yX11_setLive) (Yc := zX11_setLive) (rest := []) [vI m, vI 0, vI (wr_ ((U5 246 0 (8 * m + 0)) + 1))] (ct_X11_setLive (T := U5) (by omega) (by omega)) cl_X11_410 (qd_c (by decide +kernel)) (nn_ _) rfl (rf_of rfl) (Nat.le_of_ble_eq_true rfl) (Nat.le_of_ble_eq_true rfl) (Nat.le_of_ble_eq_true rfl) rfl ?_
      rintro U10 _ ⟨rfl, fU10, _⟩
      show J_ zX11_playTennis T (po_X11_playTennis T bu m k s) 0 0 276 _ [] U10
      refine c_276 U10 ?_ ?_ ?_
      · exact fr_t (fr_t (fr_t (fr_t (fr_t (fr_0 _ _) (fr_s hf_223 rfl)) (fr_s fU3 rfl)) (fr_s fU4 rfl)) (fr_s fU5 rfl)) (fr_s fU10 rfl)
      · exact so_f (ws := [(246, [])]) (so_t (so_f (ws := [(246, [])]) (so_f (ws := [(246, [])]) (so_f (ws := [(246, [])]) (so_r) hf_223 ⟨fun _ => rfl, fun _ => rfl, fun _ => rfl⟩) fU3 ⟨fun _ => rfl, fun _ => rfl, fun _ => rfl⟩) fU4 ⟨fun _ => rfl, fun _ => rfl, fun _ => rfl⟩) qU5o (fun j => (fU4 239 0 j rfl).trans ((fU3 239 0 j rfl).trans (hf_223 239 0 j rfl)))) fU10 ⟨fun _ => rfl, fun _ => rfl, fun _ => rfl⟩
      · exact sb1_f (ws := [(246, [])]) (qU5b) fU10 ⟨fun _ => rfl, fun _ => rfl, fun _ => rfl⟩
    · refine iy_i (by omega) (by omega) ?_
      refine x_nm (fun U11 hU11 => ?_)
      have e12 := up_f hU11
      refine (show po_X11_playTennis T bu m k s U11 (none) from ?_)
      exact ⟨rfl, fr_u (fr_t (fr_t (fr_t (fr_t (fr_0 _ _) (fr_s hf_223 rfl)) (fr_s fU3 rfl)) (fr_s fU4 rfl)) (fr_s fU5 rfl)) hU11 rfl, fm_w (FM__f (ws := [(236, []), (237, [])]) (FM__f (ws := [(246, [])]) (FM__f (ws := [(246, [])]) (FM__f (ws := [(246, [])]) (hfm) hf_223 ⟨fun _ => rfl, fun _ => rfl, trivial⟩) fU3 ⟨fun _ => rfl, fun _ => rfl, trivial⟩) fU4 ⟨fun _ => rfl, fun _ => rfl, trivial⟩) fU5 ⟨fun _ => rfl, fun _ => rfl, trivial⟩) hU11 (by decide), so_f (ws := [(235, [])]) (so_t (so_f (ws := [(246, [])]) (so_f (ws := [(246, [])]) (so_f (ws := [(246, [])]) (so_r) hf_223 ⟨fun _ => rfl, fun _ => rfl, fun _ => rfl⟩) fU3 ⟨fun _ => rfl, fun _ => rfl, fun _ => rfl⟩) fU4 ⟨fun _ => rfl, fun _ => rfl, fun _ => rfl⟩) qU5o (fun j => (fU4 239 0 j rfl).trans ((fU3 239 0 j rfl).trans (hf_223 239 0 j rfl)))) (fr_u (fr_0 _ _) hU11 rfl) ⟨fun _ => rfl, fun _ => rfl, fun _ => rfl⟩, sb1_f (ws := [(235, [])]) (qU5b) (fr_u (fr_0 _ _) hU11 rfl) ⟨fun _ => rfl, fun _ => rfl, fun _ => rfl⟩⟩
  have c_115 : ∀ (v : Int) (T1 : Zt), (fr_ [(246, [])] T T1) → J_ zX11_playTennis T (po_X11_playTennis T bu m k s) 0 0 115 [some (vR 111 0), some (vI m), some (vI k), some (vI s), some (vI (T 205 0 (23 * T 230 0 m + 11))), none, none, none] [vI v] T1 := by
    intro v T1 hf_115
    refine j_blx (F := fX11) tb_X11 (nn_ _) bk_X11_playTennis_115 bs_X11_playTennis_115 hz (fun K hK => ?_)
    refine rg_i (by omega) ?_
    refine hK 122 [some (vR 111 0), some (vI m), some (vI k), some (vI s), some (vI (T 205 0 (23 * T 230 0 m + 11))), some (vI v), none, none] [vI (1 + s), vI m, vR 111 0] T1 ?_
    refine j_callV (y := yX11_liveOf) (Yc := zX11_liveOf) (rest := []) [vI m, vI (1 + s)] (ct_X11_liveOf (T := T1) (by omega) (by omega)) cl_X11_400 (qd_c (by decide +kernel)) (nn_ _) rfl (rf_of rfl) (Nat.le_of_ble_eq_true rfl) (Nat.le_of_ble_eq_true rfl) (Nat.le_of_ble_eq_true rfl) rfl ?_
    rintro _ _ ⟨rfl, rfl⟩
    show J_ zX11_playTennis T (po_X11_playTennis T bu m k s) 0 0 125 _ [vI (T1 246 0 (8 * m + (1 + s)))] T1
    refine j_blx (F := fX11) tb_X11 (nn_ _) bk_X11_playTennis_125 bs_X11_playTennis_125 hz (fun K hK => ?_)
    refine And.intro (fun c13 => ?_) (fun c13 => ?_)
    · refine hK 149 [some (vR 111 0), some (vI m), some (vI k), some (vI s), some (vI (T 205 0 (23 * T 230 0 m + 11))), some (vI v), some (vI (T1 246 0 (8 * m + (1 + s)))), none] [] T1 ?_
      refine j_blx (F := fX11) tb_X11 (nn_ _) bk_X11_playTennis_149 bs_X11_playTennis_149 hz (fun K hK => ?_)
      refine (show po_X11_playTennis T bu m k s T1 (none) from ?_)
      exact ⟨rfl, fr_t (fr_0 _ _) (fr_s hf_115 rfl), FM__f (ws := [(246, [])]) (hfm) hf_115 ⟨fun _ => rfl, fun _ => rfl, trivial⟩, so_f (ws := [(246, [])]) (so_r) hf_115 ⟨fun _ => rfl, fun _ => rfl, fun _ => rfl⟩, sb1_f (ws := [(246, [])]) (sb1_m (c := bu + 4) hsb (by omega)) hf_115 ⟨fun _ => rfl, fun _ => rfl, fun _ => rfl⟩⟩
    · refine rg_i (by omega) ?_
      refine hK 141 _ [vI (2 - s), vI m, vR 111 0, vI (T1 246 0 (8 * m + (1 + s)))] T1 ?_
      refine j_callV (y := yX11_liveOf) (Yc := zX11_liveOf) (rest := [vI (T1 246 0 (8 * m + (1 + s)))]) [vI m, vI (2 - s)] (ct_X11_liveOf (T := T1) (by omega) (by omega)) cl_X11_400 (qd_c (by decide +kernel)) (nn_ _) rfl (rf_of rfl) (Nat.le_of_ble_eq_true rfl) (Nat.le_of_ble_eq_true rfl) (Nat.le_of_ble_eq_true rfl) rfl ?_
      rintro _ _ ⟨rfl, rfl⟩
      show J_ zX11_playTennis T (po_X11_playTennis T bu m k s) 0 0 144 _ [vI (T1 246 0 (8 * m + (2 - s))), vI (T1 246 0 (8 * m + (1 + s)))] T1
      refine j_blx (F := fX11) tb_X11 (nn_ _) bk_X11_playTennis_144 bs_X11_playTennis_144 hz (fun K hK => ?_)
      intro w14 w14b
      refine And.intro (fun c15 => ?_) (fun c15 => ?_)
      · refine hK 150 _ [] T1 ?_
        refine j_blx (F := fX11) tb_X11 (nn_ _) bk_X11_playTennis_150 bs_X11_playTennis_150 hz (fun K hK => ?_)
        refine hK 154 _ [vI 0, vI 1, vI m, vR 111 0] T1 ?_
        refine j_callV (y := yX11_setLive) (Yc := zX11_setLive) (rest := []) [vI m, vI 1, vI 0] (ct_X11_setLive (T := T1) (by omega) (by omega)) cl_X11_410 (qd_c (by decide +kernel)) (nn_ _) rfl (rf_of rfl) (Nat.le_of_ble_eq_true rfl) (Nat.le_of_ble_eq_true rfl) (Nat.le_of_ble_eq_true rfl) rfl ?_
        rintro U16 _ ⟨rfl, fU16, _⟩
        show J_ zX11_playTennis T (po_X11_playTennis T bu m k s) 0 0 157 _ [] U16
        refine j_blx (F := fX11) tb_X11 (nn_ _) bk_X11_playTennis_157 bs_X11_playTennis_157 hz (fun K hK => ?_)
        refine hK 161 _ [vI 0, vI 2, vI m, vR 111 0] U16 ?_
        refine j_callV (y := yX11_setLive) (Yc := zX11_setLive) (rest := []) [vI m, vI 2, vI 0] (ct_X11_setLive (T := U16) (by omega) (by omega)) cl_X11_410 (qd_c (by decide +kernel)) (nn_ _) rfl (rf_of rfl) (Nat.le_of_ble_eq_true rfl) (Nat.le_of_ble_eq_true rfl) (Nat.le_of_ble_eq_true rfl) rfl ?_
        rintro U17 _ ⟨rfl, fU17, _⟩
        show J_ zX11_playTennis T (po_X11_playTennis T bu m k s) 0 0 164 _ [] U17
        refine j_blx (F := fX11) tb_X11 (nn_ _) bk_X11_playTennis_164 bs_X11_playTennis_164 hz (fun K hK => ?_)
        refine rg_i (by omega) ?_
        refine rg_i (by omega) ?_
        refine hK 174 _ [vI (3 + s), vI m, vR 111 0, vI (3 + s), vI m, vR 111 0] U17 ?_
        refine j_callV (y := yX11_liveOf) (Yc := zX11_liveOf) (rest := [vI (3 + s), vI m, vR 111 0]) [vI m, vI (3 + s)] (ct_X11_liveOf (T := U17) (by omega) (by omega)) cl_X11_400 (qd_c (by decide +kernel)) (nn_ _) rfl (rf_of rfl) (Nat.le_of_ble_eq_true rfl) (Nat.le_of_ble_eq_true rfl) (Nat.le_of_ble_eq_true rfl) rfl ?_
        rintro _ _ ⟨rfl, rfl⟩
        show J_ zX11_playTennis T (po_X11_playTennis T bu m k s) 0 0 177 _ [vI (U17 246 0 (8 * m + (3 + s))), vI (3 + s), vI m, vR 111 0] U17
        refine j_blx (F := fX11) tb_X11 (nn_ _) bk_X11_playTennis_177 bs_X11_playTennis_177 hz (fun K hK => ?_)
        intro w18 w18b
        refine hK 179 _ [vI (wr_ ((U17 246 0 (8 * m + (3 + s))) + 1)), vI (3 + s), vI m, vR 111 0] U17 ?_
        refine j_callV (y := yX11_setLive) (Yc := zX11_setLive) (rest := []) [vI m, vI (3 + s), vI (wr_ ((U17 246 0 (8 * m + (3 + s))) + 1))] (ct_X11_setLive (T := U17) (by omega) (by omega)) cl_X11_410 (qd_c (by decide +kernel)) (nn_ _) rfl (rf_of rfl) (Nat.le_of_ble_eq_true rfl) (Nat.le_of_ble_eq_true rfl) (Nat.le_of_ble_eq_true rfl) rfl ?_
        rintro U19 _ ⟨rfl, fU19, _⟩
        show J_ zX11_playTennis T (po_X11_playTennis T bu m k s) 0 0 182 _ [] U19
        refine j_blx (F := fX11) tb_X11 (nn_ _) bk_X11_playTennis_182 bs_X11_playTennis_182 hz (fun K hK => ?_)
        refine rg_i (by omega) ?_
        refine hK 187 _ [vI (3 + s), vI m, vR 111 0] U19 ?_
        refine j_callV (y := yX11_liveOf) (Yc := zX11_liveOf) (rest := []) [vI m, vI (3 + s)] (ct_X11_liveOf (T := U19) (by omega) (by omega)) cl_X11_400 (qd_c (by decide +kernel)) (nn_ _) rfl (rf_of rfl) (Nat.le_of_ble_eq_true rfl) (Nat.le_of_ble_eq_true rfl) (Nat.le_of_ble_eq_true rfl) rfl ?_
        rintro _ _ ⟨rfl, rfl⟩
        show J_ zX11_playTennis T (po_X11_playTennis T bu m k s) 0 0 190 _ [vI (U19 246 0 (8 * m + (3 + s)))] U19
        refine j_blx (F := fX11) tb_X11 (nn_ _) bk_X11_playTennis_190 bs_X11_playTennis_190 hz (fun K hK => ?_)
        refine And.intro (fun c20 => ?_) (fun c20 => ?_)
        · refine hK 214 [some (vR 111 0), some (vI m), some (vI k), some (vI s), some (vI (T 205 0 (23 * T 230 0 m + 11))), some (vI v), some (vI (T1 246 0 (8 * m + (1 + s)))), some (vI (U19 246 0 (8 * m + (3 + s))))] [] U19 ?_
          refine j_blx (F := fX11) tb_X11 (nn_ _) bk_X11_playTennis_214 bs_X11_playTennis_214 hz (fun K hK => ?_)
          intro w21 w21b
          refine And.intro (fun c22 => ?_) (fun c22 => ?_)
          · refine hK 276 _ [] U19 ?_
            refine j_drop [some (vR 111 0), some (vI m), some (vI k), some (vI s), none, none, none, none] (fun k v hk => ?_) rfl ?_
            · match k, hk with
              | 0, hk => exact hk
              | 1, hk => exact hk
              | 2, hk => exact hk
              | 3, hk => exact hk
              | 4, hk => cases hk
              | 5, hk => cases hk
              | 6, hk => cases hk
              | 7, hk => cases hk
              | k + 8, hk => cases hk
            refine c_276 U19 ?_ ?_ ?_
            · exact fr_t (fr_t (fr_t (fr_t (fr_0 _ _) (fr_s hf_115 rfl)) (fr_s fU16 rfl)) (fr_s fU17 rfl)) (fr_s fU19 rfl)
            · exact so_f (ws := [(246, [])]) (so_f (ws := [(246, [])]) (so_f (ws := [(246, [])]) (so_f (ws := [(246, [])]) (so_r) hf_115 ⟨fun _ => rfl, fun _ => rfl, fun _ => rfl⟩) fU16 ⟨fun _ => rfl, fun _ => rfl, fun _ => rfl⟩) fU17 ⟨fun _ => rfl, fun _ => rfl, fun _ => rfl⟩) fU19 ⟨fun _ => rfl, fun _ => rfl, fun _ => rfl⟩
            · exact sb1_f (ws := [(246, [])]) (sb1_f (ws := [(246, [])]) (sb1_f (ws := [(246, [])]) (sb1_f (ws := [(246, [])]) (sb1_m (c := bu + 4) hsb (by omega)) hf_115 ⟨fun _ => rfl, fun _ => rfl, fun _ => rfl⟩) fU16 ⟨fun _ => rfl, fun _ => rfl, fun _ => rfl⟩) fU17 ⟨fun _ => rfl, fun _ => rfl, fun _ => rfl⟩) fU19 ⟨fun _ => rfl, fun _ => rfl, fun _ => rfl⟩
          · refine hK 223 [some (vR 111 0), some (vI m), some (vI k), some (vI s), some (vI (T 205 0 (23 * T 230 0 m + 11))), some (vI v), some (vI (T1 246 0 (8 * m + (1 + s)))), some (vI (U19 246 0 (8 * m + (3 + s))))] [] U19 ?_
            refine j_drop [some (vR 111 0), some (vI m), some (vI k), some (vI s), none, none, none, none] (fun k v hk => ?_) rfl ?_
            · match k, hk with
              | 0, hk => exact hk
              | 1, hk => exact hk
              | 2, hk => exact hk
              | 3, hk => exact hk
              | 4, hk => cases hk
              | 5, hk => cases hk
              | 6, hk => cases hk
              | 7, hk => cases hk
              | k + 8, hk => cases hk
            refine c_223 U19 ?_
            · exact fr_t (fr_t (fr_t (fr_t (fr_0 _ _) (fr_s hf_115 rfl)) (fr_s fU16 rfl)) (fr_s fU17 rfl)) (fr_s fU19 rfl)
        · refine rg_i (by omega) ?_
          refine hK 206 _ [vI (4 - s), vI m, vR 111 0, vI (U19 246 0 (8 * m + (3 + s)))] U19 ?_
          refine j_callV (y := yX11_liveOf) (Yc := zX11_liveOf) (rest := [vI (U19 246 0 (8 * m + (3 + s)))]) [vI m, vI (4 - s)] (ct_X11_liveOf (T := U19) (by omega) (by omega)) cl_X11_400 (qd_c (by decide +kernel)) (nn_ _) rfl (rf_of rfl) (Nat.le_of_ble_eq_true rfl) (Nat.le_of_ble_eq_true rfl) (Nat.le_of_ble_eq_true rfl) rfl ?_
          rintro _ _ ⟨rfl, rfl⟩
          show J_ zX11_playTennis T (po_X11_playTennis T bu m k s) 0 0 209 _ [vI (U19 246 0 (8 * m + (4 - s))), vI (U19 246 0 (8 * m + (3 + s)))] U19
          refine j_blx (F := fX11) tb_X11 (nn_ _) bk_X11_playTennis_209 bs_X11_playTennis_209 hz (fun K hK => ?_)
          intro w23 w23b
          refine And.intro (fun c24 => ?_) (fun c24 => ?_)
          · refine hK 223 _ [] U19 ?_
            refine j_drop [some (vR 111 0), some (vI m), some (vI k), some (vI s), none, none, none, none] (fun k v hk => ?_) rfl ?_
            · match k, hk with
              | 0, hk => exact hk
              | 1, hk => exact hk
              | 2, hk => exact hk
              | 3, hk => exact hk
              | 4, hk => cases hk
              | 5, hk => cases hk
              | 6, hk => cases hk
              | 7, hk => cases hk
              | k + 8, hk => cases hk
            refine c_223 U19 ?_
            · exact fr_t (fr_t (fr_t (fr_t (fr_0 _ _) (fr_s hf_115 rfl)) (fr_s fU16 rfl)) (fr_s fU17 rfl)) (fr_s fU19 rfl)
          · intro w25 w25b
            refine And.intro (fun c26 => ?_) (fun c26 => ?_)
            · refine hK 276 [some (vR 111 0), some (vI m), some (vI k), some (vI s), some (vI (T 205 0 (23 * T 230 0 m + 11))), some (vI v), some (vI (T1 246 0 (8 * m + (1 + s)))), some (vI (U19 246 0 (8 * m + (3 + s))))] [] U19 ?_
              refine j_drop [some (vR 111 0), some (vI m), some (vI k), some (vI s), none, none, none, none] (fun k v hk => ?_) rfl ?_
              · match k, hk with
                | 0, hk => exact hk
                | 1, hk => exact hk
                | 2, hk => exact hk
                | 3, hk => exact hk
                | 4, hk => cases hk
                | 5, hk => cases hk
                | 6, hk => cases hk
                | 7, hk => cases hk
                | k + 8, hk => cases hk
              refine c_276 U19 ?_ ?_ ?_
              · exact fr_t (fr_t (fr_t (fr_t (fr_0 _ _) (fr_s hf_115 rfl)) (fr_s fU16 rfl)) (fr_s fU17 rfl)) (fr_s fU19 rfl)
              · exact so_f (ws := [(246, [])]) (so_f (ws := [(246, [])]) (so_f (ws := [(246, [])]) (so_f (ws := [(246, [])]) (so_r) hf_115 ⟨fun _ => rfl, fun _ => rfl, fun _ => rfl⟩) fU16 ⟨fun _ => rfl, fun _ => rfl, fun _ => rfl⟩) fU17 ⟨fun _ => rfl, fun _ => rfl, fun _ => rfl⟩) fU19 ⟨fun _ => rfl, fun _ => rfl, fun _ => rfl⟩
              · exact sb1_f (ws := [(246, [])]) (sb1_f (ws := [(246, [])]) (sb1_f (ws := [(246, [])]) (sb1_f (ws := [(246, [])]) (sb1_m (c := bu + 4) hsb (by omega)) hf_115 ⟨fun _ => rfl, fun _ => rfl, fun _ => rfl⟩) fU16 ⟨fun _ => rfl, fun _ => rfl, fun _ => rfl⟩) fU17 ⟨fun _ => rfl, fun _ => rfl, fun _ => rfl⟩) fU19 ⟨fun _ => rfl, fun _ => rfl, fun _ => rfl⟩
            · refine hK 223 [some (vR 111 0), some (vI m), some (vI k), some (vI s), some (vI (T 205 0 (23 * T 230 0 m + 11))), some (vI v), some (vI (T1 246 0 (8 * m + (1 + s)))), some (vI (U19 246 0 (8 * m + (3 + s))))] [] U19 ?_
              refine j_drop [some (vR 111 0), some (vI m), some (vI k), some (vI s), none, none, none, none] (fun k v hk => ?_) rfl ?_
              · match k, hk with
                | 0, hk => exact hk
                | 1, hk => exact hk
                | 2, hk => exact hk
                | 3, hk => exact hk
                | 4, hk => cases hk
                | 5, hk => cases hk
                | 6, hk => cases hk
                | 7, hk => cases hk
                | k + 8, hk => cases hk
              refine c_223 U19 ?_
              · exact fr_t (fr_t (fr_t (fr_t (fr_0 _ _) (fr_s hf_115 rfl)) (fr_s fU16 rfl)) (fr_s fU17 rfl)) (fr_s fU19 rfl)
      · refine (show po_X11_playTennis T bu m k s T1 (none) from ?_)
        exact ⟨rfl, fr_t (fr_0 _ _) (fr_s hf_115 rfl), FM__f (ws := [(246, [])]) (hfm) hf_115 ⟨fun _ => rfl, fun _ => rfl, trivial⟩, so_f (ws := [(246, [])]) (so_r) hf_115 ⟨fun _ => rfl, fun _ => rfl, fun _ => rfl⟩, sb1_f (ws := [(246, [])]) (sb1_m (c := bu + 4) hsb (by omega)) hf_115 ⟨fun _ => rfl, fun _ => rfl, fun _ => rfl⟩⟩
  refine j_blx (F := fX11) tb_X11 (nn_ _) bk_X11_playTennis_0 bs_X11_playTennis_0 hz (fun K hK => ?_)
  refine And.intro (fun c27 => ?_) (fun c27 => ?_)
  · refine hK 55 _ [] T ?_
    refine j_blx (F := fX11) tb_X11 (nn_ _) bk_X11_playTennis_55 bs_X11_playTennis_55 hz (fun K hK => ?_)
    refine ix_i (by omega) ?_
    intro b28 b28b
    refine hK 64 _ [vI 11, vI (T 230 0 m), vR 111 0] T ?_
    refine j_callV (y := yX11_rule0) (Yc := zX11_rule0) (rest := []) [vI (T 230 0 m), vI 11] (ct_X11_rule0 (T := T) (by omega) (by omega)) cl_X11_321 (qd_c (by decide +kernel)) (nn_ _) rfl (rf_of rfl) (Nat.le_of_ble_eq_true rfl) (Nat.le_of_ble_eq_true rfl) (Nat.le_of_ble_eq_true rfl) rfl ?_
    rintro _ _ ⟨rfl, rfl⟩
    show J_ zX11_playTennis T (po_X11_playTennis T bu m k s) 0 0 67 _ [vI (T 205 0 (23 * (T 230 0 m) + 11))] T
    refine j_blx (F := fX11) tb_X11 (nn_ _) bk_X11_playTennis_67 bs_X11_playTennis_67 hz (fun K hK => ?_)
    refine rg_i (by omega) ?_
    refine rg_i (by omega) ?_
    refine hK 79 [some (vR 111 0), some (vI m), some (vI k), some (vI s), some (vI (T 205 0 (23 * (T 230 0 m) + 11))), none, none, none] [vI (1 + s), vI m, vR 111 0, vI (1 + s), vI m, vR 111 0] T ?_
    refine j_callV (y := yX11_liveOf) (Yc := zX11_liveOf) (rest := [vI (1 + s), vI m, vR 111 0]) [vI m, vI (1 + s)] (ct_X11_liveOf (T := T) (by omega) (by omega)) cl_X11_400 (qd_c (by decide +kernel)) (nn_ _) rfl (rf_of rfl) (Nat.le_of_ble_eq_true rfl) (Nat.le_of_ble_eq_true rfl) (Nat.le_of_ble_eq_true rfl) rfl ?_
    rintro _ _ ⟨rfl, rfl⟩
    show J_ zX11_playTennis T (po_X11_playTennis T bu m k s) 0 0 82 _ [vI (T 246 0 (8 * m + (1 + s))), vI (1 + s), vI m, vR 111 0] T
    refine j_blx (F := fX11) tb_X11 (nn_ _) bk_X11_playTennis_82 bs_X11_playTennis_82 hz (fun K hK => ?_)
    intro w29 w29b
    refine hK 84 _ [vI (wr_ ((T 246 0 (8 * m + (1 + s))) + 1)), vI (1 + s), vI m, vR 111 0] T ?_
    refine j_callV (y := yX11_setLive) (Yc := zX11_setLive) (rest := []) [vI m, vI (1 + s), vI (wr_ ((T 246 0 (8 * m + (1 + s))) + 1))] (ct_X11_setLive (T := T) (by omega) (by omega)) cl_X11_410 (qd_c (by decide +kernel)) (nn_ _) rfl (rf_of rfl) (Nat.le_of_ble_eq_true rfl) (Nat.le_of_ble_eq_true rfl) (Nat.le_of_ble_eq_true rfl) rfl ?_
    rintro U30 _ ⟨rfl, fU30, _⟩
    show J_ zX11_playTennis T (po_X11_playTennis T bu m k s) 0 0 87 _ [] U30
    refine j_blx (F := fX11) tb_X11 (nn_ _) bk_X11_playTennis_87 bs_X11_playTennis_87 hz (fun K hK => ?_)
    refine hK 90 _ [vI 3, vI m, vR 111 0] U30 ?_
    refine j_callV (y := yX11_liveOf) (Yc := zX11_liveOf) (rest := []) [vI m, vI 3] (ct_X11_liveOf (T := U30) (by omega) (by omega)) cl_X11_400 (qd_c (by decide +kernel)) (nn_ _) rfl (rf_of rfl) (Nat.le_of_ble_eq_true rfl) (Nat.le_of_ble_eq_true rfl) (Nat.le_of_ble_eq_true rfl) rfl ?_
    rintro _ _ ⟨rfl, rfl⟩
    show J_ zX11_playTennis T (po_X11_playTennis T bu m k s) 0 0 93 _ [vI (U30 246 0 (8 * m + 3))] U30
    refine j_blx (F := fX11) tb_X11 (nn_ _) bk_X11_playTennis_93 bs_X11_playTennis_93 hz (fun K hK => ?_)
    refine And.intro (fun c31 => ?_) (fun c31 => ?_)
    · refine hK 114 _ [] U30 ?_
      refine j_blx (F := fX11) tb_X11 (nn_ _) bk_X11_playTennis_114 bs_X11_playTennis_114 hz (fun K hK => ?_)
      refine hK 115 _ [vI 4] U30 ?_
      refine c_115 4 U30 ?_
      · exact fr_t (fr_0 _ _) (fr_s fU30 rfl)
    · refine hK 101 _ [vI 4, vI m, vR 111 0] U30 ?_
      refine j_callV (y := yX11_liveOf) (Yc := zX11_liveOf) (rest := []) [vI m, vI 4] (ct_X11_liveOf (T := U30) (by omega) (by omega)) cl_X11_400 (qd_c (by decide +kernel)) (nn_ _) rfl (rf_of rfl) (Nat.le_of_ble_eq_true rfl) (Nat.le_of_ble_eq_true rfl) (Nat.le_of_ble_eq_true rfl) rfl ?_
      rintro _ _ ⟨rfl, rfl⟩
      show J_ zX11_playTennis T (po_X11_playTennis T bu m k s) 0 0 104 _ [vI (U30 246 0 (8 * m + 4))] U30
      refine j_blx (F := fX11) tb_X11 (nn_ _) bk_X11_playTennis_104 bs_X11_playTennis_104 hz (fun K hK => ?_)
      refine And.intro (fun c32 => ?_) (fun c32 => ?_)
      · refine hK 114 _ [] U30 ?_
        refine j_blx (F := fX11) tb_X11 (nn_ _) bk_X11_playTennis_114 bs_X11_playTennis_114 hz (fun K hK => ?_)
        refine hK 115 _ [vI 4] U30 ?_
        refine c_115 4 U30 ?_
        · exact fr_t (fr_0 _ _) (fr_s fU30 rfl)
      · refine hK 115 _ [vI 7] U30 ?_
        refine c_115 7 U30 ?_
        · exact fr_t (fr_0 _ _) (fr_s fU30 rfl)
  · refine iy_i (by omega) (by omega) ?_
    refine x_nm (fun U33 hU33 => ?_)
    have e34 := up_f hU33
    refine And.intro (fun c35 => ?_) (fun c35 => ?_)
    · refine hK 27 [some (vR 111 0), some (vI m), some (vI k), some (vI s), none, none, none, none] [vI m, vR 236 0] U33 ?_
      refine j_blx (F := fX11) tb_X11 (nn_ _) bk_X11_playTennis_27 bs_X11_playTennis_27 hz (fun K hK => ?_)
      refine ix_i (by omega) ?_
      intro b36 b36b
      have e37 : U33 236 0 m = T 236 0 m := up_k hU33 (by exact Nat.ne_of_beq_eq_false rfl) 0 m
      rw [e37] at b36 b36b ⊢
      refine iy_i (by omega) (by omega) ?_
      refine x_nm (fun U38 hU38 => ?_)
      have e39 := up_f hU38
      refine And.intro (fun c40 => ?_) (fun c40 => ?_)
      · refine hK 47 _ [vI m, vR 237 0] U38 ?_
        refine j_blx (F := fX11) tb_X11 (nn_ _) bk_X11_playTennis_47 bs_X11_playTennis_47 hz (fun K hK => ?_)
        refine ix_i (by omega) ?_
        intro b41 b41b
        have e42 : U38 237 0 m = T 237 0 m := (up_k hU38 (by exact Nat.ne_of_beq_eq_false rfl) 0 m).trans (up_k hU33 (by exact Nat.ne_of_beq_eq_false rfl) 0 m)
        rw [e42] at b41 b41b ⊢
        refine iy_i (by omega) (by omega) ?_
        refine x_nm (fun U43 hU43 => ?_)
        have e44 := up_f hU43
        refine (show po_X11_playTennis T bu m k s U43 (none) from ?_)
        exact ⟨rfl, fr_u (fr_u (fr_u (fr_0 _ _) hU33 rfl) hU38 rfl) hU43 rfl, FM__f (ws := [(237, [])]) (FM__f (ws := [(236, [])]) (fm_w (hfm) hU33 (by decide)) (fr_u (fr_0 _ _) hU38 rfl) ⟨fun _ => rfl, fun _ => rfl, trivial⟩) (fr_u (fr_0 _ _) hU43 rfl) ⟨fun _ => rfl, fun _ => rfl, trivial⟩, so_1 (so_0 (so_f (ws := [(235, [])]) (so_r) (fr_u (fr_0 _ _) hU33 rfl) ⟨fun _ => rfl, fun _ => rfl, fun _ => rfl⟩) hU38) hU43, sb1_1 (sb1_0 (sb1_f (ws := [(235, [])]) (sb1_m (c := bu + 4) hsb (by omega)) (fr_u (fr_0 _ _) hU33 rfl) ⟨fun _ => rfl, fun _ => rfl, fun _ => rfl⟩) hU38 (by omega)) hU43 (by omega)⟩
      · refine hK 53 _ [vI 2, vI m, vR 237 0] U38 ?_
        refine j_blx (F := fX11) tb_X11 (nn_ _) bk_X11_playTennis_53 bs_X11_playTennis_53 hz (fun K hK => ?_)
        refine iy_i (by omega) (by omega) ?_
        refine x_nm (fun U45 hU45 => ?_)
        have e46 := up_f hU45
        refine (show po_X11_playTennis T bu m k s U45 (none) from ?_)
        exact ⟨rfl, fr_u (fr_u (fr_u (fr_0 _ _) hU33 rfl) hU38 rfl) hU45 rfl, FM__f (ws := [(237, [])]) (FM__f (ws := [(236, [])]) (fm_w (hfm) hU33 (by decide)) (fr_u (fr_0 _ _) hU38 rfl) ⟨fun _ => rfl, fun _ => rfl, trivial⟩) (fr_u (fr_0 _ _) hU45 rfl) ⟨fun _ => rfl, fun _ => rfl, trivial⟩, so_1 (so_0 (so_f (ws := [(235, [])]) (so_r) (fr_u (fr_0 _ _) hU33 rfl) ⟨fun _ => rfl, fun _ => rfl, fun _ => rfl⟩) hU38) hU45, sb1_1 (sb1_0 (sb1_f (ws := [(235, [])]) (sb1_m (c := bu + 4) hsb (by omega)) (fr_u (fr_0 _ _) hU33 rfl) ⟨fun _ => rfl, fun _ => rfl, fun _ => rfl⟩) hU38 (by omega)) hU45 (by omega)⟩
    · refine hK 33 _ [vI 2, vI m, vR 236 0] U33 ?_
      refine j_blx (F := fX11) tb_X11 (nn_ _) bk_X11_playTennis_33 bs_X11_playTennis_33 hz (fun K hK => ?_)
      refine iy_i (by omega) (by omega) ?_
      refine x_nm (fun U47 hU47 => ?_)
      have e48 := up_f hU47
      refine And.intro (fun c49 => ?_) (fun c49 => ?_)
      · refine hK 47 _ [vI m, vR 237 0] U47 ?_
        refine j_blx (F := fX11) tb_X11 (nn_ _) bk_X11_playTennis_47 bs_X11_playTennis_47 hz (fun K hK => ?_)
        refine ix_i (by omega) ?_
        intro b50 b50b
        have e51 : U47 237 0 m = T 237 0 m := (up_k hU47 (by exact Nat.ne_of_beq_eq_false rfl) 0 m).trans (up_k hU33 (by exact Nat.ne_of_beq_eq_false rfl) 0 m)
        rw [e51] at b50 b50b ⊢
        refine iy_i (by omega) (by omega) ?_
        refine x_nm (fun U52 hU52 => ?_)
        have e53 := up_f hU52
        refine (show po_X11_playTennis T bu m k s U52 (none) from ?_)
        exact ⟨rfl, fr_u (fr_u (fr_u (fr_0 _ _) hU33 rfl) hU47 rfl) hU52 rfl, FM__f (ws := [(237, [])]) (FM__f (ws := [(236, [])]) (fm_w (hfm) hU33 (by decide)) (fr_u (fr_0 _ _) hU47 rfl) ⟨fun _ => rfl, fun _ => rfl, trivial⟩) (fr_u (fr_0 _ _) hU52 rfl) ⟨fun _ => rfl, fun _ => rfl, trivial⟩, so_1 (so_0 (so_f (ws := [(235, [])]) (so_r) (fr_u (fr_0 _ _) hU33 rfl) ⟨fun _ => rfl, fun _ => rfl, fun _ => rfl⟩) hU47) hU52, sb1_1 (sb1_0 (sb1_f (ws := [(235, [])]) (sb1_m (c := bu + 4) hsb (by omega)) (fr_u (fr_0 _ _) hU33 rfl) ⟨fun _ => rfl, fun _ => rfl, fun _ => rfl⟩) hU47 (by omega)) hU52 (by omega)⟩
      · refine hK 53 _ [vI 2, vI m, vR 237 0] U47 ?_
        refine j_blx (F := fX11) tb_X11 (nn_ _) bk_X11_playTennis_53 bs_X11_playTennis_53 hz (fun K hK => ?_)
        refine iy_i (by omega) (by omega) ?_
        refine x_nm (fun U54 hU54 => ?_)
        have e55 := up_f hU54
        refine (show po_X11_playTennis T bu m k s U54 (none) from ?_)
        exact ⟨rfl, fr_u (fr_u (fr_u (fr_0 _ _) hU33 rfl) hU47 rfl) hU54 rfl, FM__f (ws := [(237, [])]) (FM__f (ws := [(236, [])]) (fm_w (hfm) hU33 (by decide)) (fr_u (fr_0 _ _) hU47 rfl) ⟨fun _ => rfl, fun _ => rfl, trivial⟩) (fr_u (fr_0 _ _) hU54 rfl) ⟨fun _ => rfl, fun _ => rfl, trivial⟩, so_1 (so_0 (so_f (ws := [(235, [])]) (so_r) (fr_u (fr_0 _ _) hU33 rfl) ⟨fun _ => rfl, fun _ => rfl, fun _ => rfl⟩) hU47) hU54, sb1_1 (sb1_0 (sb1_f (ws := [(235, [])]) (sb1_m (c := bu + 4) hsb (by omega)) (fr_u (fr_0 _ _) hU33 rfl) ⟨fun _ => rfl, fun _ => rfl, fun _ => rfl⟩) hU47 (by omega)) hU54 (by omega)⟩
abbrev cX11_turnSides : ByteArray := prog_13_method_65_code
def yX11_turnSides : MethodName := ⟨RX11, "turnSides", "(I)V"⟩
def zX11_turnSides : Zm := (RX11, cX11_turnSides, 4, none, { frames := 1, cells := 0, slots := 0, locals := 23 })
theorem bk_X11_turnSides_0 : ck_ fX11 none cX11_turnSides 0 [.aload 0, .iload 1, .iconst 3, .iconst 0] 4 = true := qck_r (nn_ _) (by decide +kernel)
theorem bs_X11_turnSides_0 {P : Zt → Option Zv → Prop} (K : Int → Zl → List Zv → Zt → Prop) : sx_ K P [.aload 0, .iload 1, .iconst 3, .iconst 0] 4 = x_aload 0 (x_iload 1 (x_iconst 3 (x_iconst 0 (K 4)))) := ((xe_aload 0).trans (congrArg (x_aload 0) ((xe_iload 1).trans (congrArg (x_iload 1) ((xe_iconst 3).trans (congrArg (x_iconst 3) ((xe_iconst 0).trans (congrArg (x_iconst 0) xe_nil))))))))
theorem bk_X11_turnSides_7 : ck_ fX11 none cX11_turnSides 7 [.aload 0, .iload 1, .iconst 4, .iconst 0] 11 = true := qck_r (nn_ _) (by decide +kernel)
theorem bs_X11_turnSides_7 {P : Zt → Option Zv → Prop} (K : Int → Zl → List Zv → Zt → Prop) : sx_ K P [.aload 0, .iload 1, .iconst 4, .iconst 0] 11 = x_aload 0 (x_iload 1 (x_iconst 4 (x_iconst 0 (K 11)))) := ((xe_aload 0).trans (congrArg (x_aload 0) ((xe_iload 1).trans (congrArg (x_iload 1) ((xe_iconst 4).trans (congrArg (x_iconst 4) ((xe_iconst 0).trans (congrArg (x_iconst 0) xe_nil))))))))
theorem bk_X11_turnSides_14 : ck_ fX11 none cX11_turnSides 14 [.aload 0, .aload 0, .tableswitch 0 11 30 #[], .iload 1, .iaload, .iconst 11] 23 = true := qck_r (nn_ _) (by decide +kernel)
theorem bs_X11_turnSides_14 {P : Zt → Option Zv → Prop} (K : Int → Zl → List Zv → Zt → Prop) : sx_ K P [.aload 0, .aload 0, .tableswitch 0 11 30 #[], .iload 1, .iaload, .iconst 11] 23 = x_aload 0 (x_aload 0 (x_g1 111 230 (x_iload 1 (x_iaload (x_iconst 11 (K 23)))))) := ((xe_aload 0).trans (congrArg (x_aload 0) ((xe_aload 0).trans (congrArg (x_aload 0) ((xe_g1 (kk := 111) rfl tl_11_30).trans (congrArg (x_g1 111 230) ((xe_iload 1).trans (congrArg (x_iload 1) ((xe_iaload).trans (congrArg (x_iaload) ((xe_iconst 11).trans (congrArg (x_iconst 11) xe_nil))))))))))))
theorem bk_X11_turnSides_26 : ck_ fX11 none cX11_turnSides 26 [.iconst 1, .fsub, .istore 2, .aload 0, .iload 1, .iconst 0] 32 = true := qck_r (nn_ _) (by decide +kernel)
theorem bs_X11_turnSides_26 {P : Zt → Option Zv → Prop} (K : Int → Zl → List Zv → Zt → Prop) : sx_ K P [.iconst 1, .fsub, .istore 2, .aload 0, .iload 1, .iconst 0] 32 = x_iconst 1 (x_fsub (x_istore 2 (x_aload 0 (x_iload 1 (x_iconst 0 (K 32)))))) := ((xe_iconst 1).trans (congrArg (x_iconst 1) ((xe_fsub).trans (congrArg (x_fsub) ((xe_istore 2).trans (congrArg (x_istore 2) ((xe_aload 0).trans (congrArg (x_aload 0) ((xe_iload 1).trans (congrArg (x_iload 1) ((xe_iconst 0).trans (congrArg (x_iconst 0) xe_nil))))))))))))
theorem bk_X11_turnSides_35 : ck_ fX11 none cX11_turnSides 35 [.istore 3, .aload 0, .iload 1, .iconst 5] 39 = true := qck_r (nn_ _) (by decide +kernel)
theorem bs_X11_turnSides_35 {P : Zt → Option Zv → Prop} (K : Int → Zl → List Zv → Zt → Prop) : sx_ K P [.istore 3, .aload 0, .iload 1, .iconst 5] 39 = x_istore 3 (x_aload 0 (x_iload 1 (x_iconst 5 (K 39)))) := ((xe_istore 3).trans (congrArg (x_istore 3) ((xe_aload 0).trans (congrArg (x_aload 0) ((xe_iload 1).trans (congrArg (x_iload 1) ((xe_iconst 5).trans (congrArg (x_iconst 5) xe_nil))))))))
theorem bk_X11_turnSides_42 : ck_ fX11 none cX11_turnSides 42 [.iconst 1, .if_icmp .ne 86, .iload 3, .iload 2, .if_icmp .lt 76, .aload 0, .tableswitch 0 11 36 #[], .iload 1, .iaload, .aload 0, .tableswitch 0 11 37 #[], .iload 1, .iaload, .if_icmp .le 76, .aload 0, .tableswitch 0 11 35 #[], .iload 1, .iconst 2, .iastore, .goto 140] 76 = true := qck_r (nn_ _) (by decide +kernel)
theorem bs_X11_turnSides_42 {P : Zt → Option Zv → Prop} (K : Int → Zl → List Zv → Zt → Prop) : sx_ K P [.iconst 1, .if_icmp .ne 86, .iload 3, .iload 2, .if_icmp .lt 76, .aload 0, .tableswitch 0 11 36 #[], .iload 1, .iaload, .aload 0, .tableswitch 0 11 37 #[], .iload 1, .iaload, .if_icmp .le 76, .aload 0, .tableswitch 0 11 35 #[], .iload 1, .iconst 2, .iastore, .goto 140] 76 = x_iconst 1 (x_if_icmp .ne 86 K (x_iload 3 (x_iload 2 (x_if_icmp .lt 76 K (x_aload 0 (x_g1 111 236 (x_iload 1 (x_iaload (x_aload 0 (x_g1 111 237 (x_iload 1 (x_iaload (x_if_icmp .le 76 K (x_aload 0 (x_g1 111 235 (x_iload 1 (x_iconst 2 (x_iastore (x_goto 140 K))))))))))))))))))) := ((xe_iconst 1).trans (congrArg (x_iconst 1) ((xe_if_icmp .ne 86).trans (congrArg (x_if_icmp .ne 86 K) ((xe_iload 3).trans (congrArg (x_iload 3) ((xe_iload 2).trans (congrArg (x_iload 2) ((xe_if_icmp .lt 76).trans (congrArg (x_if_icmp .lt 76 K) ((xe_aload 0).trans (congrArg (x_aload 0) ((xe_g1 (kk := 111) rfl tl_11_36).trans (congrArg (x_g1 111 236) ((xe_iload 1).trans (congrArg (x_iload 1) ((xe_iaload).trans (congrArg (x_iaload) ((xe_aload 0).trans (congrArg (x_aload 0) ((xe_g1 (kk := 111) rfl tl_11_37).trans (congrArg (x_g1 111 237) ((xe_iload 1).trans (congrArg (x_iload 1) ((xe_iaload).trans (congrArg (x_iaload) ((xe_if_icmp .le 76).trans (congrArg (x_if_icmp .le 76 K) ((xe_aload 0).trans (congrArg (x_aload 0) ((xe_g1 (kk := 111) rfl tl_11_35).trans (congrArg (x_g1 111 235) ((xe_iload 1).trans (congrArg (x_iload 1) ((xe_iconst 2).trans (congrArg (x_iconst 2) ((xe_iastore).trans (congrArg (x_iastore) (xe_goto 140)))))))))))))))))))))))))))))))))))))))
theorem bk_X11_turnSides_86 : ck_ fX11 none cX11_turnSides 86 [.iload 3, .iload 2, .if_icmp .lt 106, .aload 0, .tableswitch 0 11 36 #[], .iload 1, .iaload, .aload 0, .tableswitch 0 11 37 #[], .iload 1, .iaload, .if_icmp .ne 114, .iload 3, .iload 2, .iconst 20, .fadd, .if_icmp .ne 124, .aload 0, .tableswitch 0 11 35 #[], .iload 1, .iconst 2, .iastore, .goto 140] 124 = true := qck_r (nn_ _) (by decide +kernel)
theorem bs_X11_turnSides_86 {P : Zt → Option Zv → Prop} (K : Int → Zl → List Zv → Zt → Prop) : sx_ K P [.iload 3, .iload 2, .if_icmp .lt 106, .aload 0, .tableswitch 0 11 36 #[], .iload 1, .iaload, .aload 0, .tableswitch 0 11 37 #[], .iload 1, .iaload, .if_icmp .ne 114, .iload 3, .iload 2, .iconst 20, .fadd, .if_icmp .ne 124, .aload 0, .tableswitch 0 11 35 #[], .iload 1, .iconst 2, .iastore, .goto 140] 124 = x_iload 3 (x_iload 2 (x_if_icmp .lt 106 K (x_aload 0 (x_g1 111 236 (x_iload 1 (x_iaload (x_aload 0 (x_g1 111 237 (x_iload 1 (x_iaload (x_if_icmp .ne 114 K (x_iload 3 (x_iload 2 (x_iconst 20 (x_fadd (x_if_icmp .ne 124 K (x_aload 0 (x_g1 111 235 (x_iload 1 (x_iconst 2 (x_iastore (x_goto 140 K)))))))))))))))))))))) := ((xe_iload 3).trans (congrArg (x_iload 3) ((xe_iload 2).trans (congrArg (x_iload 2) ((xe_if_icmp .lt 106).trans (congrArg (x_if_icmp .lt 106 K) ((xe_aload 0).trans (congrArg (x_aload 0) ((xe_g1 (kk := 111) rfl tl_11_36).trans (congrArg (x_g1 111 236) ((xe_iload 1).trans (congrArg (x_iload 1) ((xe_iaload).trans (congrArg (x_iaload) ((xe_aload 0).trans (congrArg (x_aload 0) ((xe_g1 (kk := 111) rfl tl_11_37).trans (congrArg (x_g1 111 237) ((xe_iload 1).trans (congrArg (x_iload 1) ((xe_iaload).trans (congrArg (x_iaload) ((xe_if_icmp .ne 114).trans (congrArg (x_if_icmp .ne 114 K) ((xe_iload 3).trans (congrArg (x_iload 3) ((xe_iload 2).trans (congrArg (x_iload 2) ((xe_iconst 20).trans (congrArg (x_iconst 20) ((xe_fadd).trans (congrArg (x_fadd) ((xe_if_icmp .ne 124).trans (congrArg (x_if_icmp .ne 124 K) ((xe_aload 0).trans (congrArg (x_aload 0) ((xe_g1 (kk := 111) rfl tl_11_35).trans (congrArg (x_g1 111 235) ((xe_iload 1).trans (congrArg (x_iload 1) ((xe_iconst 2).trans (congrArg (x_iconst 2) ((xe_iastore).trans (congrArg (x_iastore) (xe_goto 140)))))))))))))))))))))))))))))))))))))))))))))
theorem bk_X11_turnSides_106 : ck_ fX11 none cX11_turnSides 106 [.iload 3, .iload 2, .iconst 20, .fadd, .if_icmp .ne 124, .aload 0, .tableswitch 0 11 35 #[], .iload 1, .iconst 2, .iastore, .goto 140] 124 = true := qck_r (nn_ _) (by decide +kernel)
theorem bs_X11_turnSides_106 {P : Zt → Option Zv → Prop} (K : Int → Zl → List Zv → Zt → Prop) : sx_ K P [.iload 3, .iload 2, .iconst 20, .fadd, .if_icmp .ne 124, .aload 0, .tableswitch 0 11 35 #[], .iload 1, .iconst 2, .iastore, .goto 140] 124 = x_iload 3 (x_iload 2 (x_iconst 20 (x_fadd (x_if_icmp .ne 124 K (x_aload 0 (x_g1 111 235 (x_iload 1 (x_iconst 2 (x_iastore (x_goto 140 K)))))))))) := ((xe_iload 3).trans (congrArg (x_iload 3) ((xe_iload 2).trans (congrArg (x_iload 2) ((xe_iconst 20).trans (congrArg (x_iconst 20) ((xe_fadd).trans (congrArg (x_fadd) ((xe_if_icmp .ne 124).trans (congrArg (x_if_icmp .ne 124 K) ((xe_aload 0).trans (congrArg (x_aload 0) ((xe_g1 (kk := 111) rfl tl_11_35).trans (congrArg (x_g1 111 235) ((xe_iload 1).trans (congrArg (x_iload 1) ((xe_iconst 2).trans (congrArg (x_iconst 2) ((xe_iastore).trans (congrArg (x_iastore) (xe_goto 140)))))))))))))))))))))
theorem bk_X11_turnSides_124 : ck_ fX11 none cX11_turnSides 124 [.aload 0, .iload 1, .iconst 0, .iload 3, .iconst 1, .fadd] 130 = true := qck_r (nn_ _) (by decide +kernel)
theorem bs_X11_turnSides_124 {P : Zt → Option Zv → Prop} (K : Int → Zl → List Zv → Zt → Prop) : sx_ K P [.aload 0, .iload 1, .iconst 0, .iload 3, .iconst 1, .fadd] 130 = x_aload 0 (x_iload 1 (x_iconst 0 (x_iload 3 (x_iconst 1 (x_fadd (K 130)))))) := ((xe_aload 0).trans (congrArg (x_aload 0) ((xe_iload 1).trans (congrArg (x_iload 1) ((xe_iconst 0).trans (congrArg (x_iconst 0) ((xe_iload 3).trans (congrArg (x_iload 3) ((xe_iconst 1).trans (congrArg (x_iconst 1) ((xe_fadd).trans (congrArg (x_fadd) xe_nil))))))))))))
theorem bk_X11_turnSides_133 : ck_ fX11 none cX11_turnSides 133 [.aload 0, .iload 1, .iconst 5, .iconst 1] 137 = true := qck_r (nn_ _) (by decide +kernel)
theorem bs_X11_turnSides_133 {P : Zt → Option Zv → Prop} (K : Int → Zl → List Zv → Zt → Prop) : sx_ K P [.aload 0, .iload 1, .iconst 5, .iconst 1] 137 = x_aload 0 (x_iload 1 (x_iconst 5 (x_iconst 1 (K 137)))) := ((xe_aload 0).trans (congrArg (x_aload 0) ((xe_iload 1).trans (congrArg (x_iload 1) ((xe_iconst 5).trans (congrArg (x_iconst 5) ((xe_iconst 1).trans (congrArg (x_iconst 1) xe_nil))))))))
theorem bk_X11_turnSides_140 : ck_ fX11 none cX11_turnSides 140 [.return_] 141 = true := qck_r (nn_ _) (by decide +kernel)
theorem bs_X11_turnSides_140 {P : Zt → Option Zv → Prop} (K : Int → Zl → List Zv → Zt → Prop) : sx_ K P [.return_] 141 = x_return_ P := (xe_return_)
theorem bk_X11_turnSides_114 : ck_ fX11 none cX11_turnSides 114 [.aload 0, .tableswitch 0 11 35 #[], .iload 1, .iconst 2, .iastore, .goto 140] 124 = true := qck_r (nn_ _) (by decide +kernel)
theorem bs_X11_turnSides_114 {P : Zt → Option Zv → Prop} (K : Int → Zl → List Zv → Zt → Prop) : sx_ K P [.aload 0, .tableswitch 0 11 35 #[], .iload 1, .iconst 2, .iastore, .goto 140] 124 = x_aload 0 (x_g1 111 235 (x_iload 1 (x_iconst 2 (x_iastore (x_goto 140 K))))) := ((xe_aload 0).trans (congrArg (x_aload 0) ((xe_g1 (kk := 111) rfl tl_11_35).trans (congrArg (x_g1 111 235) ((xe_iload 1).trans (congrArg (x_iload 1) ((xe_iconst 2).trans (congrArg (x_iconst 2) ((xe_iastore).trans (congrArg (x_iastore) (xe_goto 140)))))))))))
theorem bk_X11_turnSides_76 : ck_ fX11 none cX11_turnSides 76 [.aload 0, .iload 1, .iconst 5, .iconst 0] 80 = true := qck_r (nn_ _) (by decide +kernel)
theorem bs_X11_turnSides_76 {P : Zt → Option Zv → Prop} (K : Int → Zl → List Zv → Zt → Prop) : sx_ K P [.aload 0, .iload 1, .iconst 5, .iconst 0] 80 = x_aload 0 (x_iload 1 (x_iconst 5 (x_iconst 0 (K 80)))) := ((xe_aload 0).trans (congrArg (x_aload 0) ((xe_iload 1).trans (congrArg (x_iload 1) ((xe_iconst 5).trans (congrArg (x_iconst 5) ((xe_iconst 0).trans (congrArg (x_iconst 0) xe_nil))))))))
theorem bk_X11_turnSides_83 : ck_ fX11 none cX11_turnSides 83 [.goto 140] 86 = true := qck_r (nn_ _) (by decide +kernel)
theorem bs_X11_turnSides_83 {P : Zt → Option Zv → Prop} (K : Int → Zl → List Zv → Zt → Prop) : sx_ K P [.goto 140] 86 = x_goto 140 K := (xe_goto 140)
abbrev po_X11_turnSides (T : Zt) (m : Int) : Zt → Option Zv → Prop := fun T' r => r = none ∧ fr_ [(246, []), (235, [])] T T' ∧ (FM_ T')
set_option maxHeartbeats 4000000 in
theorem ct_X11_turnSides {T : Zt} {m : Int} (h1 : 0 ≤ m ∧ m < 400) (hfm : FM_ T) : Ct_ yX11_turnSides zX11_turnSides T [vR 111 0, vI m] (po_X11_turnSides T m) := by
  refine ct_of pn_11 rfl rfl (Nat.le_of_ble_eq_true rfl) (fun hT hav => ?_)
  have hr_m : -2147483648 ≤ m ∧ m ≤ 2147483647 := hav (vI m) (by simp)
  have hz : zX11_turnSides.2.2.2.1 = some .boolean → ∀ (T' : Zt) (x : Int), po_X11_turnSides T m T' (some (vI x)) → 0 ≤ x ∧ x ≤ 1 := fun h => by cases h
  show J_ zX11_turnSides T (po_X11_turnSides T m) 0 0 0 [some (vR 111 0), some (vI m), none, none] [] T
  refine j_blx (F := fX11) tb_X11 (nn_ _) bk_X11_turnSides_0 bs_X11_turnSides_0 hz (fun K hK => ?_)
  refine hK 4 _ [vI 0, vI 3, vI m, vR 111 0] T ?_
  refine j_callV (y := yX11_setLive) (Yc := zX11_setLive) (rest := []) [vI m, vI 3, vI 0] (ct_X11_setLive (T := T) (by omega) (by omega)) cl_X11_410 (qd_c (by decide +kernel)) (nn_ _) rfl (rf_of rfl) (Nat.le_of_ble_eq_true rfl) (Nat.le_of_ble_eq_true rfl) (Nat.le_of_ble_eq_true rfl) rfl ?_
  rintro U1 _ ⟨rfl, fU1, _⟩
  show J_ zX11_turnSides T (po_X11_turnSides T m) 0 0 7 _ [] U1
  refine j_blx (F := fX11) tb_X11 (nn_ _) bk_X11_turnSides_7 bs_X11_turnSides_7 hz (fun K hK => ?_)
  refine hK 11 _ [vI 0, vI 4, vI m, vR 111 0] U1 ?_
  refine j_callV (y := yX11_setLive) (Yc := zX11_setLive) (rest := []) [vI m, vI 4, vI 0] (ct_X11_setLive (T := U1) (by omega) (by omega)) cl_X11_410 (qd_c (by decide +kernel)) (nn_ _) rfl (rf_of rfl) (Nat.le_of_ble_eq_true rfl) (Nat.le_of_ble_eq_true rfl) (Nat.le_of_ble_eq_true rfl) rfl ?_
  rintro U2 _ ⟨rfl, fU2, _⟩
  show J_ zX11_turnSides T (po_X11_turnSides T m) 0 0 14 _ [] U2
  refine j_blx (F := fX11) tb_X11 (nn_ _) bk_X11_turnSides_14 bs_X11_turnSides_14 hz (fun K hK => ?_)
  refine ix_i (by omega) ?_
  intro b3 b3b
  have e4 : U2 230 0 m = T 230 0 m := (fU2 230 0 m rfl).trans (fU1 230 0 m rfl)
  rw [e4] at b3 b3b ⊢
  refine hK 23 _ [vI 11, vI (T 230 0 m), vR 111 0] U2 ?_
  refine j_callV (y := yX11_rule0) (Yc := zX11_rule0) (rest := []) [vI (T 230 0 m), vI 11] (ct_X11_rule0 (T := U2) (by omega) (by omega)) cl_X11_321 (qd_c (by decide +kernel)) (nn_ _) rfl (rf_of rfl) (Nat.le_of_ble_eq_true rfl) (Nat.le_of_ble_eq_true rfl) (Nat.le_of_ble_eq_true rfl) rfl ?_
  rintro _ _ ⟨rfl, rfl⟩
  have e5 : U2 205 0 (23 * (T 230 0 m) + 11) = T 205 0 (23 * (T 230 0 m) + 11) := (fU2 205 0 (23 * (T 230 0 m) + 11) rfl).trans (fU1 205 0 (23 * (T 230 0 m) + 11) rfl)
  show J_ zX11_turnSides T (po_X11_turnSides T m) 0 0 26 _ [vI (U2 205 0 (23 * (T 230 0 m) + 11))] U2
  refine j_blx (F := fX11) tb_X11 (nn_ _) bk_X11_turnSides_26 bs_X11_turnSides_26 hz (fun K hK => ?_)
  intro w6 w6b
  refine hK 32 [some (vR 111 0), some (vI m), some (vI (wr_ ((U2 205 0 (23 * (T 230 0 m) + 11)) - 1))), none] [vI 0, vI m, vR 111 0] U2 ?_
  refine j_callV (y := yX11_liveOf) (Yc := zX11_liveOf) (rest := []) [vI m, vI 0] (ct_X11_liveOf (T := U2) (by omega) (by omega)) cl_X11_400 (qd_c (by decide +kernel)) (nn_ _) rfl (rf_of rfl) (Nat.le_of_ble_eq_true rfl) (Nat.le_of_ble_eq_true rfl) (Nat.le_of_ble_eq_true rfl) rfl ?_
  rintro _ _ ⟨rfl, rfl⟩
  show J_ zX11_turnSides T (po_X11_turnSides T m) 0 0 35 _ [vI (U2 246 0 (8 * m + 0))] U2
  refine j_blx (F := fX11) tb_X11 (nn_ _) bk_X11_turnSides_35 bs_X11_turnSides_35 hz (fun K hK => ?_)
  refine hK 39 [some (vR 111 0), some (vI m), some (vI (wr_ ((U2 205 0 (23 * (T 230 0 m) + 11)) - 1))), some (vI (U2 246 0 (8 * m + 0)))] [vI 5, vI m, vR 111 0] U2 ?_
  refine j_callV (y := yX11_liveOf) (Yc := zX11_liveOf) (rest := []) [vI m, vI 5] (ct_X11_liveOf (T := U2) (by omega) (by omega)) cl_X11_400 (qd_c (by decide +kernel)) (nn_ _) rfl (rf_of rfl) (Nat.le_of_ble_eq_true rfl) (Nat.le_of_ble_eq_true rfl) (Nat.le_of_ble_eq_true rfl) rfl ?_
  rintro _ _ ⟨rfl, rfl⟩
  show J_ zX11_turnSides T (po_X11_turnSides T m) 0 0 42 _ [vI (U2 246 0 (8 * m + 5))] U2
  refine j_blx (F := fX11) tb_X11 (nn_ _) bk_X11_turnSides_42 bs_X11_turnSides_42 hz (fun K hK => ?_)
  refine And.intro (fun c7 => ?_) (fun c7 => ?_)
  · refine hK 86 _ [] U2 ?_
    refine j_blx (F := fX11) tb_X11 (nn_ _) bk_X11_turnSides_86 bs_X11_turnSides_86 hz (fun K hK => ?_)
    refine And.intro (fun c8 => ?_) (fun c8 => ?_)
    · refine hK 106 _ [] U2 ?_
      refine j_blx (F := fX11) tb_X11 (nn_ _) bk_X11_turnSides_106 bs_X11_turnSides_106 hz (fun K hK => ?_)
      intro w9 w9b
      refine And.intro (fun c10 => ?_) (fun c10 => ?_)
      · refine hK 124 _ [] U2 ?_
        refine j_blx (F := fX11) tb_X11 (nn_ _) bk_X11_turnSides_124 bs_X11_turnSides_124 hz (fun K hK => ?_)
        intro w11 w11b
        refine hK 130 _ [vI (wr_ ((U2 246 0 (8 * m + 0)) + 1)), vI 0, vI m, vR 111 0] U2 ?_
        refine j_callV (y := yX11_setLive) (Yc := zX11_setLive) (rest := []) [vI m, vI 0, vI (wr_ ((U2 246 0 (8 * m + 0)) + 1))] (ct_X11_setLive (T := U2) (by omega) (by omega)) cl_X11_410 (qd_c (by decide +kernel)) (nn_ _) rfl (rf_of rfl) (Nat.le_of_ble_eq_true rfl) (Nat.le_of_ble_eq_true rfl) (Nat.le_of_ble_eq_true rfl) rfl ?_
        rintro U12 _ ⟨rfl, fU12, _⟩
        show J_ zX11_turnSides T (po_X11_turnSides T m) 0 0 133 _ [] U12
        refine j_blx (F := fX11) tb_X11 (nn_ _) bk_X11_turnSides_133 bs_X11_turnSides_133 hz (fun K hK => ?_)
        refine hK 137 _ [vI 1, vI 5, vI m, vR 111 0] U12 ?_
        refine j_callV (y := yX11_setLive) (Yc := zX11_setLive) (rest := []) [vI m, vI 5, vI 1] (ct_X11_setLive (T := U12) (by omega) (by omega)) cl_X11_410 (qd_c (by decide +kernel)) (nn_ _) rfl (rf_of rfl) (Nat.le_of_ble_eq_true rfl) (Nat.le_of_ble_eq_true rfl) (Nat.le_of_ble_eq_true rfl) rfl ?_
        rintro U13 _ ⟨rfl, fU13, _⟩
        show J_ zX11_turnSides T (po_X11_turnSides T m) 0 0 140 _ [] U13
        refine j_blx (F := fX11) tb_X11 (nn_ _) bk_X11_turnSides_140 bs_X11_turnSides_140 hz (fun K hK => ?_)
        refine (show po_X11_turnSides T m U13 (none) from ?_)
        exact ⟨rfl, fr_t (fr_t (fr_t (fr_t (fr_0 _ _) (fr_s fU1 rfl)) (fr_s fU2 rfl)) (fr_s fU12 rfl)) (fr_s fU13 rfl), FM__f (ws := [(246, [])]) (FM__f (ws := [(246, [])]) (FM__f (ws := [(246, [])]) (FM__f (ws := [(246, [])]) (hfm) fU1 ⟨fun _ => rfl, fun _ => rfl, trivial⟩) fU2 ⟨fun _ => rfl, fun _ => rfl, trivial⟩) fU12 ⟨fun _ => rfl, fun _ => rfl, trivial⟩) fU13 ⟨fun _ => rfl, fun _ => rfl, trivial⟩⟩
      · refine iy_i (by omega) (by omega) ?_
        refine x_nm (fun U14 hU14 => ?_)
        have e15 := up_f hU14
        refine hK 140 _ [] U14 ?_
        refine j_blx (F := fX11) tb_X11 (nn_ _) bk_X11_turnSides_140 bs_X11_turnSides_140 hz (fun K hK => ?_)
        refine (show po_X11_turnSides T m U14 (none) from ?_)
        exact ⟨rfl, fr_u (fr_t (fr_t (fr_0 _ _) (fr_s fU1 rfl)) (fr_s fU2 rfl)) hU14 rfl, fm_w (FM__f (ws := [(246, [])]) (FM__f (ws := [(246, [])]) (hfm) fU1 ⟨fun _ => rfl, fun _ => rfl, trivial⟩) fU2 ⟨fun _ => rfl, fun _ => rfl, trivial⟩) hU14 (by decide)⟩
    · refine ix_i (by omega) ?_
      intro b16 b16b
      have e17 : U2 236 0 m = T 236 0 m := (fU2 236 0 m rfl).trans (fU1 236 0 m rfl)
      rw [e17] at b16 b16b ⊢
      refine ix_i (by omega) ?_
      intro b18 b18b
      have e19 : U2 237 0 m = T 237 0 m := (fU2 237 0 m rfl).trans (fU1 237 0 m rfl)
      rw [e19] at b18 b18b ⊢
      refine And.intro (fun c20 => ?_) (fun c20 => ?_)
      · refine hK 114 _ [] U2 ?_
        refine j_blx (F := fX11) tb_X11 (nn_ _) bk_X11_turnSides_114 bs_X11_turnSides_114 hz (fun K hK => ?_)
        refine iy_i (by omega) (by omega) ?_
        refine x_nm (fun U21 hU21 => ?_)
        have e22 := up_f hU21
        refine hK 140 _ [] U21 ?_
        refine j_blx (F := fX11) tb_X11 (nn_ _) bk_X11_turnSides_140 bs_X11_turnSides_140 hz (fun K hK => ?_)
        refine (show po_X11_turnSides T m U21 (none) from ?_)
        exact ⟨rfl, fr_u (fr_t (fr_t (fr_0 _ _) (fr_s fU1 rfl)) (fr_s fU2 rfl)) hU21 rfl, fm_w (FM__f (ws := [(246, [])]) (FM__f (ws := [(246, [])]) (hfm) fU1 ⟨fun _ => rfl, fun _ => rfl, trivial⟩) fU2 ⟨fun _ => rfl, fun _ => rfl, trivial⟩) hU21 (by decide)⟩
      · intro w23 w23b
        refine And.intro (fun c24 => ?_) (fun c24 => ?_)
        · refine hK 124 _ [] U2 ?_
          refine j_blx (F := fX11) tb_X11 (nn_ _) bk_X11_turnSides_124 bs_X11_turnSides_124 hz (fun K hK => ?_)
          intro w25 w25b
          refine hK 130 _ [vI (wr_ ((U2 246 0 (8 * m + 0)) + 1)), vI 0, vI m, vR 111 0] U2 ?_
          refine j_callV (y := yX11_setLive) (Yc := zX11_setLive) (rest := []) [vI m, vI 0, vI (wr_ ((U2 246 0 (8 * m + 0)) + 1))] (ct_X11_setLive (T := U2) (by omega) (by omega)) cl_X11_410 (qd_c (by decide +kernel)) (nn_ _) rfl (rf_of rfl) (Nat.le_of_ble_eq_true rfl) (Nat.le_of_ble_eq_true rfl) (Nat.le_of_ble_eq_true rfl) rfl ?_
          rintro U26 _ ⟨rfl, fU26, _⟩
          show J_ zX11_turnSides T (po_X11_turnSides T m) 0 0 133 _ [] U26
          refine j_blx (F := fX11) tb_X11 (nn_ _) bk_X11_turnSides_133 bs_X11_turnSides_133 hz (fun K hK => ?_)
          refine hK 137 _ [vI 1, vI 5, vI m, vR 111 0] U26 ?_
          refine j_callV (y := yX11_setLive) (Yc := zX11_setLive) (rest := []) [vI m, vI 5, vI 1] (ct_X11_setLive (T := U26) (by omega) (by omega)) cl_X11_410 (qd_c (by decide +kernel)) (nn_ _) rfl (rf_of rfl) (Nat.le_of_ble_eq_true rfl) (Nat.le_of_ble_eq_true rfl) (Nat.le_of_ble_eq_true rfl) rfl ?_
          rintro U27 _ ⟨rfl, fU27, _⟩
          show J_ zX11_turnSides T (po_X11_turnSides T m) 0 0 140 _ [] U27
          refine j_blx (F := fX11) tb_X11 (nn_ _) bk_X11_turnSides_140 bs_X11_turnSides_140 hz (fun K hK => ?_)
          refine (show po_X11_turnSides T m U27 (none) from ?_)
          exact ⟨rfl, fr_t (fr_t (fr_t (fr_t (fr_0 _ _) (fr_s fU1 rfl)) (fr_s fU2 rfl)) (fr_s fU26 rfl)) (fr_s fU27 rfl), FM__f (ws := [(246, [])]) (FM__f (ws := [(246, [])]) (FM__f (ws := [(246, [])]) (FM__f (ws := [(246, [])]) (hfm) fU1 ⟨fun _ => rfl, fun _ => rfl, trivial⟩) fU2 ⟨fun _ => rfl, fun _ => rfl, trivial⟩) fU26 ⟨fun _ => rfl, fun _ => rfl, trivial⟩) fU27 ⟨fun _ => rfl, fun _ => rfl, trivial⟩⟩
        · refine iy_i (by omega) (by omega) ?_
          refine x_nm (fun U28 hU28 => ?_)
          have e29 := up_f hU28
          refine hK 140 _ [] U28 ?_
          refine j_blx (F := fX11) tb_X11 (nn_ _) bk_X11_turnSides_140 bs_X11_turnSides_140 hz (fun K hK => ?_)
          refine (show po_X11_turnSides T m U28 (none) from ?_)
          exact ⟨rfl, fr_u (fr_t (fr_t (fr_0 _ _) (fr_s fU1 rfl)) (fr_s fU2 rfl)) hU28 rfl, fm_w (FM__f (ws := [(246, [])]) (FM__f (ws := [(246, [])]) (hfm) fU1 ⟨fun _ => rfl, fun _ => rfl, trivial⟩) fU2 ⟨fun _ => rfl, fun _ => rfl, trivial⟩) hU28 (by decide)⟩
  · refine And.intro (fun c30 => ?_) (fun c30 => ?_)
    · refine hK 76 _ [] U2 ?_
      refine j_blx (F := fX11) tb_X11 (nn_ _) bk_X11_turnSides_76 bs_X11_turnSides_76 hz (fun K hK => ?_)
      refine hK 80 _ [vI 0, vI 5, vI m, vR 111 0] U2 ?_
      refine j_callV (y := yX11_setLive) (Yc := zX11_setLive) (rest := []) [vI m, vI 5, vI 0] (ct_X11_setLive (T := U2) (by omega) (by omega)) cl_X11_410 (qd_c (by decide +kernel)) (nn_ _) rfl (rf_of rfl) (Nat.le_of_ble_eq_true rfl) (Nat.le_of_ble_eq_true rfl) (Nat.le_of_ble_eq_true rfl) rfl ?_
      rintro U31 _ ⟨rfl, fU31, _⟩
      show J_ zX11_turnSides T (po_X11_turnSides T m) 0 0 83 _ [] U31
      refine j_blx (F := fX11) tb_X11 (nn_ _) bk_X11_turnSides_83 bs_X11_turnSides_83 hz (fun K hK => ?_)
      refine hK 140 _ [] U31 ?_
      refine j_blx (F := fX11) tb_X11 (nn_ _) bk_X11_turnSides_140 bs_X11_turnSides_140 hz (fun K hK => ?_)
      refine (show po_X11_turnSides T m U31 (none) from ?_)
      exact ⟨rfl, fr_t (fr_t (fr_t (fr_0 _ _) (fr_s fU1 rfl)) (fr_s fU2 rfl)) (fr_s fU31 rfl), FM__f (ws := [(246, [])]) (FM__f (ws := [(246, [])]) (FM__f (ws := [(246, [])]) (hfm) fU1 ⟨fun _ => rfl, fun _ => rfl, trivial⟩) fU2 ⟨fun _ => rfl, fun _ => rfl, trivial⟩) fU31 ⟨fun _ => rfl, fun _ => rfl, trivial⟩⟩
    · refine ix_i (by omega) ?_
      intro b32 b32b
      have e33 : U2 236 0 m = T 236 0 m := (fU2 236 0 m rfl).trans (fU1 236 0 m rfl)
      rw [e33] at b32 b32b ⊢
      refine ix_i (by omega) ?_
      intro b34 b34b
      have e35 : U2 237 0 m = T 237 0 m := (fU2 237 0 m rfl).trans (fU1 237 0 m rfl)
      rw [e35] at b34 b34b ⊢
      refine And.intro (fun c36 => ?_) (fun c36 => ?_)
      · refine hK 76 _ [] U2 ?_
        refine j_blx (F := fX11) tb_X11 (nn_ _) bk_X11_turnSides_76 bs_X11_turnSides_76 hz (fun K hK => ?_)
        refine hK 80 _ [vI 0, vI 5, vI m, vR 111 0] U2 ?_
        refine j_callV (y := yX11_setLive) (Yc := zX11_setLive) (rest := []) [vI m, vI 5, vI 0] (ct_X11_setLive (T := U2) (by omega) (by omega)) cl_X11_410 (qd_c (by decide +kernel)) (nn_ _) rfl (rf_of rfl) (Nat.le_of_ble_eq_true rfl) (Nat.le_of_ble_eq_true rfl) (Nat.le_of_ble_eq_true rfl) rfl ?_
        rintro U37 _ ⟨rfl, fU37, _⟩
        show J_ zX11_turnSides T (po_X11_turnSides T m) 0 0 83 _ [] U37
        refine j_blx (F := fX11) tb_X11 (nn_ _) bk_X11_turnSides_83 bs_X11_turnSides_83 hz (fun K hK => ?_)
        refine hK 140 _ [] U37 ?_
        refine j_blx (F := fX11) tb_X11 (nn_ _) bk_X11_turnSides_140 bs_X11_turnSides_140 hz (fun K hK => ?_)
        refine (show po_X11_turnSides T m U37 (none) from ?_)
        exact ⟨rfl, fr_t (fr_t (fr_t (fr_0 _ _) (fr_s fU1 rfl)) (fr_s fU2 rfl)) (fr_s fU37 rfl), FM__f (ws := [(246, [])]) (FM__f (ws := [(246, [])]) (FM__f (ws := [(246, [])]) (hfm) fU1 ⟨fun _ => rfl, fun _ => rfl, trivial⟩) fU2 ⟨fun _ => rfl, fun _ => rfl, trivial⟩) fU37 ⟨fun _ => rfl, fun _ => rfl, trivial⟩⟩
      · refine iy_i (by omega) (by omega) ?_
        refine x_nm (fun U38 hU38 => ?_)
        have e39 := up_f hU38
        refine hK 140 _ [] U38 ?_
        refine j_blx (F := fX11) tb_X11 (nn_ _) bk_X11_turnSides_140 bs_X11_turnSides_140 hz (fun K hK => ?_)
        refine (show po_X11_turnSides T m U38 (none) from ?_)
        exact ⟨rfl, fr_u (fr_t (fr_t (fr_0 _ _) (fr_s fU1 rfl)) (fr_s fU2 rfl)) hU38 rfl, fm_w (FM__f (ws := [(246, [])]) (FM__f (ws := [(246, [])]) (hfm) fU1 ⟨fun _ => rfl, fun _ => rfl, trivial⟩) fU2 ⟨fun _ => rfl, fun _ => rfl, trivial⟩) hU38 (by decide)⟩
abbrev cX11_out : ByteArray := prog_13_method_66_code
def yX11_out : MethodName := ⟨RX11, "out", "(I)V"⟩
def zX11_out : Zm := (RX11, cX11_out, 2, none, { frames := 2, cells := 0, slots := 0, locals := 46 })
theorem bk_X11_out_0 : ck_ fX11 none cX11_out 0 [.aload 0, .iload 1, .iconst 1, .iconst 0] 4 = true := qck_r (nn_ _) (by decide +kernel)
theorem bs_X11_out_0 {P : Zt → Option Zv → Prop} (K : Int → Zl → List Zv → Zt → Prop) : sx_ K P [.aload 0, .iload 1, .iconst 1, .iconst 0] 4 = x_aload 0 (x_iload 1 (x_iconst 1 (x_iconst 0 (K 4)))) := ((xe_aload 0).trans (congrArg (x_aload 0) ((xe_iload 1).trans (congrArg (x_iload 1) ((xe_iconst 1).trans (congrArg (x_iconst 1) ((xe_iconst 0).trans (congrArg (x_iconst 0) xe_nil))))))))
theorem bk_X11_out_7 : ck_ fX11 none cX11_out 7 [.aload 0, .iload 1, .iconst 2, .iconst 0] 11 = true := qck_r (nn_ _) (by decide +kernel)
theorem bs_X11_out_7 {P : Zt → Option Zv → Prop} (K : Int → Zl → List Zv → Zt → Prop) : sx_ K P [.aload 0, .iload 1, .iconst 2, .iconst 0] 11 = x_aload 0 (x_iload 1 (x_iconst 2 (x_iconst 0 (K 11)))) := ((xe_aload 0).trans (congrArg (x_aload 0) ((xe_iload 1).trans (congrArg (x_iload 1) ((xe_iconst 2).trans (congrArg (x_iconst 2) ((xe_iconst 0).trans (congrArg (x_iconst 0) xe_nil))))))))
theorem bk_X11_out_14 : ck_ fX11 none cX11_out 14 [.aload 0, .iload 1, .iconst 3, .aload 0, .iload 1, .iconst 3] 20 = true := qck_r (nn_ _) (by decide +kernel)
theorem bs_X11_out_14 {P : Zt → Option Zv → Prop} (K : Int → Zl → List Zv → Zt → Prop) : sx_ K P [.aload 0, .iload 1, .iconst 3, .aload 0, .iload 1, .iconst 3] 20 = x_aload 0 (x_iload 1 (x_iconst 3 (x_aload 0 (x_iload 1 (x_iconst 3 (K 20)))))) := ((xe_aload 0).trans (congrArg (x_aload 0) ((xe_iload 1).trans (congrArg (x_iload 1) ((xe_iconst 3).trans (congrArg (x_iconst 3) ((xe_aload 0).trans (congrArg (x_aload 0) ((xe_iload 1).trans (congrArg (x_iload 1) ((xe_iconst 3).trans (congrArg (x_iconst 3) xe_nil))))))))))))
theorem bk_X11_out_23 : ck_ fX11 none cX11_out 23 [.iconst 1, .fadd] 25 = true := qck_r (nn_ _) (by decide +kernel)
theorem bs_X11_out_23 {P : Zt → Option Zv → Prop} (K : Int → Zl → List Zv → Zt → Prop) : sx_ K P [.iconst 1, .fadd] 25 = x_iconst 1 (x_fadd (K 25)) := ((xe_iconst 1).trans (congrArg (x_iconst 1) ((xe_fadd).trans (congrArg (x_fadd) xe_nil))))
theorem bk_X11_out_28 : ck_ fX11 none cX11_out 28 [.aload 0, .iload 1, .iconst 3] 31 = true := qck_r (nn_ _) (by decide +kernel)
theorem bs_X11_out_28 {P : Zt → Option Zv → Prop} (K : Int → Zl → List Zv → Zt → Prop) : sx_ K P [.aload 0, .iload 1, .iconst 3] 31 = x_aload 0 (x_iload 1 (x_iconst 3 (K 31))) := ((xe_aload 0).trans (congrArg (x_aload 0) ((xe_iload 1).trans (congrArg (x_iload 1) ((xe_iconst 3).trans (congrArg (x_iconst 3) xe_nil))))))
theorem bk_X11_out_34 : ck_ fX11 none cX11_out 34 [.iconst 3, .if_icmp .ne 43, .aload 0, .iload 1] 40 = true := qck_r (nn_ _) (by decide +kernel)
theorem bs_X11_out_34 {P : Zt → Option Zv → Prop} (K : Int → Zl → List Zv → Zt → Prop) : sx_ K P [.iconst 3, .if_icmp .ne 43, .aload 0, .iload 1] 40 = x_iconst 3 (x_if_icmp .ne 43 K (x_aload 0 (x_iload 1 (K 40)))) := ((xe_iconst 3).trans (congrArg (x_iconst 3) ((xe_if_icmp .ne 43).trans (congrArg (x_if_icmp .ne 43 K) ((xe_aload 0).trans (congrArg (x_aload 0) ((xe_iload 1).trans (congrArg (x_iload 1) xe_nil))))))))
theorem bk_X11_out_43 : ck_ fX11 none cX11_out 43 [.return_] 44 = true := qck_r (nn_ _) (by decide +kernel)
theorem bs_X11_out_43 {P : Zt → Option Zv → Prop} (K : Int → Zl → List Zv → Zt → Prop) : sx_ K P [.return_] 44 = x_return_ P := (xe_return_)
set_option maxRecDepth 100000 in
theorem cl_X11_429 : cv_ RX11 429 yX11_turnSides zX11_turnSides 11 1 := ⟨gi_V (lw_b9 130 (by decide +kernel) rfl : Cond.methodLink RX11 429 yX11_turnSides ∈ lw_g) (lw_b9 132 (by decide +kernel) rfl : Cond.instanceMethod yX11_turnSides ∈ lw_g) (lw_sel 76 rfl : Cond.selects yX11_turnSides.cls yX11_turnSides yX11_turnSides ∈ lw_g) (lw_b1 10 (by decide +kernel) rfl : Cond.initialized yX11_turnSides.cls ∈ lw_g) (lw_b9 133 rfl rfl : Cond.code yX11_turnSides cX11_turnSides 4 none ∈ lw_g), ⟨by decide, by decide, by decide +kernel⟩, ⟨_, _, rfl⟩⟩
abbrev po_X11_out (T : Zt) (m : Int) : Zt → Option Zv → Prop := fun T' r => r = none ∧ fr_ [(246, []), (235, [])] T T' ∧ (FM_ T')
set_option maxHeartbeats 4000000 in
theorem ct_X11_out {T : Zt} {m : Int} (h1 : 0 ≤ m ∧ m < 400) (hfm : FM_ T) : Ct_ yX11_out zX11_out T [vR 111 0, vI m] (po_X11_out T m) := by
  refine ct_of pn_11 rfl rfl (Nat.le_of_ble_eq_true rfl) (fun hT hav => ?_)
  have hr_m : -2147483648 ≤ m ∧ m ≤ 2147483647 := hav (vI m) (by simp)
  have hz : zX11_out.2.2.2.1 = some .boolean → ∀ (T' : Zt) (x : Int), po_X11_out T m T' (some (vI x)) → 0 ≤ x ∧ x ≤ 1 := fun h => by cases h
  show J_ zX11_out T (po_X11_out T m) 0 0 0 [some (vR 111 0), some (vI m)] [] T
  refine j_blx (F := fX11) tb_X11 (nn_ _) bk_X11_out_0 bs_X11_out_0 hz (fun K hK => ?_)
  refine hK 4 _ [vI 0, vI 1, vI m, vR 111 0] T ?_
  refine j_callV (y := yX11_setLive) (Yc := zX11_setLive) (rest := []) [vI m, vI 1, vI 0] (ct_X11_setLive (T := T) (by omega) (by omega)) cl_X11_410 (qd_c (by decide +kernel)) (nn_ _) rfl (rf_of rfl) (Nat.le_of_ble_eq_true rfl) (Nat.le_of_ble_eq_true rfl) (Nat.le_of_ble_eq_true rfl) rfl ?_
  rintro U1 _ ⟨rfl, fU1, _⟩
  show J_ zX11_out T (po_X11_out T m) 0 0 7 _ [] U1
  refine j_blx (F := fX11) tb_X11 (nn_ _) bk_X11_out_7 bs_X11_out_7 hz (fun K hK => ?_)
  refine hK 11 _ [vI 0, vI 2, vI m, vR 111 0] U1 ?_
  refine j_callV (y := yX11_setLive) (Yc := zX11_setLive) (rest := []) [vI m, vI 2, vI 0] (ct_X11_setLive (T := U1) (by omega) (by omega)) cl_X11_410 (qd_c (by decide +kernel)) (nn_ _) rfl (rf_of rfl) (Nat.le_of_ble_eq_true rfl) (Nat.le_of_ble_eq_true rfl) (Nat.le_of_ble_eq_true rfl) rfl ?_
  rintro U2 _ ⟨rfl, fU2, _⟩
  show J_ zX11_out T (po_X11_out T m) 0 0 14 _ [] U2
  refine j_blx (F := fX11) tb_X11 (nn_ _) bk_X11_out_14 bs_X11_out_14 hz (fun K hK => ?_)
  refine hK 20 _ [vI 3, vI m, vR 111 0, vI 3, vI m, vR 111 0] U2 ?_
  refine j_callV (y := yX11_liveOf) (Yc := zX11_liveOf) (rest := [vI 3, vI m, vR 111 0]) [vI m, vI 3] (ct_X11_liveOf (T := U2) (by omega) (by omega)) cl_X11_400 (qd_c (by decide +kernel)) (nn_ _) rfl (rf_of rfl) (Nat.le_of_ble_eq_true rfl) (Nat.le_of_ble_eq_true rfl) (Nat.le_of_ble_eq_true rfl) rfl ?_
  rintro _ _ ⟨rfl, rfl⟩
  show J_ zX11_out T (po_X11_out T m) 0 0 23 _ [vI (U2 246 0 (8 * m + 3)), vI 3, vI m, vR 111 0] U2
  refine j_blx (F := fX11) tb_X11 (nn_ _) bk_X11_out_23 bs_X11_out_23 hz (fun K hK => ?_)
  intro w3 w3b
  refine hK 25 _ [vI (wr_ ((U2 246 0 (8 * m + 3)) + 1)), vI 3, vI m, vR 111 0] U2 ?_
  refine j_callV (y := yX11_setLive) (Yc := zX11_setLive) (rest := []) [vI m, vI 3, vI (wr_ ((U2 246 0 (8 * m + 3)) + 1))] (ct_X11_setLive (T := U2) (by omega) (by omega)) cl_X11_410 (qd_c (by decide +kernel)) (nn_ _) rfl (rf_of rfl) (Nat.le_of_ble_eq_true rfl) (Nat.le_of_ble_eq_true rfl) (Nat.le_of_ble_eq_true rfl) rfl ?_
  rintro U4 _ ⟨rfl, fU4, _⟩
  show J_ zX11_out T (po_X11_out T m) 0 0 28 _ [] U4
  refine j_blx (F := fX11) tb_X11 (nn_ _) bk_X11_out_28 bs_X11_out_28 hz (fun K hK => ?_)
  refine hK 31 _ [vI 3, vI m, vR 111 0] U4 ?_
  refine j_callV (y := yX11_liveOf) (Yc := zX11_liveOf) (rest := []) [vI m, vI 3] (ct_X11_liveOf (T := U4) (by omega) (by omega)) cl_X11_400 (qd_c (by decide +kernel)) (nn_ _) rfl (rf_of rfl) (Nat.le_of_ble_eq_true rfl) (Nat.le_of_ble_eq_true rfl) (Nat.le_of_ble_eq_true rfl) rfl ?_
  rintro _ _ ⟨rfl, rfl⟩
  show J_ zX11_out T (po_X11_out T m) 0 0 34 _ [vI (U4 246 0 (8 * m + 3))] U4
  refine j_blx (F := fX11) tb_X11 (nn_ _) bk_X11_out_34 bs_X11_out_34 hz (fun K hK => ?_)
  refine And.intro (fun c5 => ?_) (fun c5 => ?_)
  · refine hK 43 _ [] U4 ?_
    refine j_blx (F := fX11) tb_X11 (nn_ _) bk_X11_out_43 bs_X11_out_43 hz (fun K hK => ?_)
    refine (show po_X11_out T m U4 (none) from ?_)
    exact ⟨rfl, fr_t (fr_t (fr_t (fr_0 _ _) (fr_s fU1 rfl)) (fr_s fU2 rfl)) (fr_s fU4 rfl), FM__f (ws := [(246, [])]) (FM__f (ws := [(246, [])]) (FM__f (ws := [(246, [])]) (hfm) fU1 ⟨fun _ => rfl, fun _ => rfl, trivial⟩) fU2 ⟨fun _ => rfl, fun _ => rfl, trivial⟩) fU4 ⟨fun _ => rfl, fun _ => rfl, trivial⟩⟩
  · refine hK 40 _ [vI m, vR 111 0] U4 ?_
    refine j_callV (y := yX11_turnSides) (Yc := zX11_turnSides) (rest := []) [vI m] (ct_X11_turnSides (T := U4) (by omega) (FM__f (ws := [(246, [])]) (FM__f (ws := [(246, [])]) (FM__f (ws := [(246, [])]) (hfm) fU1 ⟨fun _ => rfl, fun _ => rfl, trivial⟩) fU2 ⟨fun _ => rfl, fun _ => rfl, trivial⟩) fU4 ⟨fun _ => rfl, fun _ => rfl, trivial⟩)) cl_X11_429 (qd_c (by decide +kernel)) (nn_ _) rfl (rf_of rfl) (Nat.le_of_ble_eq_true rfl) (Nat.le_of_ble_eq_true rfl) (Nat.le_of_ble_eq_true rfl) rfl ?_
    rintro U6 _ ⟨rfl, fU6, qU6⟩
    show J_ zX11_out T (po_X11_out T m) 0 0 43 _ [] U6
    refine j_blx (F := fX11) tb_X11 (nn_ _) bk_X11_out_43 bs_X11_out_43 hz (fun K hK => ?_)
    refine (show po_X11_out T m U6 (none) from ?_)
    exact ⟨rfl, fr_t (fr_t (fr_t (fr_t (fr_0 _ _) (fr_s fU1 rfl)) (fr_s fU2 rfl)) (fr_s fU4 rfl)) (fr_s fU6 rfl), qU6⟩
abbrev cX11_advance : ByteArray := prog_13_method_67_code
def yX11_advance : MethodName := ⟨RX11, "advance", "(IIII)V"⟩
def zX11_advance : Zm := (RX11, cX11_advance, 5, none, { frames := 1, cells := 0, slots := 0, locals := 23 })
theorem bk_X11_advance_0 : ck_ fX11 none cX11_advance 0 [.aload 0, .iload 1, .iconst 1, .iconst 0] 4 = true := qck_r (nn_ _) (by decide +kernel)
theorem bs_X11_advance_0 {P : Zt → Option Zv → Prop} (K : Int → Zl → List Zv → Zt → Prop) : sx_ K P [.aload 0, .iload 1, .iconst 1, .iconst 0] 4 = x_aload 0 (x_iload 1 (x_iconst 1 (x_iconst 0 (K 4)))) := ((xe_aload 0).trans (congrArg (x_aload 0) ((xe_iload 1).trans (congrArg (x_iload 1) ((xe_iconst 1).trans (congrArg (x_iconst 1) ((xe_iconst 0).trans (congrArg (x_iconst 0) xe_nil))))))))
theorem bk_X11_advance_7 : ck_ fX11 none cX11_advance 7 [.aload 0, .iload 1, .iconst 2, .iconst 0] 11 = true := qck_r (nn_ _) (by decide +kernel)
theorem bs_X11_advance_7 {P : Zt → Option Zv → Prop} (K : Int → Zl → List Zv → Zt → Prop) : sx_ K P [.aload 0, .iload 1, .iconst 2, .iconst 0] 11 = x_aload 0 (x_iload 1 (x_iconst 2 (x_iconst 0 (K 11)))) := ((xe_aload 0).trans (congrArg (x_aload 0) ((xe_iload 1).trans (congrArg (x_iload 1) ((xe_iconst 2).trans (congrArg (x_iconst 2) ((xe_iconst 0).trans (congrArg (x_iconst 0) xe_nil))))))))
theorem bk_X11_advance_14 : ck_ fX11 none cX11_advance 14 [.aload 0, .iload 1, .iconst 4, .iload 3] 18 = true := qck_r (nn_ _) (by decide +kernel)
theorem bs_X11_advance_14 {P : Zt → Option Zv → Prop} (K : Int → Zl → List Zv → Zt → Prop) : sx_ K P [.aload 0, .iload 1, .iconst 4, .iload 3] 18 = x_aload 0 (x_iload 1 (x_iconst 4 (x_iload 3 (K 18)))) := ((xe_aload 0).trans (congrArg (x_aload 0) ((xe_iload 1).trans (congrArg (x_iload 1) ((xe_iconst 4).trans (congrArg (x_iconst 4) ((xe_iload 3).trans (congrArg (x_iload 3) xe_nil))))))))
theorem bk_X11_advance_21 : ck_ fX11 none cX11_advance 21 [.aload 0, .iload 1, .iload 2, .iload 4] 26 = true := qck_r (nn_ _) (by decide +kernel)
theorem bs_X11_advance_21 {P : Zt → Option Zv → Prop} (K : Int → Zl → List Zv → Zt → Prop) : sx_ K P [.aload 0, .iload 1, .iload 2, .iload 4] 26 = x_aload 0 (x_iload 1 (x_iload 2 (x_iload 4 (K 26)))) := ((xe_aload 0).trans (congrArg (x_aload 0) ((xe_iload 1).trans (congrArg (x_iload 1) ((xe_iload 2).trans (congrArg (x_iload 2) ((xe_iload 4).trans (congrArg (x_iload 4) xe_nil))))))))
theorem bk_X11_advance_29 : ck_ fX11 none cX11_advance 29 [.iload 2, .ifCond .ne 78, .aload 0, .iload 1, .iconst 0] 36 = true := qck_r (nn_ _) (by decide +kernel)
theorem bs_X11_advance_29 {P : Zt → Option Zv → Prop} (K : Int → Zl → List Zv → Zt → Prop) : sx_ K P [.iload 2, .ifCond .ne 78, .aload 0, .iload 1, .iconst 0] 36 = x_iload 2 (x_ifCond .ne 78 K (x_aload 0 (x_iload 1 (x_iconst 0 (K 36))))) := ((xe_iload 2).trans (congrArg (x_iload 2) ((xe_ifCond .ne 78).trans (congrArg (x_ifCond .ne 78 K) ((xe_aload 0).trans (congrArg (x_aload 0) ((xe_iload 1).trans (congrArg (x_iload 1) ((xe_iconst 0).trans (congrArg (x_iconst 0) xe_nil))))))))))
theorem bk_X11_advance_78 : ck_ fX11 none cX11_advance 78 [.return_] 79 = true := qck_r (nn_ _) (by decide +kernel)
theorem bs_X11_advance_78 {P : Zt → Option Zv → Prop} (K : Int → Zl → List Zv → Zt → Prop) : sx_ K P [.return_] 79 = x_return_ P := (xe_return_)
theorem bk_X11_advance_39 : ck_ fX11 none cX11_advance 39 [.aload 0, .aload 0, .tableswitch 0 11 30 #[], .iload 1, .iaload, .iconst 11] 48 = true := qck_r (nn_ _) (by decide +kernel)
theorem bs_X11_advance_39 {P : Zt → Option Zv → Prop} (K : Int → Zl → List Zv → Zt → Prop) : sx_ K P [.aload 0, .aload 0, .tableswitch 0 11 30 #[], .iload 1, .iaload, .iconst 11] 48 = x_aload 0 (x_aload 0 (x_g1 111 230 (x_iload 1 (x_iaload (x_iconst 11 (K 48)))))) := ((xe_aload 0).trans (congrArg (x_aload 0) ((xe_aload 0).trans (congrArg (x_aload 0) ((xe_g1 (kk := 111) rfl tl_11_30).trans (congrArg (x_g1 111 230) ((xe_iload 1).trans (congrArg (x_iload 1) ((xe_iaload).trans (congrArg (x_iaload) ((xe_iconst 11).trans (congrArg (x_iconst 11) xe_nil))))))))))))
theorem bk_X11_advance_51 : ck_ fX11 none cX11_advance 51 [.iconst 1, .fsub, .if_icmp .lt 78, .aload 0, .tableswitch 0 11 36 #[], .iload 1, .iaload, .aload 0, .tableswitch 0 11 37 #[], .iload 1, .iaload, .if_icmp .le 78, .aload 0, .tableswitch 0 11 35 #[], .iload 1, .iconst 2, .iastore, .return_] 79 = true := qck_r (nn_ _) (by decide +kernel)
theorem bs_X11_advance_51 {P : Zt → Option Zv → Prop} (K : Int → Zl → List Zv → Zt → Prop) : sx_ K P [.iconst 1, .fsub, .if_icmp .lt 78, .aload 0, .tableswitch 0 11 36 #[], .iload 1, .iaload, .aload 0, .tableswitch 0 11 37 #[], .iload 1, .iaload, .if_icmp .le 78, .aload 0, .tableswitch 0 11 35 #[], .iload 1, .iconst 2, .iastore, .return_] 79 = x_iconst 1 (x_fsub (x_if_icmp .lt 78 K (x_aload 0 (x_g1 111 236 (x_iload 1 (x_iaload (x_aload 0 (x_g1 111 237 (x_iload 1 (x_iaload (x_if_icmp .le 78 K (x_aload 0 (x_g1 111 235 (x_iload 1 (x_iconst 2 (x_iastore (x_return_ P))))))))))))))))) := ((xe_iconst 1).trans (congrArg (x_iconst 1) ((xe_fsub).trans (congrArg (x_fsub) ((xe_if_icmp .lt 78).trans (congrArg (x_if_icmp .lt 78 K) ((xe_aload 0).trans (congrArg (x_aload 0) ((xe_g1 (kk := 111) rfl tl_11_36).trans (congrArg (x_g1 111 236) ((xe_iload 1).trans (congrArg (x_iload 1) ((xe_iaload).trans (congrArg (x_iaload) ((xe_aload 0).trans (congrArg (x_aload 0) ((xe_g1 (kk := 111) rfl tl_11_37).trans (congrArg (x_g1 111 237) ((xe_iload 1).trans (congrArg (x_iload 1) ((xe_iaload).trans (congrArg (x_iaload) ((xe_if_icmp .le 78).trans (congrArg (x_if_icmp .le 78 K) ((xe_aload 0).trans (congrArg (x_aload 0) ((xe_g1 (kk := 111) rfl tl_11_35).trans (congrArg (x_g1 111 235) ((xe_iload 1).trans (congrArg (x_iload 1) ((xe_iconst 2).trans (congrArg (x_iconst 2) ((xe_iastore).trans (congrArg (x_iastore) (xe_return_)))))))))))))))))))))))))))))))))))
abbrev po_X11_advance (T : Zt) (bu : Int) (m s b v : Int) : Zt → Option Zv → Prop := fun T' r => r = none ∧ fr_ [(246, []), (236, []), (237, []), (235, [])] T T' ∧ (FM_ T' ∧ SO_ T T' m ∧ SB1_ T' m (bu + 4))
set_option maxHeartbeats 4000000 in
theorem ct_X11_advance {T : Zt} {bu : Int} {m s b v : Int} (h1 : 0 ≤ m ∧ m < 400) (hfm : FM_ T) (hv : 0 ≤ v ∧ v ≤ 4) (hbu : 9 ≤ bu ∧ bu ≤ 19000) (hsb : SB1_ T m bu) : Ct_ yX11_advance zX11_advance T [vR 111 0, vI m, vI s, vI b, vI v] (po_X11_advance T bu m s b v) := by
  refine ct_of pn_11 rfl rfl (Nat.le_of_ble_eq_true rfl) (fun hT hav => ?_)
  have hr_m : -2147483648 ≤ m ∧ m ≤ 2147483647 := hav (vI m) (by simp)
  have hr_s : -2147483648 ≤ s ∧ s ≤ 2147483647 := hav (vI s) (by simp)
  have hr_b : -2147483648 ≤ b ∧ b ≤ 2147483647 := hav (vI b) (by simp)
  have hr_v : -2147483648 ≤ v ∧ v ≤ 2147483647 := hav (vI v) (by simp)
  have hz : zX11_advance.2.2.2.1 = some .boolean → ∀ (T' : Zt) (x : Int), po_X11_advance T bu m s b v T' (some (vI x)) → 0 ≤ x ∧ x ≤ 1 := fun h => by cases h
  show J_ zX11_advance T (po_X11_advance T bu m s b v) 0 0 0 [some (vR 111 0), some (vI m), some (vI s), some (vI b), some (vI v)] [] T
  refine j_blx (F := fX11) tb_X11 (nn_ _) bk_X11_advance_0 bs_X11_advance_0 hz (fun K hK => ?_)
  refine hK 4 _ [vI 0, vI 1, vI m, vR 111 0] T ?_
  refine j_callV (y := yX11_setLive) (Yc := zX11_setLive) (rest := []) [vI m, vI 1, vI 0] (ct_X11_setLive (T := T) (by omega) (by omega)) cl_X11_410 (qd_c (by decide +kernel)) (nn_ _) rfl (rf_of rfl) (Nat.le_of_ble_eq_true rfl) (Nat.le_of_ble_eq_true rfl) (Nat.le_of_ble_eq_true rfl) rfl ?_
  rintro U1 _ ⟨rfl, fU1, _⟩
  show J_ zX11_advance T (po_X11_advance T bu m s b v) 0 0 7 _ [] U1
  refine j_blx (F := fX11) tb_X11 (nn_ _) bk_X11_advance_7 bs_X11_advance_7 hz (fun K hK => ?_)
  refine hK 11 _ [vI 0, vI 2, vI m, vR 111 0] U1 ?_
  refine j_callV (y := yX11_setLive) (Yc := zX11_setLive) (rest := []) [vI m, vI 2, vI 0] (ct_X11_setLive (T := U1) (by omega) (by omega)) cl_X11_410 (qd_c (by decide +kernel)) (nn_ _) rfl (rf_of rfl) (Nat.le_of_ble_eq_true rfl) (Nat.le_of_ble_eq_true rfl) (Nat.le_of_ble_eq_true rfl) rfl ?_
  rintro U2 _ ⟨rfl, fU2, _⟩
  show J_ zX11_advance T (po_X11_advance T bu m s b v) 0 0 14 _ [] U2
  refine j_blx (F := fX11) tb_X11 (nn_ _) bk_X11_advance_14 bs_X11_advance_14 hz (fun K hK => ?_)
  refine hK 18 _ [vI b, vI 4, vI m, vR 111 0] U2 ?_
  refine j_callV (y := yX11_setLive) (Yc := zX11_setLive) (rest := []) [vI m, vI 4, vI b] (ct_X11_setLive (T := U2) (by omega) (by omega)) cl_X11_410 (qd_c (by decide +kernel)) (nn_ _) rfl (rf_of rfl) (Nat.le_of_ble_eq_true rfl) (Nat.le_of_ble_eq_true rfl) (Nat.le_of_ble_eq_true rfl) rfl ?_
  rintro U3 _ ⟨rfl, fU3, _⟩
  show J_ zX11_advance T (po_X11_advance T bu m s b v) 0 0 21 _ [] U3
  refine j_blx (F := fX11) tb_X11 (nn_ _) bk_X11_advance_21 bs_X11_advance_21 hz (fun K hK => ?_)
  refine hK 26 _ [vI v, vI s, vI m, vR 111 0] U3 ?_
  refine j_callV (y := yX11_addScore) (Yc := zX11_addScore) (rest := []) [vI m, vI s, vI v] (ct_X11_addScore (T := U3) (bu := bu) (by omega) (by omega) (by omega) (sb1_f (ws := [(246, [])]) (sb1_f (ws := [(246, [])]) (sb1_f (ws := [(246, [])]) (hsb) fU1 ⟨fun _ => rfl, fun _ => rfl, fun _ => rfl⟩) fU2 ⟨fun _ => rfl, fun _ => rfl, fun _ => rfl⟩) fU3 ⟨fun _ => rfl, fun _ => rfl, fun _ => rfl⟩)) cl_X11_413 (qd_c (by decide +kernel)) (nn_ _) rfl (rf_of rfl) (Nat.le_of_ble_eq_true rfl) (Nat.le_of_ble_eq_true rfl) (Nat.le_of_ble_eq_true rfl) rfl ?_
  rintro U4 _ ⟨rfl, fU4, ⟨qU4o, qU4b⟩⟩
  show J_ zX11_advance T (po_X11_advance T bu m s b v) 0 0 29 _ [] U4
  refine j_blx (F := fX11) tb_X11 (nn_ _) bk_X11_advance_29 bs_X11_advance_29 hz (fun K hK => ?_)
  refine And.intro (fun c5 => ?_) (fun c5 => ?_)
  · refine hK 78 _ [] U4 ?_
    refine j_blx (F := fX11) tb_X11 (nn_ _) bk_X11_advance_78 bs_X11_advance_78 hz (fun K hK => ?_)
    refine (show po_X11_advance T bu m s b v U4 (none) from ?_)
    exact ⟨rfl, fr_t (fr_t (fr_t (fr_t (fr_0 _ _) (fr_s fU1 rfl)) (fr_s fU2 rfl)) (fr_s fU3 rfl)) (fr_s fU4 rfl), FM__f (ws := [(236, []), (237, [])]) (FM__f (ws := [(246, [])]) (FM__f (ws := [(246, [])]) (FM__f (ws := [(246, [])]) (hfm) fU1 ⟨fun _ => rfl, fun _ => rfl, trivial⟩) fU2 ⟨fun _ => rfl, fun _ => rfl, trivial⟩) fU3 ⟨fun _ => rfl, fun _ => rfl, trivial⟩) fU4 ⟨fun _ => rfl, fun _ => rfl, trivial⟩, so_t (so_f (ws := [(246, [])]) (so_f (ws := [(246, [])]) (so_f (ws := [(246, [])]) (so_r) fU1 ⟨fun _ => rfl, fun _ => rfl, fun _ => rfl⟩) fU2 ⟨fun _ => rfl, fun _ => rfl, fun _ => rfl⟩) fU3 ⟨fun _ => rfl, fun _ => rfl, fun _ => rfl⟩) qU4o (fun j => (fU3 239 0 j rfl).trans ((fU2 239 0 j rfl).trans (fU1 239 0 j rfl))), qU4b⟩
  · refine hK 36 _ [vI 0, vI m, vR 111 0] U4 ?_
    refine j_callV (y := yX11_liveOf) (Yc := zX11_liveOf) (rest := []) [vI m, vI 0] (ct_X11_liveOf (T := U4) (by omega) (by omega)) cl_X11_400 (qd_c (by decide +kernel)) (nn_ _) rfl (rf_of rfl) (Nat.le_of_ble_eq_true rfl) (Nat.le_of_ble_eq_true rfl) (Nat.le_of_ble_eq_true rfl) rfl ?_
    rintro _ _ ⟨rfl, rfl⟩
    have e6 : U4 246 0 (8 * m + 0) = U3 246 0 (8 * m + 0) := fU4 246 0 (8 * m + 0) rfl
    show J_ zX11_advance T (po_X11_advance T bu m s b v) 0 0 39 _ [vI (U4 246 0 (8 * m + 0))] U4
    refine j_blx (F := fX11) tb_X11 (nn_ _) bk_X11_advance_39 bs_X11_advance_39 hz (fun K hK => ?_)
    refine ix_i (by omega) ?_
    intro b7 b7b
    have e8 : U4 230 0 m = T 230 0 m := (fU4 230 0 m rfl).trans ((fU3 230 0 m rfl).trans ((fU2 230 0 m rfl).trans (fU1 230 0 m rfl)))
    rw [e8] at b7 b7b ⊢
    refine hK 48 _ [vI 11, vI (T 230 0 m), vR 111 0, vI (U4 246 0 (8 * m + 0))] U4 ?_
    refine j_callV (y := yX11_rule0) (Yc := zX11_rule0) (rest := [vI (U4 246 0 (8 * m + 0))]) [vI (T 230 0 m), vI 11] (ct_X11_rule0 (T := U4) (by omega) (by omega)) cl_X11_321 (qd_c (by decide +kernel)) (nn_ _) rfl (rf_of rfl) (Nat.le_of_ble_eq_true rfl) (Nat.le_of_ble_eq_true rfl) (Nat.le_of_ble_eq_true rfl) rfl ?_
    rintro _ _ ⟨rfl, rfl⟩
    have e9 : U4 205 0 (23 * (T 230 0 m) + 11) = T 205 0 (23 * (T 230 0 m) + 11) := (fU4 205 0 (23 * (T 230 0 m) + 11) rfl).trans ((fU3 205 0 (23 * (T 230 0 m) + 11) rfl).trans ((fU2 205 0 (23 * (T 230 0 m) + 11) rfl).trans (fU1 205 0 (23 * (T 230 0 m) + 11) rfl)))
    show J_ zX11_advance T (po_X11_advance T bu m s b v) 0 0 51 _ [vI (U4 205 0 (23 * (T 230 0 m) + 11)), vI (U4 246 0 (8 * m + 0))] U4
    refine j_blx (F := fX11) tb_X11 (nn_ _) bk_X11_advance_51 bs_X11_advance_51 hz (fun K hK => ?_)
    intro w10 w10b
    refine And.intro (fun c11 => ?_) (fun c11 => ?_)
    · refine hK 78 _ [] U4 ?_
      refine j_blx (F := fX11) tb_X11 (nn_ _) bk_X11_advance_78 bs_X11_advance_78 hz (fun K hK => ?_)
      refine (show po_X11_advance T bu m s b v U4 (none) from ?_)
      exact ⟨rfl, fr_t (fr_t (fr_t (fr_t (fr_0 _ _) (fr_s fU1 rfl)) (fr_s fU2 rfl)) (fr_s fU3 rfl)) (fr_s fU4 rfl), FM__f (ws := [(236, []), (237, [])]) (FM__f (ws := [(246, [])]) (FM__f (ws := [(246, [])]) (FM__f (ws := [(246, [])]) (hfm) fU1 ⟨fun _ => rfl, fun _ => rfl, trivial⟩) fU2 ⟨fun _ => rfl, fun _ => rfl, trivial⟩) fU3 ⟨fun _ => rfl, fun _ => rfl, trivial⟩) fU4 ⟨fun _ => rfl, fun _ => rfl, trivial⟩, so_t (so_f (ws := [(246, [])]) (so_f (ws := [(246, [])]) (so_f (ws := [(246, [])]) (so_r) fU1 ⟨fun _ => rfl, fun _ => rfl, fun _ => rfl⟩) fU2 ⟨fun _ => rfl, fun _ => rfl, fun _ => rfl⟩) fU3 ⟨fun _ => rfl, fun _ => rfl, fun _ => rfl⟩) qU4o (fun j => (fU3 239 0 j rfl).trans ((fU2 239 0 j rfl).trans (fU1 239 0 j rfl))), qU4b⟩
    · refine ix_i (by omega) ?_
      intro b12 b12b
      refine ix_i (by omega) ?_
      intro b13 b13b
      refine And.intro (fun c14 => ?_) (fun c14 => ?_)
      · refine hK 78 _ [] U4 ?_
        refine j_blx (F := fX11) tb_X11 (nn_ _) bk_X11_advance_78 bs_X11_advance_78 hz (fun K hK => ?_)
        refine (show po_X11_advance T bu m s b v U4 (none) from ?_)
        exact ⟨rfl, fr_t (fr_t (fr_t (fr_t (fr_0 _ _) (fr_s fU1 rfl)) (fr_s fU2 rfl)) (fr_s fU3 rfl)) (fr_s fU4 rfl), FM__f (ws := [(236, []), (237, [])]) (FM__f (ws := [(246, [])]) (FM__f (ws := [(246, [])]) (FM__f (ws := [(246, [])]) (hfm) fU1 ⟨fun _ => rfl, fun _ => rfl, trivial⟩) fU2 ⟨fun _ => rfl, fun _ => rfl, trivial⟩) fU3 ⟨fun _ => rfl, fun _ => rfl, trivial⟩) fU4 ⟨fun _ => rfl, fun _ => rfl, trivial⟩, so_t (so_f (ws := [(246, [])]) (so_f (ws := [(246, [])]) (so_f (ws := [(246, [])]) (so_r) fU1 ⟨fun _ => rfl, fun _ => rfl, fun _ => rfl⟩) fU2 ⟨fun _ => rfl, fun _ => rfl, fun _ => rfl⟩) fU3 ⟨fun _ => rfl, fun _ => rfl, fun _ => rfl⟩) qU4o (fun j => (fU3 239 0 j rfl).trans ((fU2 239 0 j rfl).trans (fU1 239 0 j rfl))), qU4b⟩
      · refine iy_i (by omega) (by omega) ?_
        refine x_nm (fun U15 hU15 => ?_)
        have e16 := up_f hU15
        refine (show po_X11_advance T bu m s b v U15 (none) from ?_)
        exact ⟨rfl, fr_u (fr_t (fr_t (fr_t (fr_t (fr_0 _ _) (fr_s fU1 rfl)) (fr_s fU2 rfl)) (fr_s fU3 rfl)) (fr_s fU4 rfl)) hU15 rfl, fm_w (FM__f (ws := [(236, []), (237, [])]) (FM__f (ws := [(246, [])]) (FM__f (ws := [(246, [])]) (FM__f (ws := [(246, [])]) (hfm) fU1 ⟨fun _ => rfl, fun _ => rfl, trivial⟩) fU2 ⟨fun _ => rfl, fun _ => rfl, trivial⟩) fU3 ⟨fun _ => rfl, fun _ => rfl, trivial⟩) fU4 ⟨fun _ => rfl, fun _ => rfl, trivial⟩) hU15 (by decide), so_f (ws := [(235, [])]) (so_t (so_f (ws := [(246, [])]) (so_f (ws := [(246, [])]) (so_f (ws := [(246, [])]) (so_r) fU1 ⟨fun _ => rfl, fun _ => rfl, fun _ => rfl⟩) fU2 ⟨fun _ => rfl, fun _ => rfl, fun _ => rfl⟩) fU3 ⟨fun _ => rfl, fun _ => rfl, fun _ => rfl⟩) qU4o (fun j => (fU3 239 0 j rfl).trans ((fU2 239 0 j rfl).trans (fU1 239 0 j rfl)))) (fr_u (fr_0 _ _) hU15 rfl) ⟨fun _ => rfl, fun _ => rfl, fun _ => rfl⟩, sb1_f (ws := [(235, [])]) (qU4b) (fr_u (fr_0 _ _) hU15 rfl) ⟨fun _ => rfl, fun _ => rfl, fun _ => rfl⟩⟩
abbrev cX11_hit : ByteArray := prog_13_method_68_code
def yX11_hit : MethodName := ⟨RX11, "hit", "(III)V"⟩
def zX11_hit : Zm := (RX11, cX11_hit, 8, none, { frames := 2, cells := 0, slots := 0, locals := 47 })
theorem bk_X11_hit_81 : ck_ fX11 none cX11_hit 81 [.iinc 6 1, .goto 9] 87 = true := qck_r (nn_ _) (by decide +kernel)
theorem bs_X11_hit_81 {P : Zt → Option Zv → Prop} (K : Int → Zl → List Zv → Zt → Prop) : sx_ K P [.iinc 6 1, .goto 9] 87 = x_iinc 6 1 (x_goto 9 K) := ((xe_iinc 6 1).trans (congrArg (x_iinc 6 1) (xe_goto 9)))
theorem bk_X11_hit_42 : ck_ fX11 none cX11_hit 42 [.istore 7, .iload 7, .ifCond .eq 63, .iload 6, .iload 3, .fadd, .iconst 3, .if_icmp .le 63, .iinc 5 1, .goto 81] 63 = true := qck_r (nn_ _) (by decide +kernel)
theorem bs_X11_hit_42 {P : Zt → Option Zv → Prop} (K : Int → Zl → List Zv → Zt → Prop) : sx_ K P [.istore 7, .iload 7, .ifCond .eq 63, .iload 6, .iload 3, .fadd, .iconst 3, .if_icmp .le 63, .iinc 5 1, .goto 81] 63 = x_istore 7 (x_iload 7 (x_ifCond .eq 63 K (x_iload 6 (x_iload 3 (x_fadd (x_iconst 3 (x_if_icmp .le 63 K (x_iinc 5 1 (x_goto 81 K))))))))) := ((xe_istore 7).trans (congrArg (x_istore 7) ((xe_iload 7).trans (congrArg (x_iload 7) ((xe_ifCond .eq 63).trans (congrArg (x_ifCond .eq 63 K) ((xe_iload 6).trans (congrArg (x_iload 6) ((xe_iload 3).trans (congrArg (x_iload 3) ((xe_fadd).trans (congrArg (x_fadd) ((xe_iconst 3).trans (congrArg (x_iconst 3) ((xe_if_icmp .le 63).trans (congrArg (x_if_icmp .le 63 K) ((xe_iinc 5 1).trans (congrArg (x_iinc 5 1) (xe_goto 81)))))))))))))))))))
theorem bk_X11_hit_63 : ck_ fX11 none cX11_hit 63 [.iload 7, .ifCond .eq 81, .iload 4, .iconst 1, .iload 6, .iload 3, .fadd, .iconst 1, .fsub, .ishl, .ior, .istore 4] 81 = true := qck_r (nn_ _) (by decide +kernel)
theorem bs_X11_hit_63 {P : Zt → Option Zv → Prop} (K : Int → Zl → List Zv → Zt → Prop) : sx_ K P [.iload 7, .ifCond .eq 81, .iload 4, .iconst 1, .iload 6, .iload 3, .fadd, .iconst 1, .fsub, .ishl, .ior, .istore 4] 81 = x_iload 7 (x_ifCond .eq 81 K (x_iload 4 (x_iconst 1 (x_iload 6 (x_iload 3 (x_fadd (x_iconst 1 (x_fsub (x_ishl (x_ior (x_istore 4 (K 81)))))))))))) := ((xe_iload 7).trans (congrArg (x_iload 7) ((xe_ifCond .eq 81).trans (congrArg (x_ifCond .eq 81 K) ((xe_iload 4).trans (congrArg (x_iload 4) ((xe_iconst 1).trans (congrArg (x_iconst 1) ((xe_iload 6).trans (congrArg (x_iload 6) ((xe_iload 3).trans (congrArg (x_iload 3) ((xe_fadd).trans (congrArg (x_fadd) ((xe_iconst 1).trans (congrArg (x_iconst 1) ((xe_fsub).trans (congrArg (x_fsub) ((xe_ishl).trans (congrArg (x_ishl) ((xe_ior).trans (congrArg (x_ior) ((xe_istore 4).trans (congrArg (x_istore 4) xe_nil))))))))))))))))))))))))
theorem bk_X11_hit_9 : ck_ fX11 none cX11_hit 9 [.iload 6, .iconst 3, .if_icmp .gt 87, .iload 6, .ifCond .eq 37, .aload 0, .iload 1, .iconst 4] 23 = true := qck_r (nn_ _) (by decide +kernel)
theorem bs_X11_hit_9 {P : Zt → Option Zv → Prop} (K : Int → Zl → List Zv → Zt → Prop) : sx_ K P [.iload 6, .iconst 3, .if_icmp .gt 87, .iload 6, .ifCond .eq 37, .aload 0, .iload 1, .iconst 4] 23 = x_iload 6 (x_iconst 3 (x_if_icmp .gt 87 K (x_iload 6 (x_ifCond .eq 37 K (x_aload 0 (x_iload 1 (x_iconst 4 (K 23)))))))) := ((xe_iload 6).trans (congrArg (x_iload 6) ((xe_iconst 3).trans (congrArg (x_iconst 3) ((xe_if_icmp .gt 87).trans (congrArg (x_if_icmp .gt 87 K) ((xe_iload 6).trans (congrArg (x_iload 6) ((xe_ifCond .eq 37).trans (congrArg (x_ifCond .eq 37 K) ((xe_aload 0).trans (congrArg (x_aload 0) ((xe_iload 1).trans (congrArg (x_iload 1) ((xe_iconst 4).trans (congrArg (x_iconst 4) xe_nil))))))))))))))))
theorem bk_X11_hit_87 : ck_ fX11 none cX11_hit 87 [.aload 0, .iload 1, .iload 2, .iload 4, .iload 5] 94 = true := qck_r (nn_ _) (by decide +kernel)
theorem bs_X11_hit_87 {P : Zt → Option Zv → Prop} (K : Int → Zl → List Zv → Zt → Prop) : sx_ K P [.aload 0, .iload 1, .iload 2, .iload 4, .iload 5] 94 = x_aload 0 (x_iload 1 (x_iload 2 (x_iload 4 (x_iload 5 (K 94))))) := ((xe_aload 0).trans (congrArg (x_aload 0) ((xe_iload 1).trans (congrArg (x_iload 1) ((xe_iload 2).trans (congrArg (x_iload 2) ((xe_iload 4).trans (congrArg (x_iload 4) ((xe_iload 5).trans (congrArg (x_iload 5) xe_nil))))))))))
set_option maxRecDepth 100000 in
theorem cl_X11_432 : cv_ RX11 432 yX11_advance zX11_advance 11 4 := ⟨gi_V (lw_b9 118 (by decide +kernel) rfl : Cond.methodLink RX11 432 yX11_advance ∈ lw_g) (lw_b9 120 (by decide +kernel) rfl : Cond.instanceMethod yX11_advance ∈ lw_g) (lw_sel 6 rfl : Cond.selects yX11_advance.cls yX11_advance yX11_advance ∈ lw_g) (lw_b1 10 (by decide +kernel) rfl : Cond.initialized yX11_advance.cls ∈ lw_g) (lw_b9 121 rfl rfl : Cond.code yX11_advance cX11_advance 5 none ∈ lw_g), ⟨by decide, by decide, by decide +kernel⟩, ⟨_, _, rfl⟩⟩
theorem bk_X11_hit_97 : ck_ fX11 none cX11_hit 97 [.return_] 98 = true := qck_r (nn_ _) (by decide +kernel)
theorem bs_X11_hit_97 {P : Zt → Option Zv → Prop} (K : Int → Zl → List Zv → Zt → Prop) : sx_ K P [.return_] 98 = x_return_ P := (xe_return_)
theorem bk_X11_hit_37 : ck_ fX11 none cX11_hit 37 [.iconst 1, .goto 42] 41 = true := qck_r (nn_ _) (by decide +kernel)
theorem bs_X11_hit_37 {P : Zt → Option Zv → Prop} (K : Int → Zl → List Zv → Zt → Prop) : sx_ K P [.iconst 1, .goto 42] 41 = x_iconst 1 (x_goto 42 K) := ((xe_iconst 1).trans (congrArg (x_iconst 1) (xe_goto 42)))
theorem bk_X11_hit_26 : ck_ fX11 none cX11_hit 26 [.iload 6, .iconst 1, .isub, .ishr, .iconst 1, .iand, .iconst 1, .if_icmp .ne 41, .iconst 1, .goto 42] 41 = true := qck_r (nn_ _) (by decide +kernel)
theorem bs_X11_hit_26 {P : Zt → Option Zv → Prop} (K : Int → Zl → List Zv → Zt → Prop) : sx_ K P [.iload 6, .iconst 1, .isub, .ishr, .iconst 1, .iand, .iconst 1, .if_icmp .ne 41, .iconst 1, .goto 42] 41 = x_iload 6 (x_iconst 1 (x_isub (x_ishr (x_iconst 1 (x_iand (x_iconst 1 (x_if_icmp .ne 41 K (x_iconst 1 (x_goto 42 K))))))))) := ((xe_iload 6).trans (congrArg (x_iload 6) ((xe_iconst 1).trans (congrArg (x_iconst 1) ((xe_isub).trans (congrArg (x_isub) ((xe_ishr).trans (congrArg (x_ishr) ((xe_iconst 1).trans (congrArg (x_iconst 1) ((xe_iand).trans (congrArg (x_iand) ((xe_iconst 1).trans (congrArg (x_iconst 1) ((xe_if_icmp .ne 41).trans (congrArg (x_if_icmp .ne 41 K) ((xe_iconst 1).trans (congrArg (x_iconst 1) (xe_goto 42)))))))))))))))))))
theorem bk_X11_hit_41 : ck_ fX11 none cX11_hit 41 [.iconst 0] 42 = true := qck_r (nn_ _) (by decide +kernel)
theorem bs_X11_hit_41 {P : Zt → Option Zv → Prop} (K : Int → Zl → List Zv → Zt → Prop) : sx_ K P [.iconst 0] 42 = x_iconst 0 (K 42) := ((xe_iconst 0).trans (congrArg (x_iconst 0) xe_nil))
theorem bk_X11_hit_0 : ck_ fX11 none cX11_hit 0 [.iconst 0, .istore 4, .iconst 0, .istore 5, .iconst 0, .istore 6] 9 = true := qck_r (nn_ _) (by decide +kernel)
theorem bs_X11_hit_0 {P : Zt → Option Zv → Prop} (K : Int → Zl → List Zv → Zt → Prop) : sx_ K P [.iconst 0, .istore 4, .iconst 0, .istore 5, .iconst 0, .istore 6] 9 = x_iconst 0 (x_istore 4 (x_iconst 0 (x_istore 5 (x_iconst 0 (x_istore 6 (K 9)))))) := ((xe_iconst 0).trans (congrArg (x_iconst 0) ((xe_istore 4).trans (congrArg (x_istore 4) ((xe_iconst 0).trans (congrArg (x_iconst 0) ((xe_istore 5).trans (congrArg (x_istore 5) ((xe_iconst 0).trans (congrArg (x_iconst 0) ((xe_istore 6).trans (congrArg (x_istore 6) xe_nil))))))))))))
abbrev po_X11_hit (T : Zt) (bu : Int) (m s v : Int) : Zt → Option Zv → Prop := fun T' r => r = none ∧ fr_ [(246, []), (236, []), (237, []), (235, [])] T T' ∧ (FM_ T' ∧ SO_ T T' m ∧ SB1_ T' m (bu + 4))
set_option maxHeartbeats 4000000 in
theorem ct_X11_hit {T : Zt} {bu : Int} {m s v : Int} (h1 : 0 ≤ m ∧ m < 400) (hfm : FM_ T) (hbu : 9 ≤ bu ∧ bu ≤ 19000) (hsb : SB1_ T m bu) : Ct_ yX11_hit zX11_hit T [vR 111 0, vI m, vI s, vI v] (po_X11_hit T bu m s v) := by
  refine ct_of pn_11 rfl rfl (Nat.le_of_ble_eq_true rfl) (fun hT hav => ?_)
  have hr_m : -2147483648 ≤ m ∧ m ≤ 2147483647 := hav (vI m) (by simp)
  have hr_s : -2147483648 ≤ s ∧ s ≤ 2147483647 := hav (vI s) (by simp)
  have hr_v : -2147483648 ≤ v ∧ v ≤ 2147483647 := hav (vI v) (by simp)
  have hz : zX11_hit.2.2.2.1 = some .boolean → ∀ (T' : Zt) (x : Int), po_X11_hit T bu m s v T' (some (vI x)) → 0 ≤ x ∧ x ≤ 1 := fun h => by cases h
  show J_ zX11_hit T (po_X11_hit T bu m s v) 0 0 0 [some (vR 111 0), some (vI m), some (vI s), some (vI v), none, none, none, none] [] T
  have c_9 : ∀ (nn : Nat) (b : Int) (u : Int) (i : Int), ((4 - i).toNat) ≤ nn → (0 ≤ i ∧ i ≤ 4 ∧ 0 ≤ u ∧ u ≤ i) → J_ zX11_hit T (po_X11_hit T bu m s v) 0 0 9 [some (vR 111 0), some (vI m), some (vI s), some (vI v), some (vI b), some (vI u), some (vI i), none] [] T := by
    intro nn
    induction nn using Nat.strongRecOn with
    | _ nn ih_9 =>
      intro b u i hm_9 i1
      have c_81 : ∀ (b2 : Int) (u2 : Int), (i ≤ 3 ∧ 0 ≤ u2 ∧ u2 ≤ i + 1) → J_ zX11_hit T (po_X11_hit T bu m s v) 0 0 81 [some (vR 111 0), some (vI m), some (vI s), some (vI v), some (vI b2), some (vI u2), some (vI i), none] [] T := by
        intro b2 u2 i2
        refine j_blx (F := fX11) tb_X11 (nn_ _) bk_X11_hit_81 bs_X11_hit_81 hz (fun K hK => ?_)
        refine rg_i (by omega) ?_
        refine hK 9 [some (vR 111 0), some (vI m), some (vI s), some (vI v), some (vI b2), some (vI u2), some (vI (i + 1)), none] [] T ?_
        refine ih_9 _ ?_ b2 u2 (i + 1) (Nat.le_refl _) ?_
        · omega
        · omega
      have c_42 : ∀ (w : Int), (i ≤ 3) → J_ zX11_hit T (po_X11_hit T bu m s v) 0 0 42 [some (vR 111 0), some (vI m), some (vI s), some (vI v), some (vI b), some (vI u), some (vI i), none] [vI w] T := by
        intro w i3
        refine j_blx (F := fX11) tb_X11 (nn_ _) bk_X11_hit_42 bs_X11_hit_42 hz (fun K hK => ?_)
        refine And.intro (fun c1 => ?_) (fun c1 => ?_)
        · refine hK 63 [some (vR 111 0), some (vI m), some (vI s), some (vI v), some (vI b), some (vI u), some (vI i), some (vI w)] [] T ?_
          refine j_blx (F := fX11) tb_X11 (nn_ _) bk_X11_hit_63 bs_X11_hit_63 hz (fun K hK => ?_)
          refine And.intro (fun c2 => ?_) (fun c2 => ?_)
          · refine hK 81 _ [] T ?_
            refine j_drop [some (vR 111 0), some (vI m), some (vI s), some (vI v), some (vI b), some (vI u), some (vI i), none] (fun k v hk => ?_) rfl ?_
            · match k, hk with
              | 0, hk => exact hk
              | 1, hk => exact hk
              | 2, hk => exact hk
              | 3, hk => exact hk
              | 4, hk => exact hk
              | 5, hk => exact hk
              | 6, hk => exact hk
              | 7, hk => cases hk
              | k + 8, hk => cases hk
            refine c_81 b u ?_
            · omega
          · intro w3 w3b
            intro w4 w4b
            intro w5 w5b
            intro w6 w6b
            refine hK 81 [some (vR 111 0), some (vI m), some (vI s), some (vI v), some (vI (or_ b (sl_ 1 (wr_ ((wr_ (i + v)) - 1))))), some (vI u), some (vI i), some (vI w)] [] T ?_
            refine j_drop [some (vR 111 0), some (vI m), some (vI s), some (vI v), some (vI (or_ b (sl_ 1 (wr_ ((wr_ (i + v)) - 1))))), some (vI u), some (vI i), none] (fun k v hk => ?_) rfl ?_
            · match k, hk with
              | 0, hk => exact hk
              | 1, hk => exact hk
              | 2, hk => exact hk
              | 3, hk => exact hk
              | 4, hk => exact hk
              | 5, hk => exact hk
              | 6, hk => exact hk
              | 7, hk => cases hk
              | k + 8, hk => cases hk
            refine c_81 (or_ b (sl_ 1 (wr_ ((wr_ (i + v)) - 1)))) u ?_
            · omega
        · intro w7 w7b
          refine And.intro (fun c8 => ?_) (fun c8 => ?_)
          · refine hK 63 _ [] T ?_
            refine j_blx (F := fX11) tb_X11 (nn_ _) bk_X11_hit_63 bs_X11_hit_63 hz (fun K hK => ?_)
            refine And.intro (fun c9 => ?_) (fun c9 => ?_)
            · refine hK 81 _ [] T ?_
              refine j_drop [some (vR 111 0), some (vI m), some (vI s), some (vI v), some (vI b), some (vI u), some (vI i), none] (fun k v hk => ?_) rfl ?_
              · match k, hk with
                | 0, hk => exact hk
                | 1, hk => exact hk
                | 2, hk => exact hk
                | 3, hk => exact hk
                | 4, hk => exact hk
                | 5, hk => exact hk
                | 6, hk => exact hk
                | 7, hk => cases hk
                | k + 8, hk => cases hk
              refine c_81 b u ?_
              · omega
            · intro w10 w10b
              intro w11 w11b
              intro w12 w12b
              intro w13 w13b
              refine hK 81 [some (vR 111 0), some (vI m), some (vI s), some (vI v), some (vI (or_ b (sl_ 1 (wr_ ((wr_ (i + v)) - 1))))), some (vI u), some (vI i), some (vI w)] [] T ?_
              refine j_drop [some (vR 111 0), some (vI m), some (vI s), some (vI v), some (vI (or_ b (sl_ 1 (wr_ ((wr_ (i + v)) - 1))))), some (vI u), some (vI i), none] (fun k v hk => ?_) rfl ?_
              · match k, hk with
                | 0, hk => exact hk
                | 1, hk => exact hk
                | 2, hk => exact hk
                | 3, hk => exact hk
                | 4, hk => exact hk
                | 5, hk => exact hk
                | 6, hk => exact hk
                | 7, hk => cases hk
                | k + 8, hk => cases hk
              refine c_81 (or_ b (sl_ 1 (wr_ ((wr_ (i + v)) - 1)))) u ?_
              · omega
          · refine rg_i (by omega) ?_
            refine hK 81 [some (vR 111 0), some (vI m), some (vI s), some (vI v), some (vI b), some (vI (u + 1)), some (vI i), some (vI w)] [] T ?_
            refine j_drop [some (vR 111 0), some (vI m), some (vI s), some (vI v), some (vI b), some (vI (u + 1)), some (vI i), none] (fun k v hk => ?_) rfl ?_
            · match k, hk with
              | 0, hk => exact hk
              | 1, hk => exact hk
              | 2, hk => exact hk
              | 3, hk => exact hk
              | 4, hk => exact hk
              | 5, hk => exact hk
              | 6, hk => exact hk
              | 7, hk => cases hk
              | k + 8, hk => cases hk
            refine c_81 b (u + 1) ?_
            · omega
      refine j_blx (F := fX11) tb_X11 (nn_ _) bk_X11_hit_9 bs_X11_hit_9 hz (fun K hK => ?_)
      refine And.intro (fun c14 => ?_) (fun c14 => ?_)
      · refine hK 87 _ [] T ?_
        refine j_blx (F := fX11) tb_X11 (nn_ _) bk_X11_hit_87 bs_X11_hit_87 hz (fun K hK => ?_)
        refine hK 94 _ [vI u, vI b, vI s, vI m, vR 111 0] T ?_
        refine j_callV (y := yX11_advance) (Yc := zX11_advance) (rest := []) [vI m, vI s, vI b, vI u] (ct_X11_advance (T := T) (bu := bu) (by omega) (hfm) (by omega) (by omega) (hsb)) cl_X11_432 (qd_c (by decide +kernel)) (nn_ _) rfl (rf_of rfl) (Nat.le_of_ble_eq_true rfl) (Nat.le_of_ble_eq_true rfl) (Nat.le_of_ble_eq_true rfl) rfl ?_
        rintro U15 _ ⟨rfl, fU15, ⟨qU15, qU15o, qU15b⟩⟩
        show J_ zX11_hit T (po_X11_hit T bu m s v) 0 0 97 _ [] U15
        refine j_blx (F := fX11) tb_X11 (nn_ _) bk_X11_hit_97 bs_X11_hit_97 hz (fun K hK => ?_)
        refine (show po_X11_hit T bu m s v U15 (none) from ?_)
        exact ⟨rfl, fr_t (fr_0 _ _) (fr_s fU15 rfl), qU15, so_t (so_r) qU15o (fun j => rfl), qU15b⟩
      · refine And.intro (fun c16 => ?_) (fun c16 => ?_)
        · refine hK 37 _ [] T ?_
          refine j_blx (F := fX11) tb_X11 (nn_ _) bk_X11_hit_37 bs_X11_hit_37 hz (fun K hK => ?_)
          refine hK 42 _ [vI 1] T ?_
          refine c_42 1 ?_
          · omega
        · refine hK 23 _ [vI 4, vI m, vR 111 0] T ?_
          refine j_callV (y := yX11_liveOf) (Yc := zX11_liveOf) (rest := []) [vI m, vI 4] (ct_X11_liveOf (T := T) (by omega) (by omega)) cl_X11_400 (qd_c (by decide +kernel)) (nn_ _) rfl (rf_of rfl) (Nat.le_of_ble_eq_true rfl) (Nat.le_of_ble_eq_true rfl) (Nat.le_of_ble_eq_true rfl) rfl ?_
          rintro _ _ ⟨rfl, rfl⟩
          show J_ zX11_hit T (po_X11_hit T bu m s v) 0 0 26 _ [vI (T 246 0 (8 * m + 4))] T
          refine j_blx (F := fX11) tb_X11 (nn_ _) bk_X11_hit_26 bs_X11_hit_26 hz (fun K hK => ?_)
          refine rg_i (by omega) ?_
          intro w17 w17b
          intro w18 w18b
          refine And.intro (fun c19 => ?_) (fun c19 => ?_)
          · refine hK 41 _ [] T ?_
            refine j_blx (F := fX11) tb_X11 (nn_ _) bk_X11_hit_41 bs_X11_hit_41 hz (fun K hK => ?_)
            refine hK 42 _ [vI 0] T ?_
            refine c_42 0 ?_
            · omega
          · refine hK 42 _ [vI 1] T ?_
            refine c_42 1 ?_
            · omega
  refine j_blx (F := fX11) tb_X11 (nn_ _) bk_X11_hit_0 bs_X11_hit_0 hz (fun K hK => ?_)
  refine hK 9 [some (vR 111 0), some (vI m), some (vI s), some (vI v), some (vI 0), some (vI 0), some (vI 0), none] [] T ?_
  refine c_9 _ 0 0 0 (Nat.le_refl _) ?_
  · omega
abbrev cX11_walk : ByteArray := prog_13_method_69_code
def yX11_walk : MethodName := ⟨RX11, "walk", "(II)V"⟩
def zX11_walk : Zm := (RX11, cX11_walk, 5, none, { frames := 2, cells := 0, slots := 0, locals := 47 })
theorem bk_X11_walk_52 : ck_ fX11 none cX11_walk 52 [.aload 0, .iload 1, .iload 2, .iload 3, .iload 4] 58 = true := qck_r (nn_ _) (by decide +kernel)
theorem bs_X11_walk_52 {P : Zt → Option Zv → Prop} (K : Int → Zl → List Zv → Zt → Prop) : sx_ K P [.aload 0, .iload 1, .iload 2, .iload 3, .iload 4] 58 = x_aload 0 (x_iload 1 (x_iload 2 (x_iload 3 (x_iload 4 (K 58))))) := ((xe_aload 0).trans (congrArg (x_aload 0) ((xe_iload 1).trans (congrArg (x_iload 1) ((xe_iload 2).trans (congrArg (x_iload 2) ((xe_iload 3).trans (congrArg (x_iload 3) ((xe_iload 4).trans (congrArg (x_iload 4) xe_nil))))))))))
theorem bk_X11_walk_61 : ck_ fX11 none cX11_walk 61 [.return_] 62 = true := qck_r (nn_ _) (by decide +kernel)
theorem bs_X11_walk_61 {P : Zt → Option Zv → Prop} (K : Int → Zl → List Zv → Zt → Prop) : sx_ K P [.return_] 62 = x_return_ P := (xe_return_)
theorem bk_X11_walk_0 : ck_ fX11 none cX11_walk 0 [.aload 0, .iload 1, .iconst 4] 3 = true := qck_r (nn_ _) (by decide +kernel)
theorem bs_X11_walk_0 {P : Zt → Option Zv → Prop} (K : Int → Zl → List Zv → Zt → Prop) : sx_ K P [.aload 0, .iload 1, .iconst 4] 3 = x_aload 0 (x_iload 1 (x_iconst 4 (K 3))) := ((xe_aload 0).trans (congrArg (x_aload 0) ((xe_iload 1).trans (congrArg (x_iload 1) ((xe_iconst 4).trans (congrArg (x_iconst 4) xe_nil))))))
theorem bk_X11_walk_6 : ck_ fX11 none cX11_walk 6 [.istore 3, .iconst 0, .istore 4, .iload 3, .iconst 1, .iand, .ifCond .ne 23, .iload 3, .iconst 1, .ior, .istore 3, .goto 52] 23 = true := qck_r (nn_ _) (by decide +kernel)
theorem bs_X11_walk_6 {P : Zt → Option Zv → Prop} (K : Int → Zl → List Zv → Zt → Prop) : sx_ K P [.istore 3, .iconst 0, .istore 4, .iload 3, .iconst 1, .iand, .ifCond .ne 23, .iload 3, .iconst 1, .ior, .istore 3, .goto 52] 23 = x_istore 3 (x_iconst 0 (x_istore 4 (x_iload 3 (x_iconst 1 (x_iand (x_ifCond .ne 23 K (x_iload 3 (x_iconst 1 (x_ior (x_istore 3 (x_goto 52 K))))))))))) := ((xe_istore 3).trans (congrArg (x_istore 3) ((xe_iconst 0).trans (congrArg (x_iconst 0) ((xe_istore 4).trans (congrArg (x_istore 4) ((xe_iload 3).trans (congrArg (x_iload 3) ((xe_iconst 1).trans (congrArg (x_iconst 1) ((xe_iand).trans (congrArg (x_iand) ((xe_ifCond .ne 23).trans (congrArg (x_ifCond .ne 23 K) ((xe_iload 3).trans (congrArg (x_iload 3) ((xe_iconst 1).trans (congrArg (x_iconst 1) ((xe_ior).trans (congrArg (x_ior) ((xe_istore 3).trans (congrArg (x_istore 3) (xe_goto 52)))))))))))))))))))))))
theorem bk_X11_walk_23 : ck_ fX11 none cX11_walk 23 [.iload 3, .iconst 2, .iand, .ifCond .ne 36, .iload 3, .iconst 2, .ior, .istore 3, .goto 52] 36 = true := qck_r (nn_ _) (by decide +kernel)
theorem bs_X11_walk_23 {P : Zt → Option Zv → Prop} (K : Int → Zl → List Zv → Zt → Prop) : sx_ K P [.iload 3, .iconst 2, .iand, .ifCond .ne 36, .iload 3, .iconst 2, .ior, .istore 3, .goto 52] 36 = x_iload 3 (x_iconst 2 (x_iand (x_ifCond .ne 36 K (x_iload 3 (x_iconst 2 (x_ior (x_istore 3 (x_goto 52 K)))))))) := ((xe_iload 3).trans (congrArg (x_iload 3) ((xe_iconst 2).trans (congrArg (x_iconst 2) ((xe_iand).trans (congrArg (x_iand) ((xe_ifCond .ne 36).trans (congrArg (x_ifCond .ne 36 K) ((xe_iload 3).trans (congrArg (x_iload 3) ((xe_iconst 2).trans (congrArg (x_iconst 2) ((xe_ior).trans (congrArg (x_ior) ((xe_istore 3).trans (congrArg (x_istore 3) (xe_goto 52)))))))))))))))))
theorem bk_X11_walk_36 : ck_ fX11 none cX11_walk 36 [.iload 3, .iconst 4, .iand, .ifCond .ne 49, .iload 3, .iconst 4, .ior, .istore 3, .goto 52] 49 = true := qck_r (nn_ _) (by decide +kernel)
theorem bs_X11_walk_36 {P : Zt → Option Zv → Prop} (K : Int → Zl → List Zv → Zt → Prop) : sx_ K P [.iload 3, .iconst 4, .iand, .ifCond .ne 49, .iload 3, .iconst 4, .ior, .istore 3, .goto 52] 49 = x_iload 3 (x_iconst 4 (x_iand (x_ifCond .ne 49 K (x_iload 3 (x_iconst 4 (x_ior (x_istore 3 (x_goto 52 K)))))))) := ((xe_iload 3).trans (congrArg (x_iload 3) ((xe_iconst 4).trans (congrArg (x_iconst 4) ((xe_iand).trans (congrArg (x_iand) ((xe_ifCond .ne 49).trans (congrArg (x_ifCond .ne 49 K) ((xe_iload 3).trans (congrArg (x_iload 3) ((xe_iconst 4).trans (congrArg (x_iconst 4) ((xe_ior).trans (congrArg (x_ior) ((xe_istore 3).trans (congrArg (x_istore 3) (xe_goto 52)))))))))))))))))
theorem bk_X11_walk_49 : ck_ fX11 none cX11_walk 49 [.iconst 1, .istore 4] 52 = true := qck_r (nn_ _) (by decide +kernel)
theorem bs_X11_walk_49 {P : Zt → Option Zv → Prop} (K : Int → Zl → List Zv → Zt → Prop) : sx_ K P [.iconst 1, .istore 4] 52 = x_iconst 1 (x_istore 4 (K 52)) := ((xe_iconst 1).trans (congrArg (x_iconst 1) ((xe_istore 4).trans (congrArg (x_istore 4) xe_nil))))
abbrev po_X11_walk (T : Zt) (bu : Int) (m s : Int) : Zt → Option Zv → Prop := fun T' r => r = none ∧ fr_ [(246, []), (236, []), (237, []), (235, [])] T T' ∧ (FM_ T' ∧ SO_ T T' m ∧ SB1_ T' m (bu + 4))
set_option maxHeartbeats 4000000 in
theorem ct_X11_walk {T : Zt} {bu : Int} {m s : Int} (h1 : 0 ≤ m ∧ m < 400) (hfm : FM_ T) (hbu : 9 ≤ bu ∧ bu ≤ 19000) (hsb : SB1_ T m bu) : Ct_ yX11_walk zX11_walk T [vR 111 0, vI m, vI s] (po_X11_walk T bu m s) := by
  refine ct_of pn_11 rfl rfl (Nat.le_of_ble_eq_true rfl) (fun hT hav => ?_)
  have hr_m : -2147483648 ≤ m ∧ m ≤ 2147483647 := hav (vI m) (by simp)
  have hr_s : -2147483648 ≤ s ∧ s ≤ 2147483647 := hav (vI s) (by simp)
  have hz : zX11_walk.2.2.2.1 = some .boolean → ∀ (T' : Zt) (x : Int), po_X11_walk T bu m s T' (some (vI x)) → 0 ≤ x ∧ x ≤ 1 := fun h => by cases h
  show J_ zX11_walk T (po_X11_walk T bu m s) 0 0 0 [some (vR 111 0), some (vI m), some (vI s), none, none] [] T
  have c_52 : ∀ (b : Int) (u : Int), (0 ≤ u ∧ u ≤ 1) → J_ zX11_walk T (po_X11_walk T bu m s) 0 0 52 [some (vR 111 0), some (vI m), some (vI s), some (vI b), some (vI u)] [] T := by
    intro b u u1
    refine j_blx (F := fX11) tb_X11 (nn_ _) bk_X11_walk_52 bs_X11_walk_52 hz (fun K hK => ?_)
    refine hK 58 _ [vI u, vI b, vI s, vI m, vR 111 0] T ?_
    refine j_callV (y := yX11_advance) (Yc := zX11_advance) (rest := []) [vI m, vI s, vI b, vI u] (ct_X11_advance (T := T) (bu := bu) (by omega) (hfm) (by omega) (by omega) (hsb)) cl_X11_432 (qd_c (by decide +kernel)) (nn_ _) rfl (rf_of rfl) (Nat.le_of_ble_eq_true rfl) (Nat.le_of_ble_eq_true rfl) (Nat.le_of_ble_eq_true rfl) rfl ?_
    rintro U1 _ ⟨rfl, fU1, ⟨qU1, qU1o, qU1b⟩⟩
    show J_ zX11_walk T (po_X11_walk T bu m s) 0 0 61 _ [] U1
    refine j_blx (F := fX11) tb_X11 (nn_ _) bk_X11_walk_61 bs_X11_walk_61 hz (fun K hK => ?_)
    refine (show po_X11_walk T bu m s U1 (none) from ?_)
    exact ⟨rfl, fr_t (fr_0 _ _) (fr_s fU1 rfl), qU1, so_t (so_r) qU1o (fun j => rfl), qU1b⟩
  refine j_blx (F := fX11) tb_X11 (nn_ _) bk_X11_walk_0 bs_X11_walk_0 hz (fun K hK => ?_)
  refine hK 3 _ [vI 4, vI m, vR 111 0] T ?_
  refine j_callV (y := yX11_liveOf) (Yc := zX11_liveOf) (rest := []) [vI m, vI 4] (ct_X11_liveOf (T := T) (by omega) (by omega)) cl_X11_400 (qd_c (by decide +kernel)) (nn_ _) rfl (rf_of rfl) (Nat.le_of_ble_eq_true rfl) (Nat.le_of_ble_eq_true rfl) (Nat.le_of_ble_eq_true rfl) rfl ?_
  rintro _ _ ⟨rfl, rfl⟩
  show J_ zX11_walk T (po_X11_walk T bu m s) 0 0 6 _ [vI (T 246 0 (8 * m + 4))] T
  refine j_blx (F := fX11) tb_X11 (nn_ _) bk_X11_walk_6 bs_X11_walk_6 hz (fun K hK => ?_)
  intro w2 w2b
  refine And.intro (fun c3 => ?_) (fun c3 => ?_)
  · refine hK 23 [some (vR 111 0), some (vI m), some (vI s), some (vI (T 246 0 (8 * m + 4))), some (vI 0)] [] T ?_
    refine j_blx (F := fX11) tb_X11 (nn_ _) bk_X11_walk_23 bs_X11_walk_23 hz (fun K hK => ?_)
    intro w4 w4b
    refine And.intro (fun c5 => ?_) (fun c5 => ?_)
    · refine hK 36 _ [] T ?_
      refine j_blx (F := fX11) tb_X11 (nn_ _) bk_X11_walk_36 bs_X11_walk_36 hz (fun K hK => ?_)
      intro w6 w6b
      refine And.intro (fun c7 => ?_) (fun c7 => ?_)
      · refine hK 49 _ [] T ?_
        refine j_blx (F := fX11) tb_X11 (nn_ _) bk_X11_walk_49 bs_X11_walk_49 hz (fun K hK => ?_)
        refine hK 52 [some (vR 111 0), some (vI m), some (vI s), some (vI (T 246 0 (8 * m + 4))), some (vI 1)] [] T ?_
        refine c_52 (T 246 0 (8 * m + 4)) 1 ?_
        · omega
      · intro w8 w8b
        refine hK 52 [some (vR 111 0), some (vI m), some (vI s), some (vI (or_ (T 246 0 (8 * m + 4)) 4)), some (vI 0)] [] T ?_
        refine c_52 (or_ (T 246 0 (8 * m + 4)) 4) 0 ?_
        · omega
    · intro w9 w9b
      refine hK 52 [some (vR 111 0), some (vI m), some (vI s), some (vI (or_ (T 246 0 (8 * m + 4)) 2)), some (vI 0)] [] T ?_
      refine c_52 (or_ (T 246 0 (8 * m + 4)) 2) 0 ?_
      · omega
  · intro w10 w10b
    refine hK 52 [some (vR 111 0), some (vI m), some (vI s), some (vI (or_ (T 246 0 (8 * m + 4)) 1)), some (vI 0)] [] T ?_
    refine c_52 (or_ (T 246 0 (8 * m + 4)) 1) 0 ?_
    · omega
abbrev cX11_playBaseball : ByteArray := prog_13_method_70_code
def yX11_playBaseball : MethodName := ⟨RX11, "playBaseball", "(IIII)V"⟩
def zX11_playBaseball : Zm := (RX11, cX11_playBaseball, 5, none, { frames := 3, cells := 0, slots := 0, locals := 74 })
theorem bk_X11_playBaseball_0 : ck_ fX11 none cX11_playBaseball 0 [.iload 2] 1 = true := qck_r (nn_ _) (by decide +kernel)
theorem bs_X11_playBaseball_0 {P : Zt → Option Zv → Prop} (K : Int → Zl → List Zv → Zt → Prop) : sx_ K P [.iload 2] 1 = x_iload 2 (K 1) := ((xe_iload 2).trans (congrArg (x_iload 2) xe_nil))
theorem ds_X11_playBaseball_1 : decode cX11_playBaseball 1 = .ok (.tableswitch 103 1 3 #[27, 38, 71], 27) := by decide +kernel
theorem bk_X11_playBaseball_28 : ck_ fX11 none cX11_playBaseball 28 [.aload 0, .iload 1, .iload 3, .iload 4] 33 = true := qck_r (nn_ _) (by decide +kernel)
theorem bs_X11_playBaseball_28 {P : Zt → Option Zv → Prop} (K : Int → Zl → List Zv → Zt → Prop) : sx_ K P [.aload 0, .iload 1, .iload 3, .iload 4] 33 = x_aload 0 (x_iload 1 (x_iload 3 (x_iload 4 (K 33)))) := ((xe_aload 0).trans (congrArg (x_aload 0) ((xe_iload 1).trans (congrArg (x_iload 1) ((xe_iload 3).trans (congrArg (x_iload 3) ((xe_iload 4).trans (congrArg (x_iload 4) xe_nil))))))))
set_option maxRecDepth 100000 in
theorem cl_X11_435 : cv_ RX11 435 yX11_hit zX11_hit 11 3 := ⟨gi_V (lw_b9 114 (by decide +kernel) rfl : Cond.methodLink RX11 435 yX11_hit ∈ lw_g) (lw_b9 116 (by decide +kernel) rfl : Cond.instanceMethod yX11_hit ∈ lw_g) (lw_sel 20 rfl : Cond.selects yX11_hit.cls yX11_hit yX11_hit ∈ lw_g) (lw_b1 10 (by decide +kernel) rfl : Cond.initialized yX11_hit.cls ∈ lw_g) (lw_b9 117 rfl rfl : Cond.code yX11_hit cX11_hit 8 none ∈ lw_g), ⟨by decide, by decide, by decide +kernel⟩, ⟨_, _, rfl⟩⟩
theorem bk_X11_playBaseball_36 : ck_ fX11 none cX11_playBaseball 36 [.goto 109] 39 = true := qck_r (nn_ _) (by decide +kernel)
theorem bs_X11_playBaseball_36 {P : Zt → Option Zv → Prop} (K : Int → Zl → List Zv → Zt → Prop) : sx_ K P [.goto 109] 39 = x_goto 109 K := (xe_goto 109)
theorem bk_X11_playBaseball_109 : ck_ fX11 none cX11_playBaseball 109 [.return_] 110 = true := qck_r (nn_ _) (by decide +kernel)
theorem bs_X11_playBaseball_109 {P : Zt → Option Zv → Prop} (K : Int → Zl → List Zv → Zt → Prop) : sx_ K P [.return_] 110 = x_return_ P := (xe_return_)
theorem bk_X11_playBaseball_39 : ck_ fX11 none cX11_playBaseball 39 [.aload 0, .iload 1, .iconst 1, .aload 0, .iload 1, .iconst 1] 45 = true := qck_r (nn_ _) (by decide +kernel)
theorem bs_X11_playBaseball_39 {P : Zt → Option Zv → Prop} (K : Int → Zl → List Zv → Zt → Prop) : sx_ K P [.aload 0, .iload 1, .iconst 1, .aload 0, .iload 1, .iconst 1] 45 = x_aload 0 (x_iload 1 (x_iconst 1 (x_aload 0 (x_iload 1 (x_iconst 1 (K 45)))))) := ((xe_aload 0).trans (congrArg (x_aload 0) ((xe_iload 1).trans (congrArg (x_iload 1) ((xe_iconst 1).trans (congrArg (x_iconst 1) ((xe_aload 0).trans (congrArg (x_aload 0) ((xe_iload 1).trans (congrArg (x_iload 1) ((xe_iconst 1).trans (congrArg (x_iconst 1) xe_nil))))))))))))
theorem bk_X11_playBaseball_48 : ck_ fX11 none cX11_playBaseball 48 [.iconst 1, .fadd] 50 = true := qck_r (nn_ _) (by decide +kernel)
theorem bs_X11_playBaseball_48 {P : Zt → Option Zv → Prop} (K : Int → Zl → List Zv → Zt → Prop) : sx_ K P [.iconst 1, .fadd] 50 = x_iconst 1 (x_fadd (K 50)) := ((xe_iconst 1).trans (congrArg (x_iconst 1) ((xe_fadd).trans (congrArg (x_fadd) xe_nil))))
theorem bk_X11_playBaseball_53 : ck_ fX11 none cX11_playBaseball 53 [.aload 0, .iload 1, .iconst 1] 56 = true := qck_r (nn_ _) (by decide +kernel)
theorem bs_X11_playBaseball_53 {P : Zt → Option Zv → Prop} (K : Int → Zl → List Zv → Zt → Prop) : sx_ K P [.aload 0, .iload 1, .iconst 1] 56 = x_aload 0 (x_iload 1 (x_iconst 1 (K 56))) := ((xe_aload 0).trans (congrArg (x_aload 0) ((xe_iload 1).trans (congrArg (x_iload 1) ((xe_iconst 1).trans (congrArg (x_iconst 1) xe_nil))))))
theorem bk_X11_playBaseball_59 : ck_ fX11 none cX11_playBaseball 59 [.iconst 4, .if_icmp .ne 109, .aload 0, .iload 1, .iload 3] 66 = true := qck_r (nn_ _) (by decide +kernel)
theorem bs_X11_playBaseball_59 {P : Zt → Option Zv → Prop} (K : Int → Zl → List Zv → Zt → Prop) : sx_ K P [.iconst 4, .if_icmp .ne 109, .aload 0, .iload 1, .iload 3] 66 = x_iconst 4 (x_if_icmp .ne 109 K (x_aload 0 (x_iload 1 (x_iload 3 (K 66))))) := ((xe_iconst 4).trans (congrArg (x_iconst 4) ((xe_if_icmp .ne 109).trans (congrArg (x_if_icmp .ne 109 K) ((xe_aload 0).trans (congrArg (x_aload 0) ((xe_iload 1).trans (congrArg (x_iload 1) ((xe_iload 3).trans (congrArg (x_iload 3) xe_nil))))))))))
set_option maxRecDepth 100000 in
theorem cl_X11_438 : cv_ RX11 438 yX11_walk zX11_walk 11 2 := ⟨gi_V (lw_b9 122 (by decide +kernel) rfl : Cond.methodLink RX11 438 yX11_walk ∈ lw_g) (lw_b9 124 (by decide +kernel) rfl : Cond.instanceMethod yX11_walk ∈ lw_g) (lw_sel 77 rfl : Cond.selects yX11_walk.cls yX11_walk yX11_walk ∈ lw_g) (lw_b1 10 (by decide +kernel) rfl : Cond.initialized yX11_walk.cls ∈ lw_g) (lw_b9 125 rfl rfl : Cond.code yX11_walk cX11_walk 5 none ∈ lw_g), ⟨by decide, by decide, by decide +kernel⟩, ⟨_, _, rfl⟩⟩
theorem bk_X11_playBaseball_69 : ck_ fX11 none cX11_playBaseball 69 [.goto 109] 72 = true := qck_r (nn_ _) (by decide +kernel)
theorem bs_X11_playBaseball_69 {P : Zt → Option Zv → Prop} (K : Int → Zl → List Zv → Zt → Prop) : sx_ K P [.goto 109] 72 = x_goto 109 K := (xe_goto 109)
theorem bk_X11_playBaseball_72 : ck_ fX11 none cX11_playBaseball 72 [.aload 0, .iload 1, .iconst 2, .aload 0, .iload 1, .iconst 2] 78 = true := qck_r (nn_ _) (by decide +kernel)
theorem bs_X11_playBaseball_72 {P : Zt → Option Zv → Prop} (K : Int → Zl → List Zv → Zt → Prop) : sx_ K P [.aload 0, .iload 1, .iconst 2, .aload 0, .iload 1, .iconst 2] 78 = x_aload 0 (x_iload 1 (x_iconst 2 (x_aload 0 (x_iload 1 (x_iconst 2 (K 78)))))) := ((xe_aload 0).trans (congrArg (x_aload 0) ((xe_iload 1).trans (congrArg (x_iload 1) ((xe_iconst 2).trans (congrArg (x_iconst 2) ((xe_aload 0).trans (congrArg (x_aload 0) ((xe_iload 1).trans (congrArg (x_iload 1) ((xe_iconst 2).trans (congrArg (x_iconst 2) xe_nil))))))))))))
theorem bk_X11_playBaseball_81 : ck_ fX11 none cX11_playBaseball 81 [.iconst 1, .fadd] 83 = true := qck_r (nn_ _) (by decide +kernel)
theorem bs_X11_playBaseball_81 {P : Zt → Option Zv → Prop} (K : Int → Zl → List Zv → Zt → Prop) : sx_ K P [.iconst 1, .fadd] 83 = x_iconst 1 (x_fadd (K 83)) := ((xe_iconst 1).trans (congrArg (x_iconst 1) ((xe_fadd).trans (congrArg (x_fadd) xe_nil))))
theorem bk_X11_playBaseball_86 : ck_ fX11 none cX11_playBaseball 86 [.aload 0, .iload 1, .iconst 2] 89 = true := qck_r (nn_ _) (by decide +kernel)
theorem bs_X11_playBaseball_86 {P : Zt → Option Zv → Prop} (K : Int → Zl → List Zv → Zt → Prop) : sx_ K P [.aload 0, .iload 1, .iconst 2] 89 = x_aload 0 (x_iload 1 (x_iconst 2 (K 89))) := ((xe_aload 0).trans (congrArg (x_aload 0) ((xe_iload 1).trans (congrArg (x_iload 1) ((xe_iconst 2).trans (congrArg (x_iconst 2) xe_nil))))))
theorem bk_X11_playBaseball_92 : ck_ fX11 none cX11_playBaseball 92 [.iconst 3, .if_icmp .ne 109, .aload 0, .iload 1] 98 = true := qck_r (nn_ _) (by decide +kernel)
theorem bs_X11_playBaseball_92 {P : Zt → Option Zv → Prop} (K : Int → Zl → List Zv → Zt → Prop) : sx_ K P [.iconst 3, .if_icmp .ne 109, .aload 0, .iload 1] 98 = x_iconst 3 (x_if_icmp .ne 109 K (x_aload 0 (x_iload 1 (K 98)))) := ((xe_iconst 3).trans (congrArg (x_iconst 3) ((xe_if_icmp .ne 109).trans (congrArg (x_if_icmp .ne 109 K) ((xe_aload 0).trans (congrArg (x_aload 0) ((xe_iload 1).trans (congrArg (x_iload 1) xe_nil))))))))
set_option maxRecDepth 100000 in
theorem cl_X11_441 : cv_ RX11 441 yX11_out zX11_out 11 1 := ⟨gi_V (lw_b9 126 (by decide +kernel) rfl : Cond.methodLink RX11 441 yX11_out ∈ lw_g) (lw_b9 128 (by decide +kernel) rfl : Cond.instanceMethod yX11_out ∈ lw_g) (lw_sel 44 rfl : Cond.selects yX11_out.cls yX11_out yX11_out ∈ lw_g) (lw_b1 10 (by decide +kernel) rfl : Cond.initialized yX11_out.cls ∈ lw_g) (lw_b9 129 rfl rfl : Cond.code yX11_out cX11_out 2 none ∈ lw_g), ⟨by decide, by decide, by decide +kernel⟩, ⟨_, _, rfl⟩⟩
theorem bk_X11_playBaseball_101 : ck_ fX11 none cX11_playBaseball 101 [.goto 109] 104 = true := qck_r (nn_ _) (by decide +kernel)
theorem bs_X11_playBaseball_101 {P : Zt → Option Zv → Prop} (K : Int → Zl → List Zv → Zt → Prop) : sx_ K P [.goto 109] 104 = x_goto 109 K := (xe_goto 109)
theorem bk_X11_playBaseball_104 : ck_ fX11 none cX11_playBaseball 104 [.aload 0, .iload 1] 106 = true := qck_r (nn_ _) (by decide +kernel)
theorem bs_X11_playBaseball_104 {P : Zt → Option Zv → Prop} (K : Int → Zl → List Zv → Zt → Prop) : sx_ K P [.aload 0, .iload 1] 106 = x_aload 0 (x_iload 1 (K 106)) := ((xe_aload 0).trans (congrArg (x_aload 0) ((xe_iload 1).trans (congrArg (x_iload 1) xe_nil))))
abbrev po_X11_playBaseball (T : Zt) (bu : Int) (m k s v : Int) : Zt → Option Zv → Prop := fun T' r => r = none ∧ fr_ [(246, []), (236, []), (237, []), (235, [])] T T' ∧ (FM_ T' ∧ SO_ T T' m ∧ SB1_ T' m (bu + 4))
set_option maxHeartbeats 4000000 in
theorem ct_X11_playBaseball {T : Zt} {bu : Int} {m k s v : Int} (h1 : 0 ≤ m ∧ m < 400) (hfm : FM_ T) (hbu : 9 ≤ bu ∧ bu ≤ 19000) (hsb : SB1_ T m bu) : Ct_ yX11_playBaseball zX11_playBaseball T [vR 111 0, vI m, vI k, vI s, vI v] (po_X11_playBaseball T bu m k s v) := by
  refine ct_of pn_11 rfl rfl (Nat.le_of_ble_eq_true rfl) (fun hT hav => ?_)
  have hr_m : -2147483648 ≤ m ∧ m ≤ 2147483647 := hav (vI m) (by simp)
  have hr_k : -2147483648 ≤ k ∧ k ≤ 2147483647 := hav (vI k) (by simp)
  have hr_s : -2147483648 ≤ s ∧ s ≤ 2147483647 := hav (vI s) (by simp)
  have hr_v : -2147483648 ≤ v ∧ v ≤ 2147483647 := hav (vI v) (by simp)
  have hz : zX11_playBaseball.2.2.2.1 = some .boolean → ∀ (T' : Zt) (x : Int), po_X11_playBaseball T bu m k s v T' (some (vI x)) → 0 ≤ x ∧ x ≤ 1 := fun h => by cases h
  show J_ zX11_playBaseball T (po_X11_playBaseball T bu m k s v) 0 0 0 [some (vR 111 0), some (vI m), some (vI k), some (vI s), some (vI v)] [] T
  refine j_blx (F := fX11) tb_X11 (nn_ _) bk_X11_playBaseball_0 bs_X11_playBaseball_0 hz (fun K hK => ?_)
  refine hK 1 _ [vI k] T ?_
  by_cases z1_0 : k = 1
  · refine j_tsI (pc := 1) 0 (off := 27) (tgt := 28) (by decide) ds_X11_playBaseball_1 (by omega) (by decide) rfl (by decide) (by decide) ?_
    refine j_blx (F := fX11) tb_X11 (nn_ _) bk_X11_playBaseball_28 bs_X11_playBaseball_28 hz (fun K hK => ?_)
    refine hK 33 _ [vI v, vI s, vI m, vR 111 0] T ?_
    refine j_callV (y := yX11_hit) (Yc := zX11_hit) (rest := []) [vI m, vI s, vI v] (ct_X11_hit (T := T) (bu := bu) (by omega) (hfm) (by omega) (hsb)) cl_X11_435 (qd_c (by decide +kernel)) (nn_ _) rfl (rf_of rfl) (Nat.le_of_ble_eq_true rfl) (Nat.le_of_ble_eq_true rfl) (Nat.le_of_ble_eq_true rfl) rfl ?_
    rintro U2 _ ⟨rfl, fU2, ⟨qU2, qU2o, qU2b⟩⟩
    show J_ zX11_playBaseball T (po_X11_playBaseball T bu m k s v) 0 0 36 _ [] U2
    refine j_blx (F := fX11) tb_X11 (nn_ _) bk_X11_playBaseball_36 bs_X11_playBaseball_36 hz (fun K hK => ?_)
    refine hK 109 _ [] U2 ?_
    refine j_blx (F := fX11) tb_X11 (nn_ _) bk_X11_playBaseball_109 bs_X11_playBaseball_109 hz (fun K hK => ?_)
    refine (show po_X11_playBaseball T bu m k s v U2 (none) from ?_)
    exact ⟨rfl, fr_t (fr_0 _ _) (fr_s fU2 rfl), qU2, so_t (so_r) qU2o (fun j => rfl), qU2b⟩
  by_cases z1_1 : k = 2
  · refine j_tsI (pc := 1) 1 (off := 38) (tgt := 39) (by decide) ds_X11_playBaseball_1 (by omega) (by decide) rfl (by decide) (by decide) ?_
    refine j_blx (F := fX11) tb_X11 (nn_ _) bk_X11_playBaseball_39 bs_X11_playBaseball_39 hz (fun K hK => ?_)
    refine hK 45 _ [vI 1, vI m, vR 111 0, vI 1, vI m, vR 111 0] T ?_
    refine j_callV (y := yX11_liveOf) (Yc := zX11_liveOf) (rest := [vI 1, vI m, vR 111 0]) [vI m, vI 1] (ct_X11_liveOf (T := T) (by omega) (by omega)) cl_X11_400 (qd_c (by decide +kernel)) (nn_ _) rfl (rf_of rfl) (Nat.le_of_ble_eq_true rfl) (Nat.le_of_ble_eq_true rfl) (Nat.le_of_ble_eq_true rfl) rfl ?_
    rintro _ _ ⟨rfl, rfl⟩
    show J_ zX11_playBaseball T (po_X11_playBaseball T bu m k s v) 0 0 48 _ [vI (T 246 0 (8 * m + 1)), vI 1, vI m, vR 111 0] T
    refine j_blx (F := fX11) tb_X11 (nn_ _) bk_X11_playBaseball_48 bs_X11_playBaseball_48 hz (fun K hK => ?_)
    intro w3 w3b
    refine hK 50 _ [vI (wr_ ((T 246 0 (8 * m + 1)) + 1)), vI 1, vI m, vR 111 0] T ?_
    refine j_callV (y := yX11_setLive) (Yc := zX11_setLive) (rest := []) [vI m, vI 1, vI (wr_ ((T 246 0 (8 * m + 1)) + 1))] (ct_X11_setLive (T := T) (by omega) (by omega)) cl_X11_410 (qd_c (by decide +kernel)) (nn_ _) rfl (rf_of rfl) (Nat.le_of_ble_eq_true rfl) (Nat.le_of_ble_eq_true rfl) (Nat.le_of_ble_eq_true rfl) rfl ?_
    rintro U4 _ ⟨rfl, fU4, _⟩
    show J_ zX11_playBaseball T (po_X11_playBaseball T bu m k s v) 0 0 53 _ [] U4
    refine j_blx (F := fX11) tb_X11 (nn_ _) bk_X11_playBaseball_53 bs_X11_playBaseball_53 hz (fun K hK => ?_)
    refine hK 56 _ [vI 1, vI m, vR 111 0] U4 ?_
    refine j_callV (y := yX11_liveOf) (Yc := zX11_liveOf) (rest := []) [vI m, vI 1] (ct_X11_liveOf (T := U4) (by omega) (by omega)) cl_X11_400 (qd_c (by decide +kernel)) (nn_ _) rfl (rf_of rfl) (Nat.le_of_ble_eq_true rfl) (Nat.le_of_ble_eq_true rfl) (Nat.le_of_ble_eq_true rfl) rfl ?_
    rintro _ _ ⟨rfl, rfl⟩
    show J_ zX11_playBaseball T (po_X11_playBaseball T bu m k s v) 0 0 59 _ [vI (U4 246 0 (8 * m + 1))] U4
    refine j_blx (F := fX11) tb_X11 (nn_ _) bk_X11_playBaseball_59 bs_X11_playBaseball_59 hz (fun K hK => ?_)
    refine And.intro (fun c5 => ?_) (fun c5 => ?_)
    · refine hK 109 _ [] U4 ?_
      refine j_blx (F := fX11) tb_X11 (nn_ _) bk_X11_playBaseball_109 bs_X11_playBaseball_109 hz (fun K hK => ?_)
      refine (show po_X11_playBaseball T bu m k s v U4 (none) from ?_)
      exact ⟨rfl, fr_t (fr_0 _ _) (fr_s fU4 rfl), FM__f (ws := [(246, [])]) (hfm) fU4 ⟨fun _ => rfl, fun _ => rfl, trivial⟩, so_f (ws := [(246, [])]) (so_r) fU4 ⟨fun _ => rfl, fun _ => rfl, fun _ => rfl⟩, sb1_f (ws := [(246, [])]) (sb1_m (c := bu + 4) hsb (by omega)) fU4 ⟨fun _ => rfl, fun _ => rfl, fun _ => rfl⟩⟩
    · refine hK 66 _ [vI s, vI m, vR 111 0] U4 ?_
      refine j_callV (y := yX11_walk) (Yc := zX11_walk) (rest := []) [vI m, vI s] (ct_X11_walk (T := U4) (bu := bu) (by omega) (FM__f (ws := [(246, [])]) (hfm) fU4 ⟨fun _ => rfl, fun _ => rfl, trivial⟩) (by omega) (sb1_f (ws := [(246, [])]) (hsb) fU4 ⟨fun _ => rfl, fun _ => rfl, fun _ => rfl⟩)) cl_X11_438 (qd_c (by decide +kernel)) (nn_ _) rfl (rf_of rfl) (Nat.le_of_ble_eq_true rfl) (Nat.le_of_ble_eq_true rfl) (Nat.le_of_ble_eq_true rfl) rfl ?_
      rintro U6 _ ⟨rfl, fU6, ⟨qU6, qU6o, qU6b⟩⟩
      show J_ zX11_playBaseball T (po_X11_playBaseball T bu m k s v) 0 0 69 _ [] U6
      refine j_blx (F := fX11) tb_X11 (nn_ _) bk_X11_playBaseball_69 bs_X11_playBaseball_69 hz (fun K hK => ?_)
      refine hK 109 _ [] U6 ?_
      refine j_blx (F := fX11) tb_X11 (nn_ _) bk_X11_playBaseball_109 bs_X11_playBaseball_109 hz (fun K hK => ?_)
      refine (show po_X11_playBaseball T bu m k s v U6 (none) from ?_)
      exact ⟨rfl, fr_t (fr_t (fr_0 _ _) (fr_s fU4 rfl)) (fr_s fU6 rfl), qU6, so_t (so_f (ws := [(246, [])]) (so_r) fU4 ⟨fun _ => rfl, fun _ => rfl, fun _ => rfl⟩) qU6o (fun j => fU4 239 0 j rfl), qU6b⟩
  by_cases z1_2 : k = 3
  · refine j_tsI (pc := 1) 2 (off := 71) (tgt := 72) (by decide) ds_X11_playBaseball_1 (by omega) (by decide) rfl (by decide) (by decide) ?_
    refine j_blx (F := fX11) tb_X11 (nn_ _) bk_X11_playBaseball_72 bs_X11_playBaseball_72 hz (fun K hK => ?_)
    refine hK 78 _ [vI 2, vI m, vR 111 0, vI 2, vI m, vR 111 0] T ?_
    refine j_callV (y := yX11_liveOf) (Yc := zX11_liveOf) (rest := [vI 2, vI m, vR 111 0]) [vI m, vI 2] (ct_X11_liveOf (T := T) (by omega) (by omega)) cl_X11_400 (qd_c (by decide +kernel)) (nn_ _) rfl (rf_of rfl) (Nat.le_of_ble_eq_true rfl) (Nat.le_of_ble_eq_true rfl) (Nat.le_of_ble_eq_true rfl) rfl ?_
    rintro _ _ ⟨rfl, rfl⟩
    show J_ zX11_playBaseball T (po_X11_playBaseball T bu m k s v) 0 0 81 _ [vI (T 246 0 (8 * m + 2)), vI 2, vI m, vR 111 0] T
    refine j_blx (F := fX11) tb_X11 (nn_ _) bk_X11_playBaseball_81 bs_X11_playBaseball_81 hz (fun K hK => ?_)
    intro w7 w7b
    refine hK 83 _ [vI (wr_ ((T 246 0 (8 * m + 2)) + 1)), vI 2, vI m, vR 111 0] T ?_
    refine j_callV (y := yX11_setLive) (Yc := zX11_setLive) (rest := []) [vI m, vI 2, vI (wr_ ((T 246 0 (8 * m + 2)) + 1))] (ct_X11_setLive (T := T) (by omega) (by omega)) cl_X11_410 (qd_c (by decide +kernel)) (nn_ _) rfl (rf_of rfl) (Nat.le_of_ble_eq_true rfl) (Nat.le_of_ble_eq_true rfl) (Nat.le_of_ble_eq_true rfl) rfl ?_
    rintro U8 _ ⟨rfl, fU8, _⟩
    show J_ zX11_playBaseball T (po_X11_playBaseball T bu m k s v) 0 0 86 _ [] U8
    refine j_blx (F := fX11) tb_X11 (nn_ _) bk_X11_playBaseball_86 bs_X11_playBaseball_86 hz (fun K hK => ?_)
    refine hK 89 _ [vI 2, vI m, vR 111 0] U8 ?_
    refine j_callV (y := yX11_liveOf) (Yc := zX11_liveOf) (rest := []) [vI m, vI 2] (ct_X11_liveOf (T := U8) (by omega) (by omega)) cl_X11_400 (qd_c (by decide +kernel)) (nn_ _) rfl (rf_of rfl) (Nat.le_of_ble_eq_true rfl) (Nat.le_of_ble_eq_true rfl) (Nat.le_of_ble_eq_true rfl) rfl ?_
    rintro _ _ ⟨rfl, rfl⟩
    show J_ zX11_playBaseball T (po_X11_playBaseball T bu m k s v) 0 0 92 _ [vI (U8 246 0 (8 * m + 2))] U8
    refine j_blx (F := fX11) tb_X11 (nn_ _) bk_X11_playBaseball_92 bs_X11_playBaseball_92 hz (fun K hK => ?_)
    refine And.intro (fun c9 => ?_) (fun c9 => ?_)
    · refine hK 109 _ [] U8 ?_
      refine j_blx (F := fX11) tb_X11 (nn_ _) bk_X11_playBaseball_109 bs_X11_playBaseball_109 hz (fun K hK => ?_)
      refine (show po_X11_playBaseball T bu m k s v U8 (none) from ?_)
      exact ⟨rfl, fr_t (fr_0 _ _) (fr_s fU8 rfl), FM__f (ws := [(246, [])]) (hfm) fU8 ⟨fun _ => rfl, fun _ => rfl, trivial⟩, so_f (ws := [(246, [])]) (so_r) fU8 ⟨fun _ => rfl, fun _ => rfl, fun _ => rfl⟩, sb1_f (ws := [(246, [])]) (sb1_m (c := bu + 4) hsb (by omega)) fU8 ⟨fun _ => rfl, fun _ => rfl, fun _ => rfl⟩⟩
    · refine hK 98 _ [vI m, vR 111 0] U8 ?_
      refine j_callV (y := yX11_out) (Yc := zX11_out) (rest := []) [vI m] (ct_X11_out (T := U8) (by omega) (FM__f (ws := [(246, [])]) (hfm) fU8 ⟨fun _ => rfl, fun _ => rfl, trivial⟩)) cl_X11_441 (qd_c (by decide +kernel)) (nn_ _) rfl (rf_of rfl) (Nat.le_of_ble_eq_true rfl) (Nat.le_of_ble_eq_true rfl) (Nat.le_of_ble_eq_true rfl) rfl ?_
      rintro U10 _ ⟨rfl, fU10, qU10⟩
      show J_ zX11_playBaseball T (po_X11_playBaseball T bu m k s v) 0 0 101 _ [] U10
      refine j_blx (F := fX11) tb_X11 (nn_ _) bk_X11_playBaseball_101 bs_X11_playBaseball_101 hz (fun K hK => ?_)
      refine hK 109 _ [] U10 ?_
      refine j_blx (F := fX11) tb_X11 (nn_ _) bk_X11_playBaseball_109 bs_X11_playBaseball_109 hz (fun K hK => ?_)
      refine (show po_X11_playBaseball T bu m k s v U10 (none) from ?_)
      exact ⟨rfl, fr_t (fr_t (fr_0 _ _) (fr_s fU8 rfl)) (fr_s fU10 rfl), qU10, so_f (ws := [(246, []), (235, [])]) (so_f (ws := [(246, [])]) (so_r) fU8 ⟨fun _ => rfl, fun _ => rfl, fun _ => rfl⟩) fU10 ⟨fun _ => rfl, fun _ => rfl, fun _ => rfl⟩, sb1_f (ws := [(246, []), (235, [])]) (sb1_f (ws := [(246, [])]) (sb1_m (c := bu + 4) hsb (by omega)) fU8 ⟨fun _ => rfl, fun _ => rfl, fun _ => rfl⟩) fU10 ⟨fun _ => rfl, fun _ => rfl, fun _ => rfl⟩⟩
  refine j_tsO (pc := 1) (tgt := 104) (by decide) ds_X11_playBaseball_1 (by omega) (by decide) (by decide) ?_
  refine j_blx (F := fX11) tb_X11 (nn_ _) bk_X11_playBaseball_104 bs_X11_playBaseball_104 hz (fun K hK => ?_)
  refine hK 106 _ [vI m, vR 111 0] T ?_
  refine j_callV (y := yX11_out) (Yc := zX11_out) (rest := []) [vI m] (ct_X11_out (T := T) (by omega) (hfm)) cl_X11_441 (qd_c (by decide +kernel)) (nn_ _) rfl (rf_of rfl) (Nat.le_of_ble_eq_true rfl) (Nat.le_of_ble_eq_true rfl) (Nat.le_of_ble_eq_true rfl) rfl ?_
  rintro U11 _ ⟨rfl, fU11, qU11⟩
  show J_ zX11_playBaseball T (po_X11_playBaseball T bu m k s v) 0 0 109 _ [] U11
  refine j_blx (F := fX11) tb_X11 (nn_ _) bk_X11_playBaseball_109 bs_X11_playBaseball_109 hz (fun K hK => ?_)
  refine (show po_X11_playBaseball T bu m k s v U11 (none) from ?_)
  exact ⟨rfl, fr_t (fr_0 _ _) (fr_s fU11 rfl), qU11, so_f (ws := [(246, []), (235, [])]) (so_r) fU11 ⟨fun _ => rfl, fun _ => rfl, fun _ => rfl⟩, sb1_f (ws := [(246, []), (235, [])]) (sb1_m (c := bu + 4) hsb (by omega)) fU11 ⟨fun _ => rfl, fun _ => rfl, fun _ => rfl⟩⟩
abbrev cX11_play : ByteArray := prog_13_method_71_code
def yX11_play : MethodName := ⟨RX11, "play", "(IIIII)V"⟩
def zX11_play : Zm := (RX11, cX11_play, 6, none, { frames := 4, cells := 0, slots := 0, locals := 98 })
theorem bk_X11_play_0 : ck_ fX11 none cX11_play 0 [.aload 0, .aload 0, .tableswitch 0 11 30 #[], .iload 1, .iaload, .iconst 0] 8 = true := qck_r (nn_ _) (by decide +kernel)
theorem bs_X11_play_0 {P : Zt → Option Zv → Prop} (K : Int → Zl → List Zv → Zt → Prop) : sx_ K P [.aload 0, .aload 0, .tableswitch 0 11 30 #[], .iload 1, .iaload, .iconst 0] 8 = x_aload 0 (x_aload 0 (x_g1 111 230 (x_iload 1 (x_iaload (x_iconst 0 (K 8)))))) := ((xe_aload 0).trans (congrArg (x_aload 0) ((xe_aload 0).trans (congrArg (x_aload 0) ((xe_g1 (kk := 111) rfl tl_11_30).trans (congrArg (x_g1 111 230) ((xe_iload 1).trans (congrArg (x_iload 1) ((xe_iaload).trans (congrArg (x_iaload) ((xe_iconst 0).trans (congrArg (x_iconst 0) xe_nil))))))))))))
theorem ds_X11_play_11 : decode cX11_play 11 = .ok (.tableswitch 63 0 2 #[25, 39, 53], 25) := by decide +kernel
theorem bk_X11_play_36 : ck_ fX11 none cX11_play 36 [.aload 0, .iload 1, .iload 2, .iload 3, .iload 4, .iload 5] 44 = true := qck_r (nn_ _) (by decide +kernel)
theorem bs_X11_play_36 {P : Zt → Option Zv → Prop} (K : Int → Zl → List Zv → Zt → Prop) : sx_ K P [.aload 0, .iload 1, .iload 2, .iload 3, .iload 4, .iload 5] 44 = x_aload 0 (x_iload 1 (x_iload 2 (x_iload 3 (x_iload 4 (x_iload 5 (K 44)))))) := ((xe_aload 0).trans (congrArg (x_aload 0) ((xe_iload 1).trans (congrArg (x_iload 1) ((xe_iload 2).trans (congrArg (x_iload 2) ((xe_iload 3).trans (congrArg (x_iload 3) ((xe_iload 4).trans (congrArg (x_iload 4) ((xe_iload 5).trans (congrArg (x_iload 5) xe_nil))))))))))))
set_option maxRecDepth 100000 in
theorem cl_X11_444 : cv_ RX11 444 yX11_playFootball zX11_playFootball 11 5 := ⟨gi_V (lw_b9 74 (by decide +kernel) rfl : Cond.methodLink RX11 444 yX11_playFootball ∈ lw_g) (lw_b9 76 (by decide +kernel) rfl : Cond.instanceMethod yX11_playFootball ∈ lw_g) (lw_sel 49 rfl : Cond.selects yX11_playFootball.cls yX11_playFootball yX11_playFootball ∈ lw_g) (lw_b1 10 (by decide +kernel) rfl : Cond.initialized yX11_playFootball.cls ∈ lw_g) (lw_b9 77 rfl rfl : Cond.code yX11_playFootball cX11_playFootball 7 none ∈ lw_g), ⟨by decide, by decide, by decide +kernel⟩, ⟨_, _, rfl⟩⟩
theorem bk_X11_play_47 : ck_ fX11 none cX11_play 47 [.goto 83] 50 = true := qck_r (nn_ _) (by decide +kernel)
theorem bs_X11_play_47 {P : Zt → Option Zv → Prop} (K : Int → Zl → List Zv → Zt → Prop) : sx_ K P [.goto 83] 50 = x_goto 83 K := (xe_goto 83)
theorem bk_X11_play_83 : ck_ fX11 none cX11_play 83 [.return_] 84 = true := qck_r (nn_ _) (by decide +kernel)
theorem bs_X11_play_83 {P : Zt → Option Zv → Prop} (K : Int → Zl → List Zv → Zt → Prop) : sx_ K P [.return_] 84 = x_return_ P := (xe_return_)
theorem bk_X11_play_50 : ck_ fX11 none cX11_play 50 [.aload 0, .iload 1, .iload 2, .iload 3, .iload 4, .iload 5] 58 = true := qck_r (nn_ _) (by decide +kernel)
theorem bs_X11_play_50 {P : Zt → Option Zv → Prop} (K : Int → Zl → List Zv → Zt → Prop) : sx_ K P [.aload 0, .iload 1, .iload 2, .iload 3, .iload 4, .iload 5] 58 = x_aload 0 (x_iload 1 (x_iload 2 (x_iload 3 (x_iload 4 (x_iload 5 (K 58)))))) := ((xe_aload 0).trans (congrArg (x_aload 0) ((xe_iload 1).trans (congrArg (x_iload 1) ((xe_iload 2).trans (congrArg (x_iload 2) ((xe_iload 3).trans (congrArg (x_iload 3) ((xe_iload 4).trans (congrArg (x_iload 4) ((xe_iload 5).trans (congrArg (x_iload 5) xe_nil))))))))))))
set_option maxRecDepth 100000 in
theorem cl_X11_447 : cv_ RX11 447 yX11_playVolleyball zX11_playVolleyball 11 5 := ⟨gi_V (lw_b9 94 (by decide +kernel) rfl : Cond.methodLink RX11 447 yX11_playVolleyball ∈ lw_g) (lw_b9 96 (by decide +kernel) rfl : Cond.instanceMethod yX11_playVolleyball ∈ lw_g) (lw_sel 51 rfl : Cond.selects yX11_playVolleyball.cls yX11_playVolleyball yX11_playVolleyball ∈ lw_g) (lw_b1 10 (by decide +kernel) rfl : Cond.initialized yX11_playVolleyball.cls ∈ lw_g) (lw_b9 97 rfl rfl : Cond.code yX11_playVolleyball cX11_playVolleyball 9 none ∈ lw_g), ⟨by decide, by decide, by decide +kernel⟩, ⟨_, _, rfl⟩⟩
theorem bk_X11_play_61 : ck_ fX11 none cX11_play 61 [.goto 83] 64 = true := qck_r (nn_ _) (by decide +kernel)
theorem bs_X11_play_61 {P : Zt → Option Zv → Prop} (K : Int → Zl → List Zv → Zt → Prop) : sx_ K P [.goto 83] 64 = x_goto 83 K := (xe_goto 83)
theorem bk_X11_play_64 : ck_ fX11 none cX11_play 64 [.aload 0, .iload 1, .iload 2, .iload 3] 68 = true := qck_r (nn_ _) (by decide +kernel)
theorem bs_X11_play_64 {P : Zt → Option Zv → Prop} (K : Int → Zl → List Zv → Zt → Prop) : sx_ K P [.aload 0, .iload 1, .iload 2, .iload 3] 68 = x_aload 0 (x_iload 1 (x_iload 2 (x_iload 3 (K 68)))) := ((xe_aload 0).trans (congrArg (x_aload 0) ((xe_iload 1).trans (congrArg (x_iload 1) ((xe_iload 2).trans (congrArg (x_iload 2) ((xe_iload 3).trans (congrArg (x_iload 3) xe_nil))))))))
set_option maxRecDepth 100000 in
theorem cl_X11_450 : cv_ RX11 450 yX11_playTennis zX11_playTennis 11 3 := ⟨gi_V (lw_b9 106 (by decide +kernel) rfl : Cond.methodLink RX11 450 yX11_playTennis ∈ lw_g) (lw_b9 108 (by decide +kernel) rfl : Cond.instanceMethod yX11_playTennis ∈ lw_g) (lw_sel 50 rfl : Cond.selects yX11_playTennis.cls yX11_playTennis yX11_playTennis ∈ lw_g) (lw_b1 10 (by decide +kernel) rfl : Cond.initialized yX11_playTennis.cls ∈ lw_g) (lw_b9 109 rfl rfl : Cond.code yX11_playTennis cX11_playTennis 8 none ∈ lw_g), ⟨by decide, by decide, by decide +kernel⟩, ⟨_, _, rfl⟩⟩
theorem bk_X11_play_71 : ck_ fX11 none cX11_play 71 [.goto 83] 74 = true := qck_r (nn_ _) (by decide +kernel)
theorem bs_X11_play_71 {P : Zt → Option Zv → Prop} (K : Int → Zl → List Zv → Zt → Prop) : sx_ K P [.goto 83] 74 = x_goto 83 K := (xe_goto 83)
theorem bk_X11_play_74 : ck_ fX11 none cX11_play 74 [.aload 0, .iload 1, .iload 2, .iload 3, .iload 5] 80 = true := qck_r (nn_ _) (by decide +kernel)
theorem bs_X11_play_74 {P : Zt → Option Zv → Prop} (K : Int → Zl → List Zv → Zt → Prop) : sx_ K P [.aload 0, .iload 1, .iload 2, .iload 3, .iload 5] 80 = x_aload 0 (x_iload 1 (x_iload 2 (x_iload 3 (x_iload 5 (K 80))))) := ((xe_aload 0).trans (congrArg (x_aload 0) ((xe_iload 1).trans (congrArg (x_iload 1) ((xe_iload 2).trans (congrArg (x_iload 2) ((xe_iload 3).trans (congrArg (x_iload 3) ((xe_iload 5).trans (congrArg (x_iload 5) xe_nil))))))))))
set_option maxRecDepth 100000 in
theorem cl_X11_453 : cv_ RX11 453 yX11_playBaseball zX11_playBaseball 11 4 := ⟨gi_V (lw_b9 110 (by decide +kernel) rfl : Cond.methodLink RX11 453 yX11_playBaseball ∈ lw_g) (lw_b9 112 (by decide +kernel) rfl : Cond.instanceMethod yX11_playBaseball ∈ lw_g) (lw_sel 48 rfl : Cond.selects yX11_playBaseball.cls yX11_playBaseball yX11_playBaseball ∈ lw_g) (lw_b1 10 (by decide +kernel) rfl : Cond.initialized yX11_playBaseball.cls ∈ lw_g) (lw_b9 113 rfl rfl : Cond.code yX11_playBaseball cX11_playBaseball 5 none ∈ lw_g), ⟨by decide, by decide, by decide +kernel⟩, ⟨_, _, rfl⟩⟩
abbrev po_X11_play (T : Zt) (bu : Int) (m k s p q : Int) : Zt → Option Zv → Prop := fun T' r => r = none ∧ fr_ [(244, []), (241, []), (242, []), (243, []), (245, []), (246, []), (236, []), (237, []), (235, [])] T T' ∧ (FM_ T' ∧ SO_ T T' m ∧ SB1_ T' m (bu + 4))
set_option maxHeartbeats 4000000 in
theorem ct_X11_play {T : Zt} {bu : Int} {m k s p q : Int} (h1 : 0 ≤ m ∧ m < T 111 0 29) (hmc : MC_ T) (hri : RI_ T) (hfm : FM_ T) (hl : LW_ T m k s p q) (hbu : 9 ≤ bu ∧ bu ≤ 19000) (hsb : SB1_ T m bu) : Ct_ yX11_play zX11_play T [vR 111 0, vI m, vI k, vI s, vI p, vI q] (po_X11_play T bu m k s p q) := by
  refine ct_of pn_11 rfl rfl (Nat.le_of_ble_eq_true rfl) (fun hT hav => ?_)
  have hr_m : -2147483648 ≤ m ∧ m ≤ 2147483647 := hav (vI m) (by simp)
  have hr_k : -2147483648 ≤ k ∧ k ≤ 2147483647 := hav (vI k) (by simp)
  have hr_s : -2147483648 ≤ s ∧ s ≤ 2147483647 := hav (vI s) (by simp)
  have hr_p : -2147483648 ≤ p ∧ p ≤ 2147483647 := hav (vI p) (by simp)
  have hr_q : -2147483648 ≤ q ∧ q ≤ 2147483647 := hav (vI q) (by simp)
  have hz : zX11_play.2.2.2.1 = some .boolean → ∀ (T' : Zt) (x : Int), po_X11_play T bu m k s p q T' (some (vI x)) → 0 ≤ x ∧ x ≤ 1 := fun h => by cases h
  have hb_29 : 0 ≤ T 111 0 29 ∧ T 111 0 29 ≤ 400 := bd_f hT 111 29 (by decide +kernel : (tf_ 111)[29]? = some (0, 0, 0, 400)) 0
  have hcb : 0 ≤ T 230 0 m ∧ T 230 0 m ≤ 3 := bd_a hT 230 (by decide +kernel : ta_ 230 = some (1, some 400, 0, 3)) 0 (by omega)
  obtain ⟨hgo, l0, l1, l2⟩ := hl
  have hcm := hmc m (by omega) (by omega)
  have hr0 : (0 : Int) ≤ T 205 0 (23 * T 230 0 m + 0) ∧ T 205 0 (23 * T 230 0 m + 0) ≤ (3 : Int) := hri (T 230 0 m) 0 (by omega) (by omega) (by omega) (by omega)
  show J_ zX11_play T (po_X11_play T bu m k s p q) 0 0 0 [some (vR 111 0), some (vI m), some (vI k), some (vI s), some (vI p), some (vI q)] [] T
  refine j_blx (F := fX11) tb_X11 (nn_ _) bk_X11_play_0 bs_X11_play_0 hz (fun K hK => ?_)
  refine ix_i (by omega) ?_
  intro b1 b1b
  refine hK 8 _ [vI 0, vI (T 230 0 m), vR 111 0] T ?_
  refine j_callV (y := yX11_rule0) (Yc := zX11_rule0) (rest := []) [vI (T 230 0 m), vI 0] (ct_X11_rule0 (T := T) (by omega) (by omega)) cl_X11_321 (qd_c (by decide +kernel)) (nn_ _) rfl (rf_of rfl) (Nat.le_of_ble_eq_true rfl) (Nat.le_of_ble_eq_true rfl) (Nat.le_of_ble_eq_true rfl) rfl ?_
  rintro _ _ ⟨rfl, rfl⟩
  show J_ zX11_play T (po_X11_play T bu m k s p q) 0 0 11 _ [vI (T 205 0 (23 * (T 230 0 m) + 0))] T
  by_cases z2_0 : (T 205 0 (23 * (T 230 0 m) + 0)) = 0
  · refine j_tsI (pc := 11) 0 (off := 25) (tgt := 36) (by decide) ds_X11_play_11 (by omega) (by decide) rfl (by decide) (by decide) ?_
    refine j_blx (F := fX11) tb_X11 (nn_ _) bk_X11_play_36 bs_X11_play_36 hz (fun K hK => ?_)
    refine hK 44 _ [vI q, vI p, vI s, vI k, vI m, vR 111 0] T ?_
    refine j_callV (y := yX11_playFootball) (Yc := zX11_playFootball) (rest := []) [vI m, vI k, vI s, vI p, vI q] (ct_X11_playFootball (T := T) (bu := bu) (by omega) (by exact hmc) (by exact hri) (by exact hfm) (by exact hgo) (by exact ⟨(l0 (by omega)).1, (l0 (by omega)).2.1⟩) (by exact (l0 (by omega)).2.2.1.imp id (fun y => ⟨y.1, y.2.1⟩)) (by exact (l0 (by omega)).2.2.1.imp id (fun y => y.2.2)) (by exact (l0 (by omega)).2.2.2) (by omega) (hsb)) cl_X11_444 (qd_c (by decide +kernel)) (nn_ _) rfl (rf_of rfl) (Nat.le_of_ble_eq_true rfl) (Nat.le_of_ble_eq_true rfl) (Nat.le_of_ble_eq_true rfl) rfl ?_
    rintro U3 _ ⟨rfl, fU3, ⟨qU3, qU3o, qU3b⟩⟩
    show J_ zX11_play T (po_X11_play T bu m k s p q) 0 0 47 _ [] U3
    refine j_blx (F := fX11) tb_X11 (nn_ _) bk_X11_play_47 bs_X11_play_47 hz (fun K hK => ?_)
    refine hK 83 _ [] U3 ?_
    refine j_blx (F := fX11) tb_X11 (nn_ _) bk_X11_play_83 bs_X11_play_83 hz (fun K hK => ?_)
    refine (show po_X11_play T bu m k s p q U3 (none) from ?_)
    exact ⟨rfl, fr_t (fr_0 _ _) (fr_s fU3 rfl), qU3, so_t (so_r) qU3o (fun j => rfl), qU3b⟩
  by_cases z2_1 : (T 205 0 (23 * (T 230 0 m) + 0)) = 1
  · refine j_tsI (pc := 11) 1 (off := 39) (tgt := 50) (by decide) ds_X11_play_11 (by omega) (by decide) rfl (by decide) (by decide) ?_
    refine j_blx (F := fX11) tb_X11 (nn_ _) bk_X11_play_50 bs_X11_play_50 hz (fun K hK => ?_)
    refine hK 58 _ [vI q, vI p, vI s, vI k, vI m, vR 111 0] T ?_
    refine j_callV (y := yX11_playVolleyball) (Yc := zX11_playVolleyball) (rest := []) [vI m, vI k, vI s, vI p, vI q] (ct_X11_playVolleyball (T := T) (bu := bu) (by omega) (by exact hmc) (by exact hri) (by exact hfm) (by exact hgo) (by exact (l1 (by omega)).1) (by exact ⟨(l1 (by omega)).2.1, (l1 (by omega)).2.2.1⟩) (by exact (l1 (by omega)).2.2.2) (by omega) (hsb)) cl_X11_447 (qd_c (by decide +kernel)) (nn_ _) rfl (rf_of rfl) (Nat.le_of_ble_eq_true rfl) (Nat.le_of_ble_eq_true rfl) (Nat.le_of_ble_eq_true rfl) rfl ?_
    rintro U4 _ ⟨rfl, fU4, ⟨qU4, qU4o, qU4b⟩⟩
    show J_ zX11_play T (po_X11_play T bu m k s p q) 0 0 61 _ [] U4
    refine j_blx (F := fX11) tb_X11 (nn_ _) bk_X11_play_61 bs_X11_play_61 hz (fun K hK => ?_)
    refine hK 83 _ [] U4 ?_
    refine j_blx (F := fX11) tb_X11 (nn_ _) bk_X11_play_83 bs_X11_play_83 hz (fun K hK => ?_)
    refine (show po_X11_play T bu m k s p q U4 (none) from ?_)
    exact ⟨rfl, fr_t (fr_0 _ _) (fr_s fU4 rfl), qU4, so_t (so_r) qU4o (fun j => rfl), qU4b⟩
  by_cases z2_2 : (T 205 0 (23 * (T 230 0 m) + 0)) = 2
  · refine j_tsI (pc := 11) 2 (off := 53) (tgt := 64) (by decide) ds_X11_play_11 (by omega) (by decide) rfl (by decide) (by decide) ?_
    refine j_blx (F := fX11) tb_X11 (nn_ _) bk_X11_play_64 bs_X11_play_64 hz (fun K hK => ?_)
    refine hK 68 _ [vI s, vI k, vI m, vR 111 0] T ?_
    refine j_callV (y := yX11_playTennis) (Yc := zX11_playTennis) (rest := []) [vI m, vI k, vI s] (ct_X11_playTennis (T := T) (bu := bu) (by omega) (by exact l2 (by omega)) (by exact hfm) (by omega) (hsb)) cl_X11_450 (qd_c (by decide +kernel)) (nn_ _) rfl (rf_of rfl) (Nat.le_of_ble_eq_true rfl) (Nat.le_of_ble_eq_true rfl) (Nat.le_of_ble_eq_true rfl) rfl ?_
    rintro U5 _ ⟨rfl, fU5, ⟨qU5, qU5o, qU5b⟩⟩
    show J_ zX11_play T (po_X11_play T bu m k s p q) 0 0 71 _ [] U5
    refine j_blx (F := fX11) tb_X11 (nn_ _) bk_X11_play_71 bs_X11_play_71 hz (fun K hK => ?_)
    refine hK 83 _ [] U5 ?_
    refine j_blx (F := fX11) tb_X11 (nn_ _) bk_X11_play_83 bs_X11_play_83 hz (fun K hK => ?_)
    refine (show po_X11_play T bu m k s p q U5 (none) from ?_)
    exact ⟨rfl, fr_t (fr_0 _ _) (fr_s fU5 rfl), qU5, so_t (so_r) qU5o (fun j => rfl), qU5b⟩
  refine j_tsO (pc := 11) (tgt := 74) (by decide) ds_X11_play_11 (by omega) (by decide) (by decide) ?_
  refine j_blx (F := fX11) tb_X11 (nn_ _) bk_X11_play_74 bs_X11_play_74 hz (fun K hK => ?_)
  refine hK 80 _ [vI q, vI s, vI k, vI m, vR 111 0] T ?_
  refine j_callV (y := yX11_playBaseball) (Yc := zX11_playBaseball) (rest := []) [vI m, vI k, vI s, vI q] (ct_X11_playBaseball (T := T) (bu := bu) (by omega) (by exact hfm) (by omega) (hsb)) cl_X11_453 (qd_c (by decide +kernel)) (nn_ _) rfl (rf_of rfl) (Nat.le_of_ble_eq_true rfl) (Nat.le_of_ble_eq_true rfl) (Nat.le_of_ble_eq_true rfl) rfl ?_
  rintro U6 _ ⟨rfl, fU6, ⟨qU6, qU6o, qU6b⟩⟩
  show J_ zX11_play T (po_X11_play T bu m k s p q) 0 0 83 _ [] U6
  refine j_blx (F := fX11) tb_X11 (nn_ _) bk_X11_play_83 bs_X11_play_83 hz (fun K hK => ?_)
  refine (show po_X11_play T bu m k s p q U6 (none) from ?_)
  exact ⟨rfl, fr_t (fr_0 _ _) (fr_s fU6 rfl), qU6, so_t (so_r) qU6o (fun j => rfl), qU6b⟩

