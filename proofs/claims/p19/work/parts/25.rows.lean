/-- a chain of rows -/
def lk_ (T : Zt) : Int → List Int → Prop
  | f, [] => f = -1
  | f, x :: l => f = x ∧ (0 ≤ x ∧ x < 3000) ∧ lk_ T (T 252 0 x) l
theorem lk_e {T T' : Zt} : ∀ {l : List Int} {f : Int}, lk_ T f l → (∀ x ∈ l, T' 252 0 x = T 252 0 x) → lk_ T' f l
  | [], _, h, _ => h
  | x :: l, _, h, e => ⟨h.1, h.2.1, by
      rw [e x List.mem_cons_self]
      exact lk_e h.2.2 (fun z hz => e z (List.mem_cons_of_mem _ hz))⟩
theorem lk_s {T : Zt} {l : List Int} {f i : Int} (h0 : 0 ≤ i) (hi : i < l.length) (h : lk_ T f (l.drop i.toNat)) : (0 ≤ f ∧ f < 3000) ∧ lk_ T (T 252 0 f) (l.drop (i + 1).toNat) := by
  rw [List.drop_eq_getElem_cons (by omega)] at h
  obtain ⟨h1, h2, h3⟩ := h
  subst h1
  rw [show (i + 1).toNat = i.toNat + 1 by omega]
  exact ⟨h2, h3⟩
theorem lk_g {T : Zt} {l : List Int} {f i : Int} (h0 : 0 ≤ i) (hi : i < l.length) (h : lk_ T f (l.drop i.toNat)) : l[i.toNat]? = some f ∧ 0 ≤ f ∧ f < 3000 := by
  rw [List.drop_eq_getElem_cons (by omega)] at h
  obtain ⟨h1, h2, h3⟩ := h
  exact ⟨by rw [h1]; exact List.getElem?_eq_getElem (by omega), by omega, by omega⟩
theorem lk_c {T : Zt} {l : List Int} {f : Int} (h : lk_ T f l) (hf : f ≠ -1) : ∃ l', l = f :: l' ∧ (0 ≤ f ∧ f < 3000) ∧ lk_ T (T 252 0 f) l' := by
  cases l with
  | nil => exact absurd h hf
  | cons x l => obtain ⟨h1, h2, h3⟩ := h; subst h1; exact ⟨l, rfl, h2, h3⟩
theorem lk_app {T T' : Zt} {x y : Int} (hx : 0 ≤ x ∧ x < 3000) (e1 : T' 252 0 x = -1) (e2 : T' 252 0 y = x) : ∀ {l : List Int} {f : Int}, lk_ T f l → l.Nodup → l.getLast? = some y → (∀ z ∈ l, z ≠ y → T' 252 0 z = T 252 0 z) → lk_ T' f (l ++ [x])
  | [], _, _, _, g, _ => by cases g
  | [a], _, h, _, g, _ => by
      cases g
      exact ⟨h.1, h.2.1, e2, hx, e1⟩
  | a :: b :: l, _, h, n, g, e => by
      have n2 := List.nodup_cons.mp n
      have gy : (b :: l).getLast? = some y := by rw [List.getLast?_cons_cons] at g; exact g
      have hy : y ∈ b :: l := List.mem_of_getLast? gy
      have ha : a ≠ y := fun q => n2.1 (q ▸ hy)
      refine ⟨h.1, h.2.1, ?_⟩
      rw [e a List.mem_cons_self ha]
      exact lk_app hx e1 e2 h.2.2 n2.2 gy (fun z hz => e z (List.mem_cons_of_mem _ hz))
theorem lk_del {T T' : Zt} {x p : Int} (e1 : T' 252 0 p = T 252 0 x) : ∀ {i : Nat} {l : List Int} {f : Int}, lk_ T f l → l.Nodup → l[i + 1]? = some x → l[i]? = some p → (∀ z ∈ l, z ≠ p → T' 252 0 z = T 252 0 z) → lk_ T' f (l.eraseIdx (i + 1))
  | _, [], _, _, _, g, _, _ => by simp at g
  | 0, [a], _, _, _, g, _, _ => by simp at g
  | 0, a :: b :: l, _, h, n, g, k, e => by
      simp at g k
      subst g; subst k
      have n2 := List.nodup_cons.mp n
      obtain ⟨h1, h2, h3, h4, h5⟩ := h
      refine ⟨h1, h2, ?_⟩
      rw [e1]
      exact lk_e h5 (fun z (hz : z ∈ l) => e z (List.mem_cons_of_mem _ (List.mem_cons_of_mem _ hz)) (fun q => n2.1 (q ▸ List.mem_cons_of_mem _ hz)))
  | i + 1, a :: l, _, h, n, g, k, e => by
      have n2 := List.nodup_cons.mp n
      have g2 : l[i + 1]? = some x := by simpa using g
      have k2 : l[i]? = some p := by simpa using k
      have ha : a ≠ p := fun q => n2.1 (q ▸ List.mem_of_getElem? k2)
      refine ⟨h.1, h.2.1, ?_⟩
      rw [e a List.mem_cons_self ha]
      exact lk_del e1 h.2.2 n2.2 g2 k2 (fun z hz => e z (List.mem_cons_of_mem _ hz))

def kf_ (b : Int) : Nat := if b = 0 then 253 else 255
def km_ (b : Int) : Nat := if b = 0 then 254 else 256
/-- the rows of the matches: chains, all apart -/
def RB_ (T : Zt) (L : Int → Int → List Int) : Prop :=
  (∀ m b, 0 ≤ m → m < T 111 0 29 → 0 ≤ b → b ≤ 1 → lk_ T (T (kf_ b) 0 m) (L m b) ∧ T (km_ b) 0 m = ((L m b).length : Int)) ∧
  (∀ m b x, x ∈ L m b → 0 ≤ x ∧ x < T 111 0 47) ∧ (∀ m b, (L m b).Nodup) ∧
  (∀ m b m' b' x, x ∈ L m b → x ∈ L m' b' → m = m' ∧ b = b')
/-- and rows that are in no chain -/
def RR_ (T : Zt) (L : Int → Int → List Int) (rest : List Int) : Prop :=
  (∀ x ∈ rest, 0 ≤ x ∧ x < T 111 0 47) ∧ rest.Nodup ∧ (∀ m b x, x ∈ rest → x ∉ L m b)
def RX_ (T : Zt) (rest : List Int) : Prop := ∃ L, RB_ T L ∧ RR_ T L rest
/-- what other pictures keep of it -/
theorem rb_f {T T' : Zt} {L : Int → Int → List Int} (h : RB_ T L) (e29 : T' 111 0 29 = T 111 0 29) (e47 : T' 111 0 47 = T 111 0 47) (e : ∀ k j, k = 252 ∨ k = 253 ∨ k = 254 ∨ k = 255 ∨ k = 256 → T' k 0 j = T k 0 j) : RB_ T' L := by
  obtain ⟨a, b, c, d⟩ := h
  refine ⟨fun m b' h1 h2 h3 h4 => ?_, fun m b' x hx => by rw [e47]; exact b m b' x hx, c, d⟩
  have y := a m b' h1 (by omega) h3 h4
  have z1 : kf_ b' = 253 ∨ kf_ b' = 255 := by unfold kf_; split <;> simp
  have z2 : km_ b' = 254 ∨ km_ b' = 256 := by unfold km_; split <;> simp
  rw [e (kf_ b') m (by omega), e (km_ b') m (by omega)]
  exact ⟨lk_e y.1 (fun x _ => e 252 x (by decide)), y.2⟩
theorem rx_f {T T' : Zt} {rest : List Int} (h : RX_ T rest) (e29 : T' 111 0 29 = T 111 0 29) (e47 : T' 111 0 47 = T 111 0 47) (e : ∀ k j, k = 252 ∨ k = 253 ∨ k = 254 ∨ k = 255 ∨ k = 256 → T' k 0 j = T k 0 j) : RX_ T' rest := by
  obtain ⟨L, h1, h2, h3, h4⟩ := h
  exact ⟨L, rb_f h1 e29 e47 e, fun x hx => by rw [e47]; exact h2 x hx, h3, h4⟩
/-- apart, within bounds: so not more than the bound -/
theorem nd_len {l : List Int} {n : Int} (h0 : 0 ≤ n) (h : ∀ x ∈ l, 0 ≤ x ∧ x < n) (d : l.Nodup) : (l.length : Int) ≤ n := by
  refine ph_i (n := l.length) (m := n) (fun i => l.getD i.toNat 0) (by omega) h0 (fun i a b => ?_) (fun i j a b c => ?_)
  · have hi : i.toNat < l.length := by omega
    simp only [List.getD_eq_getElem?_getD, List.getElem?_eq_getElem hi, Option.getD_some]
    exact h _ (List.getElem_mem hi)
  · have hi : i.toNat < l.length := by omega
    have hj : j.toNat < l.length := by omega
    simp only [List.getD_eq_getElem?_getD, List.getElem?_eq_getElem hi, List.getElem?_eq_getElem hj, Option.getD_some]
    exact (List.pairwise_iff_getElem.mp d) _ _ hi hj (by omega)
/-- rows that no match has yet -/
def RZ_ (T : Zt) : Prop := ∀ m, T 111 0 29 ≤ m → m < 400 → T 254 0 m = 0 ∧ T 256 0 m = 0
theorem rx_am {T T' : Zt} (h : RX_ T []) (rz : RZ_ T) (h0 : 0 ≤ T 111 0 29) (hle : T 111 0 29 ≤ T' 111 0 29) (h4 : T' 111 0 29 ≤ 400) (e47 : T' 111 0 47 = T 111 0 47) (en : ∀ z, T' 252 0 z = T 252 0 z) (e4 : ∀ j, T' 254 0 j = T 254 0 j) (e6 : ∀ j, T' 256 0 j = T 256 0 j)
    (eo : ∀ j, j < T 111 0 29 → T' 253 0 j = T 253 0 j ∧ T' 255 0 j = T 255 0 j) (en2 : ∀ j, T 111 0 29 ≤ j → j < T' 111 0 29 → T' 253 0 j = -1 ∧ T' 255 0 j = -1) : RX_ T' [] ∧ RZ_ T' := by
  obtain ⟨L, ⟨a, b, c, d⟩, -⟩ := h
  refine ⟨⟨fun m' b' => if m' < T 111 0 29 then L m' b' else [], ⟨?_, ?_, ?_, ?_⟩, (by simp), List.nodup_nil, (by simp)⟩, fun m h1 h2 => by rw [e4, e6]; exact rz m (by omega) h2⟩
  · intro m' b' h1 h2 h3 h5
    by_cases k : m' < T 111 0 29
    · simp only [k, if_true]
      have g := a m' b' h1 k h3 h5
      rcases (by omega : b' = 0 ∨ b' = 1) with z | z
      · subst z
        have f1 : T' (kf_ 0) 0 m' = T (kf_ 0) 0 m' := (eo m' k).1
        have f2 : T' (km_ 0) 0 m' = T (km_ 0) 0 m' := e4 m'
        rw [f1, f2]; exact ⟨lk_e g.1 (fun x _ => en x), g.2⟩
      · subst z
        have f1 : T' (kf_ 1) 0 m' = T (kf_ 1) 0 m' := (eo m' k).2
        have f2 : T' (km_ 1) 0 m' = T (km_ 1) 0 m' := e6 m'
        rw [f1, f2]; exact ⟨lk_e g.1 (fun x _ => en x), g.2⟩
    · simp only [k, if_false]
      have n := en2 m' (by omega) h2
      have q := rz m' (by omega) (by omega)
      rcases (by omega : b' = 0 ∨ b' = 1) with z | z
      · subst z; exact ⟨n.1, (e4 m').trans q.1⟩
      · subst z; exact ⟨n.2, (e6 m').trans q.2⟩
  · intro m' b' z hz
    rw [e47]
    by_cases k : m' < T 111 0 29
    · simp only [k, if_true] at hz; exact b m' b' z hz
    · simp [k] at hz
  · intro m' b'
    by_cases k : m' < T 111 0 29
    · simp only [k, if_true]; exact c m' b'
    · simp [k]
  · intro m1 b1 m2 b2 z h1 h2
    by_cases k : m1 < T 111 0 29
    · by_cases k2 : m2 < T 111 0 29
      · simp only [k, k2, if_true] at h1 h2; exact d m1 b1 m2 b2 z h1 h2
      · simp [k2] at h2
    · simp [k] at h1
theorem rx_nil {T : Zt} {l : List Int} (h : RX_ T l) : RX_ T [] := by
  obtain ⟨L, h1, h2⟩ := h
  exact ⟨L, h1, (fun _ hx => absurd hx List.not_mem_nil), List.nodup_nil, (fun _ _ _ hx => absurd hx List.not_mem_nil)⟩
abbrev cX11_rowAt : ByteArray := prog_13_method_72_code
def yX11_rowAt : MethodName := ⟨RX11, "rowAt", "(II)I"⟩
def zX11_rowAt : Zm := (RX11, cX11_rowAt, 5, (some .int), { frames := 0, cells := 0, slots := 0, locals := 0 })
theorem bk_X11_rowAt_5 : ck_ fX11 (some .int) cX11_rowAt 5 [.iload 4, .iload 2, .if_icmp .ge 24, .aload 0, .tableswitch 0 11 52 #[], .iload 3, .iaload, .istore 3, .iinc 4 1, .goto 5] 24 = true := qck_r (nn_ _) (by decide +kernel)
theorem bs_X11_rowAt_5 {P : Zt → Option Zv → Prop} (K : Int → Zl → List Zv → Zt → Prop) : sx_ K P [.iload 4, .iload 2, .if_icmp .ge 24, .aload 0, .tableswitch 0 11 52 #[], .iload 3, .iaload, .istore 3, .iinc 4 1, .goto 5] 24 = x_iload 4 (x_iload 2 (x_if_icmp .ge 24 K (x_aload 0 (x_g1 111 252 (x_iload 3 (x_iaload (x_istore 3 (x_iinc 4 1 (x_goto 5 K))))))))) := ((xe_iload 4).trans (congrArg (x_iload 4) ((xe_iload 2).trans (congrArg (x_iload 2) ((xe_if_icmp .ge 24).trans (congrArg (x_if_icmp .ge 24 K) ((xe_aload 0).trans (congrArg (x_aload 0) ((xe_g1 (kk := 111) rfl tl_11_52).trans (congrArg (x_g1 111 252) ((xe_iload 3).trans (congrArg (x_iload 3) ((xe_iaload).trans (congrArg (x_iaload) ((xe_istore 3).trans (congrArg (x_istore 3) ((xe_iinc 4 1).trans (congrArg (x_iinc 4 1) (xe_goto 5)))))))))))))))))))
theorem bk_X11_rowAt_24 : ck_ fX11 (some .int) cX11_rowAt 24 [.iload 3, .ireturn] 26 = true := qck_r (nn_ _) (by decide +kernel)
theorem bs_X11_rowAt_24 {P : Zt → Option Zv → Prop} (K : Int → Zl → List Zv → Zt → Prop) : sx_ K P [.iload 3, .ireturn] 26 = x_iload 3 (x_ireturn P) := ((xe_iload 3).trans (congrArg (x_iload 3) (xe_ireturn)))
theorem bk_X11_rowAt_0 : ck_ fX11 (some .int) cX11_rowAt 0 [.iload 1, .istore 3, .iconst 0, .istore 4] 5 = true := qck_r (nn_ _) (by decide +kernel)
theorem bs_X11_rowAt_0 {P : Zt → Option Zv → Prop} (K : Int → Zl → List Zv → Zt → Prop) : sx_ K P [.iload 1, .istore 3, .iconst 0, .istore 4] 5 = x_iload 1 (x_istore 3 (x_iconst 0 (x_istore 4 (K 5)))) := ((xe_iload 1).trans (congrArg (x_iload 1) ((xe_istore 3).trans (congrArg (x_istore 3) ((xe_iconst 0).trans (congrArg (x_iconst 0) ((xe_istore 4).trans (congrArg (x_istore 4) xe_nil))))))))
abbrev po_X11_rowAt (T : Zt) (l : List Int) (f k : Int) : Zt → Option Zv → Prop := fun T' r => T = T' ∧ ∃ x : Int, r = some (vI x) ∧ l[k.toNat]? = some x ∧ 0 ≤ x ∧ x < 3000
set_option maxHeartbeats 4000000 in
theorem ct_X11_rowAt {T : Zt} {l : List Int} {f k : Int} (hl : lk_ T f l) (hk : 0 ≤ k ∧ k < (l.length : Int)) : Ct_ yX11_rowAt zX11_rowAt T [vR 111 0, vI f, vI k] (po_X11_rowAt T l f k) := by
  refine ct_of pn_11 rfl rfl (Nat.le_of_ble_eq_true rfl) (fun hT hav => ?_)
  have hr_f : -2147483648 ≤ f ∧ f ≤ 2147483647 := hav (vI f) (List.mem_cons_of_mem _ List.mem_cons_self)
  have hr_k : -2147483648 ≤ k ∧ k ≤ 2147483647 := hav (vI k) (List.mem_cons_of_mem _ (List.mem_cons_of_mem _ List.mem_cons_self))
  have hz : zX11_rowAt.2.2.2.1 = some .boolean → ∀ (T' : Zt) (x : Int), po_X11_rowAt T l f k T' (some (vI x)) → 0 ≤ x ∧ x ≤ 1 := fun h => by cases h
  show J_ zX11_rowAt T (po_X11_rowAt T l f k) 0 0 0 [some (vR 111 0), some (vI f), some (vI k), none, none] [] T
  have c_5 : ∀ (nn : Nat) (w : Int) (i : Int), ((k - i).toNat) ≤ nn → (0 ≤ i ∧ i ≤ k) → (lk_ T w (l.drop i.toNat)) → J_ zX11_rowAt T (po_X11_rowAt T l f k) 0 0 5 [some (vR 111 0), some (vI f), some (vI k), some (vI w), some (vI i)] [] T := by
    intro nn
    induction nn using Nat.strongRecOn with
    | _ nn ih_5 =>
      intro w i hm_5 i1 i2
      replace hm_5 := fun (_ : Unit) => hm_5
      refine j_blx (F := fX11) tb_X11 (nn_ _) bk_X11_rowAt_5 bs_X11_rowAt_5 hz (fun K hK => ?_)
      refine And.intro (fun c1 => ?_) (fun c1 => ?_)
      · refine hK 24 _ [] T ?_
        refine j_blx (F := fX11) tb_X11 (nn_ _) bk_X11_rowAt_24 bs_X11_rowAt_24 hz (fun K hK => ?_)
        refine (show po_X11_rowAt T l f k T (some (vI w)) from ?_)
        exact ⟨rfl, _, rfl, lk_g (by omega) (by omega) (by rw [show k = i by omega]; exact i2)⟩
      · have hw := lk_s i1.1 (by omega) i2
        refine ix_i (by omega) ?_
        intro b2 b2b
        refine rg_i (by omega) ?_
        refine hK 5 [some (vR 111 0), some (vI f), some (vI k), some (vI (T 252 0 w)), some (vI (i + 1))] [] T ?_
        refine ih_5 _ ?_ (T 252 0 w) (i + 1) (Nat.le_refl _) ?_ ?_
        · have hm_5 := hm_5 (); omega
        · omega
        · exact hw.2
  refine j_blx (F := fX11) tb_X11 (nn_ _) bk_X11_rowAt_0 bs_X11_rowAt_0 hz (fun K hK => ?_)
  refine hK 5 [some (vR 111 0), some (vI f), some (vI k), some (vI f), some (vI 0)] [] T ?_
  refine c_5 _ f 0 (Nat.le_refl _) ?_ ?_
  · omega
  · exact hl
abbrev cX11_putBehind : ByteArray := prog_13_method_73_code
def yX11_putBehind : MethodName := ⟨RX11, "putBehind", "(IIZ)V"⟩
def zX11_putBehind : Zm := (RX11, cX11_putBehind, 5, none, { frames := 1, cells := 0, slots := 0, locals := 24 })
set_option maxRecDepth 100000 in
theorem cl_X11_456 : cv_ RX11 456 yX11_rowAt zX11_rowAt 11 2 := ⟨gi_V (lwq_9 (dqc_m (dqc_m (List.mem_of_getElem? (i := 2) rfl))) rfl : Cond.methodLink RX11 456 yX11_rowAt ∈ lw_g) (lwq_9 (dqc_m (dqc_m (List.mem_of_getElem? (i := 4) rfl))) rfl : Cond.instanceMethod yX11_rowAt ∈ lw_g) (lw_sel 58 rfl : Cond.selects yX11_rowAt.cls yX11_rowAt yX11_rowAt ∈ lw_g) (lwq_1 (dqa_m (List.mem_of_getElem? (i := 2) rfl)) rfl : Cond.initialized yX11_rowAt.cls ∈ lw_g) (lwq_9 (dqc_m (dqc_m (List.mem_of_getElem? (i := 5) rfl))) rfl : Cond.code yX11_rowAt cX11_rowAt 5 (some .int) ∈ lw_g), ⟨nmh_1.1, nmh_1.2, pdq_4⟩, ⟨_, _, rfl⟩⟩
abbrev cX11_event : ByteArray := prog_13_method_74_code
def yX11_event : MethodName := ⟨RX11, "event", "(IIIII)I"⟩
def zX11_event : Zm := (RX11, cX11_event, 8, (some .int), { frames := 5, cells := 0, slots := 0, locals := 123 })
set_option maxRecDepth 100000 in
theorem cl_X11_459 : cv_ RX11 459 yX11_lawOf zX11_lawOf 11 5 := ⟨gi_V (lwq_9 (dqc_m (List.mem_of_getElem? (i := 7) rfl)) rfl : Cond.methodLink RX11 459 yX11_lawOf ∈ lw_g) (lwq_9 (dqc_m (dqa_m (List.mem_of_getElem? (i := 1) rfl))) rfl : Cond.instanceMethod yX11_lawOf ∈ lw_g) (lw_sel 29 rfl : Cond.selects yX11_lawOf.cls yX11_lawOf yX11_lawOf ∈ lw_g) (lwq_1 (dqa_m (List.mem_of_getElem? (i := 2) rfl)) rfl : Cond.initialized yX11_lawOf.cls ∈ lw_g) (lwq_9 (dqc_m (dqa_m (List.mem_of_getElem? (i := 2) rfl))) rfl : Cond.code yX11_lawOf cX11_lawOf 9 (some .int) ∈ lw_g), ⟨nmh_1.1, nmh_1.2, pdq_13⟩, ⟨_, _, rfl⟩⟩
set_option maxRecDepth 100000 in
theorem cl_X11_466 : cv_ RX11 466 yX11_putBehind zX11_putBehind 11 3 := ⟨gi_V (lwq_9 (dqc_m (dqa_m (dqa_m (dqa_m (List.mem_of_getElem? (i := 6) rfl))))) rfl : Cond.methodLink RX11 466 yX11_putBehind ∈ lw_g) (lwq_9 (dqc_m (dqc_m (List.mem_of_getElem? (i := 0) rfl))) rfl : Cond.instanceMethod yX11_putBehind ∈ lw_g) (lw_sel 52 rfl : Cond.selects yX11_putBehind.cls yX11_putBehind yX11_putBehind ∈ lw_g) (lwq_1 (dqa_m (List.mem_of_getElem? (i := 2) rfl)) rfl : Cond.initialized yX11_putBehind.cls ∈ lw_g) (lwq_9 (dqc_m (dqc_m (List.mem_of_getElem? (i := 1) rfl))) rfl : Cond.code yX11_putBehind cX11_putBehind 5 none ∈ lw_g), ⟨nmh_1.1, nmh_1.2, pdq_14⟩, ⟨_, _, rfl⟩⟩
set_option maxRecDepth 100000 in
theorem cl_X11_470 : cv_ RX11 470 yX11_play zX11_play 11 5 := ⟨gi_V (lwq_9 (dqc_m (dqc_m (List.mem_of_getElem? (i := 6) rfl))) rfl : Cond.methodLink RX11 470 yX11_play ∈ lw_g) (lwq_9 (dqc_m (dqc_m (dqa_m (List.mem_of_getElem? (i := 0) rfl)))) rfl : Cond.instanceMethod yX11_play ∈ lw_g) (lw_sel 46 rfl : Cond.selects yX11_play.cls yX11_play yX11_play ∈ lw_g) (lwq_1 (dqa_m (List.mem_of_getElem? (i := 2) rfl)) rfl : Cond.initialized yX11_play.cls ∈ lw_g) (lwq_9 (dqc_m (dqc_m (dqa_m (List.mem_of_getElem? (i := 1) rfl)))) rfl : Cond.code yX11_play cX11_play 6 none ∈ lw_g), ⟨nmh_1.1, nmh_1.2, pdq_6⟩, ⟨_, _, rfl⟩⟩
abbrev po_X11_event (T : Zt) (m k s p q : Int) : Zt → Option Zv → Prop := fun T' r => ∃ x : Int, r = some (vI x) ∧ fr_ [(111, [47]), (248, []), (249, []), (250, []), (251, []), (252, []), (253, []), (254, []), (256, []), (244, []), (241, []), (242, []), (243, []), (245, []), (246, []), (236, []), (237, []), (235, [])] T T' ∧ (FM_ T' ∧ RX_ T' [] ∧ ZS_ T' ∧ GX_ T' (-1) ∧ ∀ j, j ≠ m ∨ T 111 0 29 ≤ j → T' 254 0 j = T 254 0 j ∧ T' 256 0 j = T 256 0 j)
abbrev cX11_playAnew : ByteArray := prog_13_method_75_code
def yX11_playAnew : MethodName := ⟨RX11, "playAnew", "(I)I"⟩
def zX11_playAnew : Zm := (RX11, cX11_playAnew, 6, (some .int), { frames := 5, cells := 0, slots := 0, locals := 123 })
abbrev cX11_review : ByteArray := prog_13_method_76_code
def yX11_review : MethodName := ⟨RX11, "review", "(IIIIII)I"⟩
def zX11_review : Zm := (RX11, cX11_review, 9, (some .int), { frames := 6, cells := 0, slots := 0, locals := 148 })
set_option maxRecDepth 100000 in
theorem cl_X11_473 : cv_ RX11 473 yX11_playAnew zX11_playAnew 11 1 := ⟨gi_V (lwq_9 (dqc_m (dqc_m (dqc_m (dqc_m (dqa_m (List.mem_of_getElem? (i := 2) rfl)))))) rfl : Cond.methodLink RX11 473 yX11_playAnew ∈ lw_g) (lwq_9 (dqc_m (dqc_m (dqc_m (dqc_m (dqa_m (List.mem_of_getElem? (i := 4) rfl)))))) rfl : Cond.instanceMethod yX11_playAnew ∈ lw_g) (lw_sel 47 rfl : Cond.selects yX11_playAnew.cls yX11_playAnew yX11_playAnew ∈ lw_g) (lwq_1 (dqa_m (List.mem_of_getElem? (i := 2) rfl)) rfl : Cond.initialized yX11_playAnew.cls ∈ lw_g) (lwq_9 (dqc_m (dqc_m (dqc_m (dqc_m (dqa_m (List.mem_of_getElem? (i := 5) rfl)))))) rfl : Cond.code yX11_playAnew cX11_playAnew 6 (some .int) ∈ lw_g), ⟨nmh_1.1, nmh_1.2, pdq_15⟩, ⟨_, _, rfl⟩⟩
abbrev po_X11_review (T : Zt) (m i k s p q : Int) : Zt → Option Zv → Prop := fun T' r => ∃ x : Int, r = some (vI x) ∧ fr_ [(252, []), (253, []), (255, []), (254, []), (256, []), (244, []), (241, []), (242, []), (243, []), (245, []), (246, []), (236, []), (237, []), (235, []), (248, []), (249, []), (250, []), (251, [])] T T' ∧ (FM_ T' ∧ RX_ T' [] ∧ ZS_ T' ∧ GX_ T' (-1) ∧ ∀ j, j ≠ m ∨ T 111 0 29 ≤ j → T' 254 0 j = T 254 0 j ∧ T' 256 0 j = T 256 0 j)
abbrev cX11_row : ByteArray := prog_13_method_78_code
def yX11_row : MethodName := ⟨RX11, "row", "(III)I"⟩
def zX11_row : Zm := (RX11, cX11_row, 5, (some .int), { frames := 2, cells := 0, slots := 0, locals := 43 })
theorem bk_X11_row_0 : ck_ fX11 (some .int) cX11_row 0 [.iload 1, .aload 0, .tableswitch 0 11 29 #[]] 5 = true := qck_r (nn_ _) (by decide +kernel)
theorem bs_X11_row_0 {P : Zt → Option Zv → Prop} (K : Int → Zl → List Zv → Zt → Prop) : sx_ K P [.iload 1, .aload 0, .tableswitch 0 11 29 #[]] 5 = x_iload 1 (x_aload 0 (x_g0 111 29 0 400 (K 5))) := ((xe_iload 1).trans (congrArg (x_iload 1) ((xe_aload 0).trans (congrArg (x_aload 0) ((xe_g0 (kk := 111) rfl tl_11_29).trans (congrArg (x_g0 111 29 0 400) xe_nil))))))
theorem bk_X11_row_8 : ck_ fX11 (some .int) cX11_row 8 [.ifCond .ne 14, .iconst (-2), .ireturn] 14 = true := qck_r (nn_ _) (by decide +kernel)
theorem bs_X11_row_8 {P : Zt → Option Zv → Prop} (K : Int → Zl → List Zv → Zt → Prop) : sx_ K P [.ifCond .ne 14, .iconst (-2), .ireturn] 14 = x_ifCond .ne 14 K (x_iconst (-2) (x_ireturn P)) := ((xe_ifCond .ne 14).trans (congrArg (x_ifCond .ne 14 K) ((xe_iconst (-2)).trans (congrArg (x_iconst (-2)) (xe_ireturn)))))
theorem bk_X11_row_14 : ck_ fX11 (some .int) cX11_row 14 [.iload 3, .iconst 0, .iconst 7] 18 = true := qck_r (nn_ _) (by decide +kernel)
theorem bs_X11_row_14 {P : Zt → Option Zv → Prop} (K : Int → Zl → List Zv → Zt → Prop) : sx_ K P [.iload 3, .iconst 0, .iconst 7] 18 = x_iload 3 (x_iconst 0 (x_iconst 7 (K 18))) := ((xe_iload 3).trans (congrArg (x_iload 3) ((xe_iconst 0).trans (congrArg (x_iconst 0) ((xe_iconst 7).trans (congrArg (x_iconst 7) xe_nil))))))
theorem bk_X11_row_21 : ck_ fX11 (some .int) cX11_row 21 [.ifCond .ne 27, .iconst (-3), .ireturn] 27 = true := qck_r (nn_ _) (by decide +kernel)
theorem bs_X11_row_21 {P : Zt → Option Zv → Prop} (K : Int → Zl → List Zv → Zt → Prop) : sx_ K P [.ifCond .ne 27, .iconst (-3), .ireturn] 27 = x_ifCond .ne 27 K (x_iconst (-3) (x_ireturn P)) := ((xe_ifCond .ne 27).trans (congrArg (x_ifCond .ne 27 K) ((xe_iconst (-3)).trans (congrArg (x_iconst (-3)) (xe_ireturn)))))
theorem bk_X11_row_27 : ck_ fX11 (some .int) cX11_row 27 [.iload 2, .iload 3, .iconst 4, .if_icmp .ge 42, .aload 0, .tableswitch 0 11 54 #[], .iload 1, .iaload, .goto 48] 42 = true := qck_r (nn_ _) (by decide +kernel)
theorem bs_X11_row_27 {P : Zt → Option Zv → Prop} (K : Int → Zl → List Zv → Zt → Prop) : sx_ K P [.iload 2, .iload 3, .iconst 4, .if_icmp .ge 42, .aload 0, .tableswitch 0 11 54 #[], .iload 1, .iaload, .goto 48] 42 = x_iload 2 (x_iload 3 (x_iconst 4 (x_if_icmp .ge 42 K (x_aload 0 (x_g1 111 254 (x_iload 1 (x_iaload (x_goto 48 K)))))))) := ((xe_iload 2).trans (congrArg (x_iload 2) ((xe_iload 3).trans (congrArg (x_iload 3) ((xe_iconst 4).trans (congrArg (x_iconst 4) ((xe_if_icmp .ge 42).trans (congrArg (x_if_icmp .ge 42 K) ((xe_aload 0).trans (congrArg (x_aload 0) ((xe_g1 (kk := 111) rfl tl_11_54).trans (congrArg (x_g1 111 254) ((xe_iload 1).trans (congrArg (x_iload 1) ((xe_iaload).trans (congrArg (x_iaload) (xe_goto 48)))))))))))))))))
theorem bk_X11_row_42 : ck_ fX11 (some .int) cX11_row 42 [.aload 0, .tableswitch 0 11 56 #[], .iload 1, .iaload] 48 = true := qck_r (nn_ _) (by decide +kernel)
theorem bs_X11_row_42 {P : Zt → Option Zv → Prop} (K : Int → Zl → List Zv → Zt → Prop) : sx_ K P [.aload 0, .tableswitch 0 11 56 #[], .iload 1, .iaload] 48 = x_aload 0 (x_g1 111 256 (x_iload 1 (x_iaload (K 48)))) := ((xe_aload 0).trans (congrArg (x_aload 0) ((xe_g1 (kk := 111) rfl tl_11_56).trans (congrArg (x_g1 111 256) ((xe_iload 1).trans (congrArg (x_iload 1) ((xe_iaload).trans (congrArg (x_iaload) xe_nil))))))))
theorem bk_X11_row_51 : ck_ fX11 (some .int) cX11_row 51 [.ifCond .ne 57, .iconst (-2), .ireturn] 57 = true := qck_r (nn_ _) (by decide +kernel)
theorem bs_X11_row_51 {P : Zt → Option Zv → Prop} (K : Int → Zl → List Zv → Zt → Prop) : sx_ K P [.ifCond .ne 57, .iconst (-2), .ireturn] 57 = x_ifCond .ne 57 K (x_iconst (-2) (x_ireturn P)) := ((xe_ifCond .ne 57).trans (congrArg (x_ifCond .ne 57 K) ((xe_iconst (-2)).trans (congrArg (x_iconst (-2)) (xe_ireturn)))))
theorem bk_X11_row_57 : ck_ fX11 (some .int) cX11_row 57 [.aload 0, .iload 3, .iconst 4, .if_icmp .ge 72, .aload 0, .tableswitch 0 11 53 #[], .iload 1, .iaload, .goto 78] 72 = true := qck_r (nn_ _) (by decide +kernel)
theorem bs_X11_row_57 {P : Zt → Option Zv → Prop} (K : Int → Zl → List Zv → Zt → Prop) : sx_ K P [.aload 0, .iload 3, .iconst 4, .if_icmp .ge 72, .aload 0, .tableswitch 0 11 53 #[], .iload 1, .iaload, .goto 78] 72 = x_aload 0 (x_iload 3 (x_iconst 4 (x_if_icmp .ge 72 K (x_aload 0 (x_g1 111 253 (x_iload 1 (x_iaload (x_goto 78 K)))))))) := ((xe_aload 0).trans (congrArg (x_aload 0) ((xe_iload 3).trans (congrArg (x_iload 3) ((xe_iconst 4).trans (congrArg (x_iconst 4) ((xe_if_icmp .ge 72).trans (congrArg (x_if_icmp .ge 72 K) ((xe_aload 0).trans (congrArg (x_aload 0) ((xe_g1 (kk := 111) rfl tl_11_53).trans (congrArg (x_g1 111 253) ((xe_iload 1).trans (congrArg (x_iload 1) ((xe_iaload).trans (congrArg (x_iaload) (xe_goto 78)))))))))))))))))
theorem bk_X11_row_72 : ck_ fX11 (some .int) cX11_row 72 [.aload 0, .tableswitch 0 11 55 #[], .iload 1, .iaload, .iload 2] 79 = true := qck_r (nn_ _) (by decide +kernel)
theorem bs_X11_row_72 {P : Zt → Option Zv → Prop} (K : Int → Zl → List Zv → Zt → Prop) : sx_ K P [.aload 0, .tableswitch 0 11 55 #[], .iload 1, .iaload, .iload 2] 79 = x_aload 0 (x_g1 111 255 (x_iload 1 (x_iaload (x_iload 2 (K 79))))) := ((xe_aload 0).trans (congrArg (x_aload 0) ((xe_g1 (kk := 111) rfl tl_11_55).trans (congrArg (x_g1 111 255) ((xe_iload 1).trans (congrArg (x_iload 1) ((xe_iaload).trans (congrArg (x_iaload) ((xe_iload 2).trans (congrArg (x_iload 2) xe_nil))))))))))
theorem bk_X11_row_82 : ck_ fX11 (some .int) cX11_row 82 [.istore 4, .iload 3, .iconst 4, .irem, .ifCond .ne 100, .aload 0, .tableswitch 0 11 48 #[], .iload 4, .iaload, .goto 141] 100 = true := qck_r (nn_ _) (by decide +kernel)
theorem bs_X11_row_82 {P : Zt → Option Zv → Prop} (K : Int → Zl → List Zv → Zt → Prop) : sx_ K P [.istore 4, .iload 3, .iconst 4, .irem, .ifCond .ne 100, .aload 0, .tableswitch 0 11 48 #[], .iload 4, .iaload, .goto 141] 100 = x_istore 4 (x_iload 3 (x_iconst 4 (x_irem (x_ifCond .ne 100 K (x_aload 0 (x_g1 111 248 (x_iload 4 (x_iaload (x_goto 141 K))))))))) := ((xe_istore 4).trans (congrArg (x_istore 4) ((xe_iload 3).trans (congrArg (x_iload 3) ((xe_iconst 4).trans (congrArg (x_iconst 4) ((xe_irem).trans (congrArg (x_irem) ((xe_ifCond .ne 100).trans (congrArg (x_ifCond .ne 100 K) ((xe_aload 0).trans (congrArg (x_aload 0) ((xe_g1 (kk := 111) rfl tl_11_48).trans (congrArg (x_g1 111 248) ((xe_iload 4).trans (congrArg (x_iload 4) ((xe_iaload).trans (congrArg (x_iaload) (xe_goto 141)))))))))))))))))))
theorem bk_X11_row_100 : ck_ fX11 (some .int) cX11_row 100 [.iload 3, .iconst 4, .irem, .iconst 1, .if_icmp .ne 117, .aload 0, .tableswitch 0 11 49 #[], .iload 4, .iaload, .goto 141] 117 = true := qck_r (nn_ _) (by decide +kernel)
theorem bs_X11_row_100 {P : Zt → Option Zv → Prop} (K : Int → Zl → List Zv → Zt → Prop) : sx_ K P [.iload 3, .iconst 4, .irem, .iconst 1, .if_icmp .ne 117, .aload 0, .tableswitch 0 11 49 #[], .iload 4, .iaload, .goto 141] 117 = x_iload 3 (x_iconst 4 (x_irem (x_iconst 1 (x_if_icmp .ne 117 K (x_aload 0 (x_g1 111 249 (x_iload 4 (x_iaload (x_goto 141 K))))))))) := ((xe_iload 3).trans (congrArg (x_iload 3) ((xe_iconst 4).trans (congrArg (x_iconst 4) ((xe_irem).trans (congrArg (x_irem) ((xe_iconst 1).trans (congrArg (x_iconst 1) ((xe_if_icmp .ne 117).trans (congrArg (x_if_icmp .ne 117 K) ((xe_aload 0).trans (congrArg (x_aload 0) ((xe_g1 (kk := 111) rfl tl_11_49).trans (congrArg (x_g1 111 249) ((xe_iload 4).trans (congrArg (x_iload 4) ((xe_iaload).trans (congrArg (x_iaload) (xe_goto 141)))))))))))))))))))
theorem bk_X11_row_117 : ck_ fX11 (some .int) cX11_row 117 [.iload 3, .iconst 4, .irem, .iconst 2, .if_icmp .ne 134, .aload 0, .tableswitch 0 11 50 #[], .iload 4, .iaload, .goto 141] 134 = true := qck_r (nn_ _) (by decide +kernel)
theorem bs_X11_row_117 {P : Zt → Option Zv → Prop} (K : Int → Zl → List Zv → Zt → Prop) : sx_ K P [.iload 3, .iconst 4, .irem, .iconst 2, .if_icmp .ne 134, .aload 0, .tableswitch 0 11 50 #[], .iload 4, .iaload, .goto 141] 134 = x_iload 3 (x_iconst 4 (x_irem (x_iconst 2 (x_if_icmp .ne 134 K (x_aload 0 (x_g1 111 250 (x_iload 4 (x_iaload (x_goto 141 K))))))))) := ((xe_iload 3).trans (congrArg (x_iload 3) ((xe_iconst 4).trans (congrArg (x_iconst 4) ((xe_irem).trans (congrArg (x_irem) ((xe_iconst 2).trans (congrArg (x_iconst 2) ((xe_if_icmp .ne 134).trans (congrArg (x_if_icmp .ne 134 K) ((xe_aload 0).trans (congrArg (x_aload 0) ((xe_g1 (kk := 111) rfl tl_11_50).trans (congrArg (x_g1 111 250) ((xe_iload 4).trans (congrArg (x_iload 4) ((xe_iaload).trans (congrArg (x_iaload) (xe_goto 141)))))))))))))))))))
theorem bk_X11_row_134 : ck_ fX11 (some .int) cX11_row 134 [.aload 0, .tableswitch 0 11 51 #[], .iload 4, .iaload, .ireturn] 142 = true := qck_r (nn_ _) (by decide +kernel)
theorem bs_X11_row_134 {P : Zt → Option Zv → Prop} (K : Int → Zl → List Zv → Zt → Prop) : sx_ K P [.aload 0, .tableswitch 0 11 51 #[], .iload 4, .iaload, .ireturn] 142 = x_aload 0 (x_g1 111 251 (x_iload 4 (x_iaload (x_ireturn P)))) := ((xe_aload 0).trans (congrArg (x_aload 0) ((xe_g1 (kk := 111) rfl tl_11_51).trans (congrArg (x_g1 111 251) ((xe_iload 4).trans (congrArg (x_iload 4) ((xe_iaload).trans (congrArg (x_iaload) (xe_ireturn)))))))))
theorem bk_X11_row_141 : ck_ fX11 (some .int) cX11_row 141 [.ireturn] 142 = true := qck_r (nn_ _) (by decide +kernel)
theorem bs_X11_row_141 {P : Zt → Option Zv → Prop} (K : Int → Zl → List Zv → Zt → Prop) : sx_ K P [.ireturn] 142 = x_ireturn P := (xe_ireturn)
theorem bk_X11_row_78 : ck_ fX11 (some .int) cX11_row 78 [.iload 2] 79 = true := qck_r (nn_ _) (by decide +kernel)
theorem bs_X11_row_78 {P : Zt → Option Zv → Prop} (K : Int → Zl → List Zv → Zt → Prop) : sx_ K P [.iload 2] 79 = x_iload 2 (K 79) := ((xe_iload 2).trans (congrArg (x_iload 2) xe_nil))
abbrev po_X11_row (T : Zt) (m i w : Int) : Zt → Option Zv → Prop := fun T' r => T = T' ∧ ∃ x : Int, r = some (vI x) ∧ (0 = (0 : Int))
set_option maxHeartbeats 4000000 in
theorem ct_X11_row {T : Zt} {m i w : Int} (hrx : RX_ T []) : Ct_ yX11_row zX11_row T [vR 111 0, vI m, vI i, vI w] (po_X11_row T m i w) := by
  refine ct_of pn_11 rfl rfl (Nat.le_of_ble_eq_true rfl) (fun hT hav => ?_)
  have hr_m : -2147483648 ≤ m ∧ m ≤ 2147483647 := hav (vI m) (List.mem_cons_of_mem _ List.mem_cons_self)
  have hr_i : -2147483648 ≤ i ∧ i ≤ 2147483647 := hav (vI i) (List.mem_cons_of_mem _ (List.mem_cons_of_mem _ List.mem_cons_self))
  have hr_w : -2147483648 ≤ w ∧ w ≤ 2147483647 := hav (vI w) (List.mem_cons_of_mem _ (List.mem_cons_of_mem _ (List.mem_cons_of_mem _ List.mem_cons_self)))
  have hz : zX11_row.2.2.2.1 = some .boolean → ∀ (T' : Zt) (x : Int), po_X11_row T m i w T' (some (vI x)) → 0 ≤ x ∧ x ≤ 1 := fun h => by cases h
  have hb_29 : 0 ≤ T 111 0 29 ∧ T 111 0 29 ≤ 400 := bd_f hT 111 29 tl_11_29 0
  show J_ zX11_row T (po_X11_row T m i w) 0 0 0 [some (vR 111 0), some (vI m), some (vI i), some (vI w), none] [] T
  refine j_blx (F := fX11) tb_X11 (nn_ _) bk_X11_row_0 bs_X11_row_0 hz (fun K hK => ?_)
  intro b1 b1b
  refine hK 5 _ [vI (T 111 0 29), vI m] T ?_
  refine j_callS (y := yX11_isOf) (Yc := zX11_isOf) (rest := []) [vI m, vI (T 111 0 29)] (ct_X11_isOf (T := T) (by omega)) cl_X11_317 (qd_c (by decide +kernel)) (nn_ _) rfl (rf_of rfl) (Nat.le_of_ble_eq_true rfl) (Nat.le_of_ble_eq_true rfl) (Nat.le_of_ble_eq_true rfl) rfl ?_
  rintro _ _ ⟨rfl, x2, rfl, hx2⟩
  show J_ zX11_row T (po_X11_row T m i w) 0 0 8 _ [vI x2] T
  refine j_blx (F := fX11) tb_X11 (nn_ _) bk_X11_row_8 bs_X11_row_8 hz (fun K hK => ?_)
  refine And.intro (fun c3 => ?_) (fun c3 => ?_)
  · replace hx2 := hx2.resolve_right (fun z => c3 z.1)
    clear c3
    refine hK 14 _ [] T ?_
    refine j_blx (F := fX11) tb_X11 (nn_ _) bk_X11_row_14 bs_X11_row_14 hz (fun K hK => ?_)
    refine hK 18 _ [vI 7, vI 0, vI w] T ?_
    refine j_callS (y := yX11_in) (Yc := zX11_in) (rest := []) [vI w, vI 0, vI 7] (ct_X11_in (T := T)) cl_X11_255 (qd_c (by decide +kernel)) (nn_ _) rfl (rf_of rfl) (Nat.le_of_ble_eq_true rfl) (Nat.le_of_ble_eq_true rfl) (Nat.le_of_ble_eq_true rfl) rfl ?_
    rintro _ _ ⟨rfl, x4, rfl, hx4⟩
    show J_ zX11_row T (po_X11_row T m i w) 0 0 21 _ [vI x4] T
    refine j_blx (F := fX11) tb_X11 (nn_ _) bk_X11_row_21 bs_X11_row_21 hz (fun K hK => ?_)
    refine And.intro (fun c5 => ?_) (fun c5 => ?_)
    · replace hx4 := hx4.resolve_right (fun z => c5 z.1)
      clear c5
      refine hK 27 _ [] T ?_
      refine j_blx (F := fX11) tb_X11 (nn_ _) bk_X11_row_27 bs_X11_row_27 hz (fun K hK => ?_)
      refine And.intro (fun c6 => ?_) (fun c6 => ?_)
      · refine hK 42 _ [vI i] T ?_
        refine j_blx (F := fX11) tb_X11 (nn_ _) bk_X11_row_42 bs_X11_row_42 hz (fun K hK => ?_)
        refine ix_i (by omega) ?_
        intro b7 b7b
        refine hK 48 _ [vI (T 256 0 m), vI i] T ?_
        refine j_callS (y := yX11_isOf) (Yc := zX11_isOf) (rest := []) [vI i, vI (T 256 0 m)] (ct_X11_isOf (T := T) (by omega)) cl_X11_317 (qd_c (by decide +kernel)) (nn_ _) rfl (rf_of rfl) (Nat.le_of_ble_eq_true rfl) (Nat.le_of_ble_eq_true rfl) (Nat.le_of_ble_eq_true rfl) rfl ?_
        rintro _ _ ⟨rfl, x8, rfl, hx8⟩
        show J_ zX11_row T (po_X11_row T m i w) 0 0 51 _ [vI x8] T
        refine j_blx (F := fX11) tb_X11 (nn_ _) bk_X11_row_51 bs_X11_row_51 hz (fun K hK => ?_)
        refine And.intro (fun c9 => ?_) (fun c9 => ?_)
        · replace hx8 := hx8.resolve_right (fun z => c9 z.1)
          clear c9
          refine hK 57 _ [] T ?_
          have hry := hrx
          obtain ⟨L, hB, hR⟩ := hry
          have hl : lk_ T (T 253 0 m) (L m 0) ∧ T 254 0 m = ((L m 0).length : Int) := hB.1 m 0 (by omega) (by omega) (by decide) (by decide)
          have hl2 : lk_ T (T 255 0 m) (L m 1) ∧ T 256 0 m = ((L m 1).length : Int) := hB.1 m 1 (by omega) (by omega) (by decide) (by decide)
          refine j_blx (F := fX11) tb_X11 (nn_ _) bk_X11_row_57 bs_X11_row_57 hz (fun K hK => ?_)
          refine And.intro (fun c10 => ?_) (fun c10 => ?_)
          · refine hK 72 _ [vR 111 0] T ?_
            refine j_blx (F := fX11) tb_X11 (nn_ _) bk_X11_row_72 bs_X11_row_72 hz (fun K hK => ?_)
            refine ix_i (by omega) ?_
            intro b11 b11b
            refine hK 79 _ [vI i, vI (T 255 0 m), vR 111 0] T ?_
            refine j_callV (y := yX11_rowAt) (Yc := zX11_rowAt) (rest := []) [vI (T 255 0 m), vI i] (ct_X11_rowAt (T := T) (l := L m 1) (by exact hl2.1) (by omega)) cl_X11_456 (qd_c (by decide +kernel)) (nn_ _) rfl (rf_of rfl) (Nat.le_of_ble_eq_true rfl) (Nat.le_of_ble_eq_true rfl) (Nat.le_of_ble_eq_true rfl) rfl ?_
            rintro _ _ ⟨rfl, x12, rfl, hx12⟩
            show J_ zX11_row T (po_X11_row T m i w) 0 0 82 _ [vI x12] T
            refine j_blx (F := fX11) tb_X11 (nn_ _) bk_X11_row_82 bs_X11_row_82 hz (fun K hK => ?_)
            refine dv_i (by omega) ?_
            refine And.intro (fun c13 => ?_) (fun c13 => ?_)
            · refine hK 100 [some (vR 111 0), some (vI m), some (vI i), some (vI w), some (vI x12)] [] T ?_
              refine j_blx (F := fX11) tb_X11 (nn_ _) bk_X11_row_100 bs_X11_row_100 hz (fun K hK => ?_)
              refine dv_i (by omega) ?_
              refine And.intro (fun c14 => ?_) (fun c14 => ?_)
              · refine hK 117 _ [] T ?_
                refine j_blx (F := fX11) tb_X11 (nn_ _) bk_X11_row_117 bs_X11_row_117 hz (fun K hK => ?_)
                refine dv_i (by omega) ?_
                refine And.intro (fun c15 => ?_) (fun c15 => ?_)
                · refine hK 134 _ [] T ?_
                  refine j_blx (F := fX11) tb_X11 (nn_ _) bk_X11_row_134 bs_X11_row_134 hz (fun K hK => ?_)
                  refine ix_i (by omega) ?_
                  intro b16 b16b
                  refine (show po_X11_row T m i w T (some (vI (T 251 0 x12))) from ?_)
                  exact ⟨rfl, _, rfl, by rfl⟩
                · refine ix_i (by omega) ?_
                  intro b17 b17b
                  refine hK 141 _ [vI (T 250 0 x12)] T ?_
                  refine j_blx (F := fX11) tb_X11 (nn_ _) bk_X11_row_141 bs_X11_row_141 hz (fun K hK => ?_)
                  refine (show po_X11_row T m i w T (some (vI (T 250 0 x12))) from ?_)
                  exact ⟨rfl, _, rfl, by rfl⟩
              · refine ix_i (by omega) ?_
                intro b18 b18b
                refine hK 141 _ [vI (T 249 0 x12)] T ?_
                refine j_blx (F := fX11) tb_X11 (nn_ _) bk_X11_row_141 bs_X11_row_141 hz (fun K hK => ?_)
                refine (show po_X11_row T m i w T (some (vI (T 249 0 x12))) from ?_)
                exact ⟨rfl, _, rfl, by rfl⟩
            · refine ix_i (by omega) ?_
              intro b19 b19b
              refine hK 141 _ [vI (T 248 0 x12)] T ?_
              refine j_blx (F := fX11) tb_X11 (nn_ _) bk_X11_row_141 bs_X11_row_141 hz (fun K hK => ?_)
              refine (show po_X11_row T m i w T (some (vI (T 248 0 x12))) from ?_)
              exact ⟨rfl, _, rfl, by rfl⟩
          · refine ix_i (by omega) ?_
            intro b20 b20b
            refine hK 78 _ [vI (T 253 0 m), vR 111 0] T ?_
            refine j_blx (F := fX11) tb_X11 (nn_ _) bk_X11_row_78 bs_X11_row_78 hz (fun K hK => ?_)
            refine hK 79 _ [vI i, vI (T 253 0 m), vR 111 0] T ?_
            refine j_callV (y := yX11_rowAt) (Yc := zX11_rowAt) (rest := []) [vI (T 253 0 m), vI i] (ct_X11_rowAt (T := T) (l := L m 0) (by exact hl.1) (by omega)) cl_X11_456 (qd_c (by decide +kernel)) (nn_ _) rfl (rf_of rfl) (Nat.le_of_ble_eq_true rfl) (Nat.le_of_ble_eq_true rfl) (Nat.le_of_ble_eq_true rfl) rfl ?_
            rintro _ _ ⟨rfl, x21, rfl, hx21⟩
            show J_ zX11_row T (po_X11_row T m i w) 0 0 82 _ [vI x21] T
            refine j_blx (F := fX11) tb_X11 (nn_ _) bk_X11_row_82 bs_X11_row_82 hz (fun K hK => ?_)
            refine dv_i (by omega) ?_
            refine And.intro (fun c22 => ?_) (fun c22 => ?_)
            · refine hK 100 [some (vR 111 0), some (vI m), some (vI i), some (vI w), some (vI x21)] [] T ?_
              refine j_blx (F := fX11) tb_X11 (nn_ _) bk_X11_row_100 bs_X11_row_100 hz (fun K hK => ?_)
              refine dv_i (by omega) ?_
              refine And.intro (fun c23 => ?_) (fun c23 => ?_)
              · refine hK 117 _ [] T ?_
                refine j_blx (F := fX11) tb_X11 (nn_ _) bk_X11_row_117 bs_X11_row_117 hz (fun K hK => ?_)
                refine dv_i (by omega) ?_
                refine And.intro (fun c24 => ?_) (fun c24 => ?_)
                · refine hK 134 _ [] T ?_
                  refine j_blx (F := fX11) tb_X11 (nn_ _) bk_X11_row_134 bs_X11_row_134 hz (fun K hK => ?_)
                  refine ix_i (by omega) ?_
                  intro b25 b25b
                  refine (show po_X11_row T m i w T (some (vI (T 251 0 x21))) from ?_)
                  exact ⟨rfl, _, rfl, by rfl⟩
                · refine ix_i (by omega) ?_
                  intro b26 b26b
                  refine hK 141 _ [vI (T 250 0 x21)] T ?_
                  refine j_blx (F := fX11) tb_X11 (nn_ _) bk_X11_row_141 bs_X11_row_141 hz (fun K hK => ?_)
                  refine (show po_X11_row T m i w T (some (vI (T 250 0 x21))) from ?_)
                  exact ⟨rfl, _, rfl, by rfl⟩
              · refine ix_i (by omega) ?_
                intro b27 b27b
                refine hK 141 _ [vI (T 249 0 x21)] T ?_
                refine j_blx (F := fX11) tb_X11 (nn_ _) bk_X11_row_141 bs_X11_row_141 hz (fun K hK => ?_)
                refine (show po_X11_row T m i w T (some (vI (T 249 0 x21))) from ?_)
                exact ⟨rfl, _, rfl, by rfl⟩
            · refine ix_i (by omega) ?_
              intro b28 b28b
              refine hK 141 _ [vI (T 248 0 x21)] T ?_
              refine j_blx (F := fX11) tb_X11 (nn_ _) bk_X11_row_141 bs_X11_row_141 hz (fun K hK => ?_)
              refine (show po_X11_row T m i w T (some (vI (T 248 0 x21))) from ?_)
              exact ⟨rfl, _, rfl, by rfl⟩
        · replace hx8 := hx8.resolve_left (fun z => absurd (c9.symm.trans z.1) (by decide))
          clear c9
          refine (show po_X11_row T m i w T (some (vI (-2))) from ?_)
          exact ⟨rfl, _, rfl, by rfl⟩
      · refine ix_i (by omega) ?_
        intro b29 b29b
        refine hK 48 _ [vI (T 254 0 m), vI i] T ?_
        refine j_callS (y := yX11_isOf) (Yc := zX11_isOf) (rest := []) [vI i, vI (T 254 0 m)] (ct_X11_isOf (T := T) (by omega)) cl_X11_317 (qd_c (by decide +kernel)) (nn_ _) rfl (rf_of rfl) (Nat.le_of_ble_eq_true rfl) (Nat.le_of_ble_eq_true rfl) (Nat.le_of_ble_eq_true rfl) rfl ?_
        rintro _ _ ⟨rfl, x30, rfl, hx30⟩
        show J_ zX11_row T (po_X11_row T m i w) 0 0 51 _ [vI x30] T
        refine j_blx (F := fX11) tb_X11 (nn_ _) bk_X11_row_51 bs_X11_row_51 hz (fun K hK => ?_)
        refine And.intro (fun c31 => ?_) (fun c31 => ?_)
        · replace hx30 := hx30.resolve_right (fun z => c31 z.1)
          clear c31
          refine hK 57 _ [] T ?_
          have hry := hrx
          obtain ⟨L, hB, hR⟩ := hry
          have hl : lk_ T (T 253 0 m) (L m 0) ∧ T 254 0 m = ((L m 0).length : Int) := hB.1 m 0 (by omega) (by omega) (by decide) (by decide)
          have hl2 : lk_ T (T 255 0 m) (L m 1) ∧ T 256 0 m = ((L m 1).length : Int) := hB.1 m 1 (by omega) (by omega) (by decide) (by decide)
          refine j_blx (F := fX11) tb_X11 (nn_ _) bk_X11_row_57 bs_X11_row_57 hz (fun K hK => ?_)
          refine And.intro (fun c32 => ?_) (fun c32 => ?_)
          · refine hK 72 _ [vR 111 0] T ?_
            refine j_blx (F := fX11) tb_X11 (nn_ _) bk_X11_row_72 bs_X11_row_72 hz (fun K hK => ?_)
            refine ix_i (by omega) ?_
            intro b33 b33b
            refine hK 79 _ [vI i, vI (T 255 0 m), vR 111 0] T ?_
            refine j_callV (y := yX11_rowAt) (Yc := zX11_rowAt) (rest := []) [vI (T 255 0 m), vI i] (ct_X11_rowAt (T := T) (l := L m 1) (by exact hl2.1) (by omega)) cl_X11_456 (qd_c (by decide +kernel)) (nn_ _) rfl (rf_of rfl) (Nat.le_of_ble_eq_true rfl) (Nat.le_of_ble_eq_true rfl) (Nat.le_of_ble_eq_true rfl) rfl ?_
            rintro _ _ ⟨rfl, x34, rfl, hx34⟩
            show J_ zX11_row T (po_X11_row T m i w) 0 0 82 _ [vI x34] T
            refine j_blx (F := fX11) tb_X11 (nn_ _) bk_X11_row_82 bs_X11_row_82 hz (fun K hK => ?_)
            refine dv_i (by omega) ?_
            refine And.intro (fun c35 => ?_) (fun c35 => ?_)
            · refine hK 100 [some (vR 111 0), some (vI m), some (vI i), some (vI w), some (vI x34)] [] T ?_
              refine j_blx (F := fX11) tb_X11 (nn_ _) bk_X11_row_100 bs_X11_row_100 hz (fun K hK => ?_)
              refine dv_i (by omega) ?_
              refine And.intro (fun c36 => ?_) (fun c36 => ?_)
              · refine hK 117 _ [] T ?_
                refine j_blx (F := fX11) tb_X11 (nn_ _) bk_X11_row_117 bs_X11_row_117 hz (fun K hK => ?_)
                refine dv_i (by omega) ?_
                refine And.intro (fun c37 => ?_) (fun c37 => ?_)
                · refine hK 134 _ [] T ?_
                  refine j_blx (F := fX11) tb_X11 (nn_ _) bk_X11_row_134 bs_X11_row_134 hz (fun K hK => ?_)
                  refine ix_i (by omega) ?_
                  intro b38 b38b
                  refine (show po_X11_row T m i w T (some (vI (T 251 0 x34))) from ?_)
                  exact ⟨rfl, _, rfl, by rfl⟩
                · refine ix_i (by omega) ?_
                  intro b39 b39b
                  refine hK 141 _ [vI (T 250 0 x34)] T ?_
                  refine j_blx (F := fX11) tb_X11 (nn_ _) bk_X11_row_141 bs_X11_row_141 hz (fun K hK => ?_)
                  refine (show po_X11_row T m i w T (some (vI (T 250 0 x34))) from ?_)
                  exact ⟨rfl, _, rfl, by rfl⟩
              · refine ix_i (by omega) ?_
                intro b40 b40b
                refine hK 141 _ [vI (T 249 0 x34)] T ?_
                refine j_blx (F := fX11) tb_X11 (nn_ _) bk_X11_row_141 bs_X11_row_141 hz (fun K hK => ?_)
                refine (show po_X11_row T m i w T (some (vI (T 249 0 x34))) from ?_)
                exact ⟨rfl, _, rfl, by rfl⟩
            · refine ix_i (by omega) ?_
              intro b41 b41b
              refine hK 141 _ [vI (T 248 0 x34)] T ?_
              refine j_blx (F := fX11) tb_X11 (nn_ _) bk_X11_row_141 bs_X11_row_141 hz (fun K hK => ?_)
              refine (show po_X11_row T m i w T (some (vI (T 248 0 x34))) from ?_)
              exact ⟨rfl, _, rfl, by rfl⟩
          · refine ix_i (by omega) ?_
            intro b42 b42b
            refine hK 78 _ [vI (T 253 0 m), vR 111 0] T ?_
            refine j_blx (F := fX11) tb_X11 (nn_ _) bk_X11_row_78 bs_X11_row_78 hz (fun K hK => ?_)
            refine hK 79 _ [vI i, vI (T 253 0 m), vR 111 0] T ?_
            refine j_callV (y := yX11_rowAt) (Yc := zX11_rowAt) (rest := []) [vI (T 253 0 m), vI i] (ct_X11_rowAt (T := T) (l := L m 0) (by exact hl.1) (by omega)) cl_X11_456 (qd_c (by decide +kernel)) (nn_ _) rfl (rf_of rfl) (Nat.le_of_ble_eq_true rfl) (Nat.le_of_ble_eq_true rfl) (Nat.le_of_ble_eq_true rfl) rfl ?_
            rintro _ _ ⟨rfl, x43, rfl, hx43⟩
            show J_ zX11_row T (po_X11_row T m i w) 0 0 82 _ [vI x43] T
            refine j_blx (F := fX11) tb_X11 (nn_ _) bk_X11_row_82 bs_X11_row_82 hz (fun K hK => ?_)
            refine dv_i (by omega) ?_
            refine And.intro (fun c44 => ?_) (fun c44 => ?_)
            · refine hK 100 [some (vR 111 0), some (vI m), some (vI i), some (vI w), some (vI x43)] [] T ?_
              refine j_blx (F := fX11) tb_X11 (nn_ _) bk_X11_row_100 bs_X11_row_100 hz (fun K hK => ?_)
              refine dv_i (by omega) ?_
              refine And.intro (fun c45 => ?_) (fun c45 => ?_)
              · refine hK 117 _ [] T ?_
                refine j_blx (F := fX11) tb_X11 (nn_ _) bk_X11_row_117 bs_X11_row_117 hz (fun K hK => ?_)
                refine dv_i (by omega) ?_
                refine And.intro (fun c46 => ?_) (fun c46 => ?_)
                · refine hK 134 _ [] T ?_
                  refine j_blx (F := fX11) tb_X11 (nn_ _) bk_X11_row_134 bs_X11_row_134 hz (fun K hK => ?_)
                  refine ix_i (by omega) ?_
                  intro b47 b47b
                  refine (show po_X11_row T m i w T (some (vI (T 251 0 x43))) from ?_)
                  exact ⟨rfl, _, rfl, by rfl⟩
                · refine ix_i (by omega) ?_
                  intro b48 b48b
                  refine hK 141 _ [vI (T 250 0 x43)] T ?_
                  refine j_blx (F := fX11) tb_X11 (nn_ _) bk_X11_row_141 bs_X11_row_141 hz (fun K hK => ?_)
                  refine (show po_X11_row T m i w T (some (vI (T 250 0 x43))) from ?_)
                  exact ⟨rfl, _, rfl, by rfl⟩
              · refine ix_i (by omega) ?_
                intro b49 b49b
                refine hK 141 _ [vI (T 249 0 x43)] T ?_
                refine j_blx (F := fX11) tb_X11 (nn_ _) bk_X11_row_141 bs_X11_row_141 hz (fun K hK => ?_)
                refine (show po_X11_row T m i w T (some (vI (T 249 0 x43))) from ?_)
                exact ⟨rfl, _, rfl, by rfl⟩
            · refine ix_i (by omega) ?_
              intro b50 b50b
              refine hK 141 _ [vI (T 248 0 x43)] T ?_
              refine j_blx (F := fX11) tb_X11 (nn_ _) bk_X11_row_141 bs_X11_row_141 hz (fun K hK => ?_)
              refine (show po_X11_row T m i w T (some (vI (T 248 0 x43))) from ?_)
              exact ⟨rfl, _, rfl, by rfl⟩
        · replace hx30 := hx30.resolve_left (fun z => absurd (c31.symm.trans z.1) (by decide))
          clear c31
          refine (show po_X11_row T m i w T (some (vI (-2))) from ?_)
          exact ⟨rfl, _, rfl, by rfl⟩
    · replace hx4 := hx4.resolve_left (fun z => absurd (c5.symm.trans z.1) (by decide))
      clear c5
      refine (show po_X11_row T m i w T (some (vI (-3))) from ?_)
      exact ⟨rfl, _, rfl, by rfl⟩
  · replace hx2 := hx2.resolve_left (fun z => absurd (c3.symm.trans z.1) (by decide))
    clear c3
    refine (show po_X11_row T m i w T (some (vI (-2))) from ?_)
    exact ⟨rfl, _, rfl, by rfl⟩
abbrev cX11_rows : ByteArray := prog_13_method_77_code
def yX11_rows : MethodName := ⟨RX11, "rows", "(II)I"⟩
def zX11_rows : Zm := (RX11, cX11_rows, 3, (some .int), { frames := 2, cells := 0, slots := 0, locals := 43 })
abbrev cX11_state : ByteArray := prog_13_method_79_code
def yX11_state : MethodName := ⟨RX11, "state", "(II)I"⟩
def zX11_state : Zm := (RX11, cX11_state, 3, (some .int), { frames := 2, cells := 0, slots := 0, locals := 43 })
abbrev cX11_onField : ByteArray := prog_13_method_80_code
def yX11_onField : MethodName := ⟨RX11, "onField", "(III)I"⟩
def zX11_onField : Zm := (RX11, cX11_onField, 5, (some .int), { frames := 2, cells := 0, slots := 0, locals := 43 })
theorem an_nn (x : Int) : 0 ≤ an_ x 2147483647 := by
  have h : ((Int32.ofInt x).toBitVec &&& (Int32.ofInt 2147483647).toBitVec).msb = false := by
    rw [BitVec.msb_and, show (Int32.ofInt 2147483647).toBitVec.msb = false by decide, Bool.and_false]
  show 0 ≤ ((Int32.ofInt x).toBitVec &&& (Int32.ofInt 2147483647).toBitVec).toInt
  rw [BitVec.toInt_eq_msb_cond, h]
  simp
abbrev cX11_lot : ByteArray := prog_13_method_85_code
def yX11_lot : MethodName := ⟨RX11, "lot", "(III)I"⟩
def zX11_lot : Zm := (RX11, cX11_lot, 5, (some .int), { frames := 0, cells := 0, slots := 0, locals := 0 })
theorem bk_X11_lot_16 : ck_ fX11 (some .int) cX11_lot 16 [.iload 4, .iconst 3, .if_icmp .ge 51, .iload 3, .iload 3, .iconst 16, .iushr, .ixor, .istore 3, .iload 4, .iconst 2, .if_icmp .ge 43, .iload 3, .iconst 73244475, .fmul, .goto 44] 43 = true := qck_r (nn_ _) (by decide +kernel)
theorem bs_X11_lot_16 {P : Zt → Option Zv → Prop} (K : Int → Zl → List Zv → Zt → Prop) : sx_ K P [.iload 4, .iconst 3, .if_icmp .ge 51, .iload 3, .iload 3, .iconst 16, .iushr, .ixor, .istore 3, .iload 4, .iconst 2, .if_icmp .ge 43, .iload 3, .iconst 73244475, .fmul, .goto 44] 43 = x_iload 4 (x_iconst 3 (x_if_icmp .ge 51 K (x_iload 3 (x_iload 3 (x_iconst 16 (x_iushr (x_ixor (x_istore 3 (x_iload 4 (x_iconst 2 (x_if_icmp .ge 43 K (x_iload 3 (x_iconst 73244475 (x_fmul (x_goto 44 K))))))))))))))) := ((xe_iload 4).trans (congrArg (x_iload 4) ((xe_iconst 3).trans (congrArg (x_iconst 3) ((xe_if_icmp .ge 51).trans (congrArg (x_if_icmp .ge 51 K) ((xe_iload 3).trans (congrArg (x_iload 3) ((xe_iload 3).trans (congrArg (x_iload 3) ((xe_iconst 16).trans (congrArg (x_iconst 16) ((xe_iushr).trans (congrArg (x_iushr) ((xe_ixor).trans (congrArg (x_ixor) ((xe_istore 3).trans (congrArg (x_istore 3) ((xe_iload 4).trans (congrArg (x_iload 4) ((xe_iconst 2).trans (congrArg (x_iconst 2) ((xe_if_icmp .ge 43).trans (congrArg (x_if_icmp .ge 43 K) ((xe_iload 3).trans (congrArg (x_iload 3) ((xe_iconst 73244475).trans (congrArg (x_iconst 73244475) ((xe_fmul).trans (congrArg (x_fmul) (xe_goto 44)))))))))))))))))))))))))))))))
theorem bk_X11_lot_51 : ck_ fX11 (some .int) cX11_lot 51 [.iload 3, .iconst 2147483647, .iand, .ireturn] 57 = true := qck_r (nn_ _) (by decide +kernel)
theorem bs_X11_lot_51 {P : Zt → Option Zv → Prop} (K : Int → Zl → List Zv → Zt → Prop) : sx_ K P [.iload 3, .iconst 2147483647, .iand, .ireturn] 57 = x_iload 3 (x_iconst 2147483647 (x_iand (x_ireturn P))) := ((xe_iload 3).trans (congrArg (x_iload 3) ((xe_iconst 2147483647).trans (congrArg (x_iconst 2147483647) ((xe_iand).trans (congrArg (x_iand) (xe_ireturn)))))))
theorem bk_X11_lot_43 : ck_ fX11 (some .int) cX11_lot 43 [.iload 3, .istore 3, .iinc 4 1, .goto 16] 51 = true := qck_r (nn_ _) (by decide +kernel)
theorem bs_X11_lot_43 {P : Zt → Option Zv → Prop} (K : Int → Zl → List Zv → Zt → Prop) : sx_ K P [.iload 3, .istore 3, .iinc 4 1, .goto 16] 51 = x_iload 3 (x_istore 3 (x_iinc 4 1 (x_goto 16 K))) := ((xe_iload 3).trans (congrArg (x_iload 3) ((xe_istore 3).trans (congrArg (x_istore 3) ((xe_iinc 4 1).trans (congrArg (x_iinc 4 1) (xe_goto 16)))))))
theorem bk_X11_lot_44 : ck_ fX11 (some .int) cX11_lot 44 [.istore 3, .iinc 4 1, .goto 16] 51 = true := qck_r (nn_ _) (by decide +kernel)
theorem bs_X11_lot_44 {P : Zt → Option Zv → Prop} (K : Int → Zl → List Zv → Zt → Prop) : sx_ K P [.istore 3, .iinc 4 1, .goto 16] 51 = x_istore 3 (x_iinc 4 1 (x_goto 16 K)) := ((xe_istore 3).trans (congrArg (x_istore 3) ((xe_iinc 4 1).trans (congrArg (x_iinc 4 1) (xe_goto 16)))))
theorem bk_X11_lot_0 : ck_ fX11 (some .int) cX11_lot 0 [.iload 0, .iconst 1000003, .fmul, .iload 1, .fadd, .iconst 31, .fmul, .iload 2, .fadd, .istore 3, .iconst 0, .istore 4] 16 = true := qck_r (nn_ _) (by decide +kernel)
theorem bs_X11_lot_0 {P : Zt → Option Zv → Prop} (K : Int → Zl → List Zv → Zt → Prop) : sx_ K P [.iload 0, .iconst 1000003, .fmul, .iload 1, .fadd, .iconst 31, .fmul, .iload 2, .fadd, .istore 3, .iconst 0, .istore 4] 16 = x_iload 0 (x_iconst 1000003 (x_fmul (x_iload 1 (x_fadd (x_iconst 31 (x_fmul (x_iload 2 (x_fadd (x_istore 3 (x_iconst 0 (x_istore 4 (K 16)))))))))))) := ((xe_iload 0).trans (congrArg (x_iload 0) ((xe_iconst 1000003).trans (congrArg (x_iconst 1000003) ((xe_fmul).trans (congrArg (x_fmul) ((xe_iload 1).trans (congrArg (x_iload 1) ((xe_fadd).trans (congrArg (x_fadd) ((xe_iconst 31).trans (congrArg (x_iconst 31) ((xe_fmul).trans (congrArg (x_fmul) ((xe_iload 2).trans (congrArg (x_iload 2) ((xe_fadd).trans (congrArg (x_fadd) ((xe_istore 3).trans (congrArg (x_istore 3) ((xe_iconst 0).trans (congrArg (x_iconst 0) ((xe_istore 4).trans (congrArg (x_istore 4) xe_nil))))))))))))))))))))))))
abbrev po_X11_lot (T : Zt) (a b c : Int) : Zt → Option Zv → Prop := fun T' r => T = T' ∧ ∃ x : Int, r = some (vI x) ∧ (0 ≤ x ∧ x ≤ 2147483647)
set_option maxHeartbeats 4000000 in
theorem ct_X11_lot {T : Zt} {a b c : Int} : Ct_ yX11_lot zX11_lot T [vI a, vI b, vI c] (po_X11_lot T a b c) := by
  refine ct_of pn_11 rfl rfl (Nat.le_of_ble_eq_true rfl) (fun hT hav => ?_)
  have hr_a : -2147483648 ≤ a ∧ a ≤ 2147483647 := hav (vI a) List.mem_cons_self
  have hr_b : -2147483648 ≤ b ∧ b ≤ 2147483647 := hav (vI b) (List.mem_cons_of_mem _ List.mem_cons_self)
  have hr_c : -2147483648 ≤ c ∧ c ≤ 2147483647 := hav (vI c) (List.mem_cons_of_mem _ (List.mem_cons_of_mem _ List.mem_cons_self))
  have hz : zX11_lot.2.2.2.1 = some .boolean → ∀ (T' : Zt) (x : Int), po_X11_lot T a b c T' (some (vI x)) → 0 ≤ x ∧ x ≤ 1 := fun h => by cases h
  show J_ zX11_lot T (po_X11_lot T a b c) 0 0 0 [some (vI a), some (vI b), some (vI c), none, none] [] T
  have c_16 : ∀ (nn : Nat) (v : Int) (i : Int), ((3 - i).toNat) ≤ nn → (0 ≤ i ∧ i ≤ 3) → J_ zX11_lot T (po_X11_lot T a b c) 0 0 16 [some (vI a), some (vI b), some (vI c), some (vI v), some (vI i)] [] T := by
    intro nn
    induction nn using Nat.strongRecOn with
    | _ nn ih_16 =>
      intro v i hm_16 i1
      replace hm_16 := fun (_ : Unit) => hm_16
      refine j_blx (F := fX11) tb_X11 (nn_ _) bk_X11_lot_16 bs_X11_lot_16 hz (fun K hK => ?_)
      refine And.intro (fun c1 => ?_) (fun c1 => ?_)
      · refine hK 51 _ [] T ?_
        refine j_blx (F := fX11) tb_X11 (nn_ _) bk_X11_lot_51 bs_X11_lot_51 hz (fun K hK => ?_)
        intro w2 w2b
        refine (show po_X11_lot T a b c T (some (vI (an_ v 2147483647))) from ?_)
        exact ⟨rfl, _, rfl, an_nn _, by omega⟩
      · intro w3 w3b
        intro w4 w4b
        refine And.intro (fun c5 => ?_) (fun c5 => ?_)
        · refine hK 43 [some (vI a), some (vI b), some (vI c), some (vI (xo_ v (us_ v 16))), some (vI i)] [] T ?_
          refine j_blx (F := fX11) tb_X11 (nn_ _) bk_X11_lot_43 bs_X11_lot_43 hz (fun K hK => ?_)
          refine rg_i (by omega) ?_
          refine hK 16 [some (vI a), some (vI b), some (vI c), some (vI (xo_ v (us_ v 16))), some (vI (i + 1))] [] T ?_
          refine ih_16 _ ?_ (xo_ v (us_ v 16)) (i + 1) (Nat.le_refl _) ?_
          · have hm_16 := hm_16 (); omega
          · omega
        · intro w6 w6b
          refine hK 44 [some (vI a), some (vI b), some (vI c), some (vI (xo_ v (us_ v 16))), some (vI i)] [vI (wr_ ((xo_ v (us_ v 16)) * 73244475))] T ?_
          refine j_blx (F := fX11) tb_X11 (nn_ _) bk_X11_lot_44 bs_X11_lot_44 hz (fun K hK => ?_)
          refine rg_i (by omega) ?_
          refine hK 16 [some (vI a), some (vI b), some (vI c), some (vI (wr_ ((xo_ v (us_ v 16)) * 73244475))), some (vI (i + 1))] [] T ?_
          refine ih_16 _ ?_ (wr_ ((xo_ v (us_ v 16)) * 73244475)) (i + 1) (Nat.le_refl _) ?_
          · have hm_16 := hm_16 (); omega
          · omega
  refine j_blx (F := fX11) tb_X11 (nn_ _) bk_X11_lot_0 bs_X11_lot_0 hz (fun K hK => ?_)
  intro w7 w7b
  intro w8 w8b
  intro w9 w9b
  intro w10 w10b
  refine hK 16 [some (vI a), some (vI b), some (vI c), some (vI (wr_ ((wr_ ((wr_ ((wr_ (a * 1000003)) + b)) * 31)) + c))), some (vI 0)] [] T ?_
  refine c_16 _ (wr_ ((wr_ ((wr_ ((wr_ (a * 1000003)) + b)) * 31)) + c)) 0 (Nat.le_refl _) ?_
  · omega
/-- two clubs are told alike, up to i -/
def EQ_ (T : Zt) (a b i : Int) : Prop := ∀ j, 0 ≤ j → j < i → T 284 0 (3 * a + j) = T 284 0 (3 * b + j)
theorem EQ_t {T : Zt} {a b c i : Int} (h : EQ_ T a b i) (g : EQ_ T b c i) : EQ_ T a c i := fun j p q => (h j p q).trans (g j p q)
def SB_ (T : Zt) : Prop := ∀ a b i : Int, 0 ≤ a → a < 12 → 0 ≤ b → b < 12 → 0 ≤ i → i < 3 → -2147483648 ≤ T 284 0 (3 * a + i) - T 284 0 (3 * b + i) ∧ T 284 0 (3 * a + i) - T 284 0 (3 * b + i) ≤ 2147483647
theorem SB__f {ws : List (Nat × List Int)} {T T' : Zt} (h : SB_ T) (f : fr_ ws T T') (w : (∀ j, fw_ ws 284 j = false) ∧ True) : SB_ T' := by
  have e0 : ∀ i j, T' 284 i j = T 284 i j := fun i j => f 284 i j (w.1 j)
  simp only [SB_, e0] at h ⊢
  exact h
abbrev cX11_compareClubs : ByteArray := prog_13_method_88_code
def yX11_compareClubs : MethodName := ⟨RX11, "compareClubs", "(II)I"⟩
def zX11_compareClubs : Zm := (RX11, cX11_compareClubs, 5, (some .int), { frames := 0, cells := 0, slots := 0, locals := 0 })
theorem bk_X11_compareClubs_75 : ck_ fX11 (some .int) cX11_compareClubs 75 [.istore 3, .iinc 4 1, .goto 5] 82 = true := qck_r (nn_ _) (by decide +kernel)
theorem bs_X11_compareClubs_75 {P : Zt → Option Zv → Prop} (K : Int → Zl → List Zv → Zt → Prop) : sx_ K P [.istore 3, .iinc 4 1, .goto 5] 82 = x_istore 3 (x_iinc 4 1 (x_goto 5 K)) := ((xe_istore 3).trans (congrArg (x_istore 3) ((xe_iinc 4 1).trans (congrArg (x_iinc 4 1) (xe_goto 5)))))
theorem bk_X11_compareClubs_5 : ck_ fX11 (some .int) cX11_compareClubs 5 [.iload 4, .iconst 3, .if_icmp .ge 82, .iload 3, .ifCond .ne 82, .aload 0, .tableswitch 0 11 84 #[], .iconst 3, .iload 1, .imul, .iload 4, .iadd, .iaload, .aload 0, .tableswitch 0 11 84 #[], .iconst 3, .iload 2, .imul, .iload 4, .iadd, .iaload, .isub, .ifCond .le 45, .iconst 1, .goto 75] 45 = true := qck_r (nn_ _) (by decide +kernel)
theorem bs_X11_compareClubs_5 {P : Zt → Option Zv → Prop} (K : Int → Zl → List Zv → Zt → Prop) : sx_ K P [.iload 4, .iconst 3, .if_icmp .ge 82, .iload 3, .ifCond .ne 82, .aload 0, .tableswitch 0 11 84 #[], .iconst 3, .iload 1, .imul, .iload 4, .iadd, .iaload, .aload 0, .tableswitch 0 11 84 #[], .iconst 3, .iload 2, .imul, .iload 4, .iadd, .iaload, .isub, .ifCond .le 45, .iconst 1, .goto 75] 45 = x_iload 4 (x_iconst 3 (x_if_icmp .ge 82 K (x_iload 3 (x_ifCond .ne 82 K (x_aload 0 (x_g1 111 284 (x_iconst 3 (x_iload 1 (x_imul (x_iload 4 (x_iadd (x_iaload (x_aload 0 (x_g1 111 284 (x_iconst 3 (x_iload 2 (x_imul (x_iload 4 (x_iadd (x_iaload (x_isub (x_ifCond .le 45 K (x_iconst 1 (x_goto 75 K)))))))))))))))))))))))) := ((xe_iload 4).trans (congrArg (x_iload 4) ((xe_iconst 3).trans (congrArg (x_iconst 3) ((xe_if_icmp .ge 82).trans (congrArg (x_if_icmp .ge 82 K) ((xe_iload 3).trans (congrArg (x_iload 3) ((xe_ifCond .ne 82).trans (congrArg (x_ifCond .ne 82 K) ((xe_aload 0).trans (congrArg (x_aload 0) ((xe_g1 (kk := 111) rfl tl_11_84).trans (congrArg (x_g1 111 284) ((xe_iconst 3).trans (congrArg (x_iconst 3) ((xe_iload 1).trans (congrArg (x_iload 1) ((xe_imul).trans (congrArg (x_imul) ((xe_iload 4).trans (congrArg (x_iload 4) ((xe_iadd).trans (congrArg (x_iadd) ((xe_iaload).trans (congrArg (x_iaload) ((xe_aload 0).trans (congrArg (x_aload 0) ((xe_g1 (kk := 111) rfl tl_11_84).trans (congrArg (x_g1 111 284) ((xe_iconst 3).trans (congrArg (x_iconst 3) ((xe_iload 2).trans (congrArg (x_iload 2) ((xe_imul).trans (congrArg (x_imul) ((xe_iload 4).trans (congrArg (x_iload 4) ((xe_iadd).trans (congrArg (x_iadd) ((xe_iaload).trans (congrArg (x_iaload) ((xe_isub).trans (congrArg (x_isub) ((xe_ifCond .le 45).trans (congrArg (x_ifCond .le 45 K) ((xe_iconst 1).trans (congrArg (x_iconst 1) (xe_goto 75)))))))))))))))))))))))))))))))))))))))))))))))))
theorem bk_X11_compareClubs_82 : ck_ fX11 (some .int) cX11_compareClubs 82 [.iload 3, .ireturn] 84 = true := qck_r (nn_ _) (by decide +kernel)
theorem bs_X11_compareClubs_82 {P : Zt → Option Zv → Prop} (K : Int → Zl → List Zv → Zt → Prop) : sx_ K P [.iload 3, .ireturn] 84 = x_iload 3 (x_ireturn P) := ((xe_iload 3).trans (congrArg (x_iload 3) (xe_ireturn)))
theorem bk_X11_compareClubs_45 : ck_ fX11 (some .int) cX11_compareClubs 45 [.aload 0, .tableswitch 0 11 84 #[], .iconst 3, .iload 1, .imul, .iload 4, .iadd, .iaload, .aload 0, .tableswitch 0 11 84 #[], .iconst 3, .iload 2, .imul, .iload 4, .iadd, .iaload, .if_icmp .ge 74, .iconst (-1), .goto 75] 74 = true := qck_r (nn_ _) (by decide +kernel)
theorem bs_X11_compareClubs_45 {P : Zt → Option Zv → Prop} (K : Int → Zl → List Zv → Zt → Prop) : sx_ K P [.aload 0, .tableswitch 0 11 84 #[], .iconst 3, .iload 1, .imul, .iload 4, .iadd, .iaload, .aload 0, .tableswitch 0 11 84 #[], .iconst 3, .iload 2, .imul, .iload 4, .iadd, .iaload, .if_icmp .ge 74, .iconst (-1), .goto 75] 74 = x_aload 0 (x_g1 111 284 (x_iconst 3 (x_iload 1 (x_imul (x_iload 4 (x_iadd (x_iaload (x_aload 0 (x_g1 111 284 (x_iconst 3 (x_iload 2 (x_imul (x_iload 4 (x_iadd (x_iaload (x_if_icmp .ge 74 K (x_iconst (-1) (x_goto 75 K)))))))))))))))))) := ((xe_aload 0).trans (congrArg (x_aload 0) ((xe_g1 (kk := 111) rfl tl_11_84).trans (congrArg (x_g1 111 284) ((xe_iconst 3).trans (congrArg (x_iconst 3) ((xe_iload 1).trans (congrArg (x_iload 1) ((xe_imul).trans (congrArg (x_imul) ((xe_iload 4).trans (congrArg (x_iload 4) ((xe_iadd).trans (congrArg (x_iadd) ((xe_iaload).trans (congrArg (x_iaload) ((xe_aload 0).trans (congrArg (x_aload 0) ((xe_g1 (kk := 111) rfl tl_11_84).trans (congrArg (x_g1 111 284) ((xe_iconst 3).trans (congrArg (x_iconst 3) ((xe_iload 2).trans (congrArg (x_iload 2) ((xe_imul).trans (congrArg (x_imul) ((xe_iload 4).trans (congrArg (x_iload 4) ((xe_iadd).trans (congrArg (x_iadd) ((xe_iaload).trans (congrArg (x_iaload) ((xe_if_icmp .ge 74).trans (congrArg (x_if_icmp .ge 74 K) ((xe_iconst (-1)).trans (congrArg (x_iconst (-1)) (xe_goto 75)))))))))))))))))))))))))))))))))))))
theorem bk_X11_compareClubs_74 : ck_ fX11 (some .int) cX11_compareClubs 74 [.iconst 0] 75 = true := qck_r (nn_ _) (by decide +kernel)
theorem bs_X11_compareClubs_74 {P : Zt → Option Zv → Prop} (K : Int → Zl → List Zv → Zt → Prop) : sx_ K P [.iconst 0] 75 = x_iconst 0 (K 75) := ((xe_iconst 0).trans (congrArg (x_iconst 0) xe_nil))
theorem bk_X11_compareClubs_0 : ck_ fX11 (some .int) cX11_compareClubs 0 [.iconst 0, .istore 3, .iconst 0, .istore 4] 5 = true := qck_r (nn_ _) (by decide +kernel)
theorem bs_X11_compareClubs_0 {P : Zt → Option Zv → Prop} (K : Int → Zl → List Zv → Zt → Prop) : sx_ K P [.iconst 0, .istore 3, .iconst 0, .istore 4] 5 = x_iconst 0 (x_istore 3 (x_iconst 0 (x_istore 4 (K 5)))) := ((xe_iconst 0).trans (congrArg (x_iconst 0) ((xe_istore 3).trans (congrArg (x_istore 3) ((xe_iconst 0).trans (congrArg (x_iconst 0) ((xe_istore 4).trans (congrArg (x_istore 4) xe_nil))))))))
abbrev po_X11_compareClubs (T : Zt) (a b : Int) : Zt → Option Zv → Prop := fun T' r => T = T' ∧ ∃ x : Int, r = some (vI x) ∧ ((-1 ≤ x ∧ x ≤ 1) ∧ ((x = 0 ∧ EQ_ T a b 3) ∨ (x ≠ 0 ∧ ¬ EQ_ T a b 3)))
set_option maxHeartbeats 4000000 in
theorem ct_X11_compareClubs {T : Zt} {a b : Int} (h1 : 0 ≤ a ∧ a < 12) (h2 : 0 ≤ b ∧ b < 12) (hsb : SB_ T) : Ct_ yX11_compareClubs zX11_compareClubs T [vR 111 0, vI a, vI b] (po_X11_compareClubs T a b) := by
  refine ct_of pn_11 rfl rfl (Nat.le_of_ble_eq_true rfl) (fun hT hav => ?_)
  have hr_a : -2147483648 ≤ a ∧ a ≤ 2147483647 := hav (vI a) (List.mem_cons_of_mem _ List.mem_cons_self)
  have hr_b : -2147483648 ≤ b ∧ b ≤ 2147483647 := hav (vI b) (List.mem_cons_of_mem _ (List.mem_cons_of_mem _ List.mem_cons_self))
  have hz : zX11_compareClubs.2.2.2.1 = some .boolean → ∀ (T' : Zt) (x : Int), po_X11_compareClubs T a b T' (some (vI x)) → 0 ≤ x ∧ x ≤ 1 := fun h => by cases h
  show J_ zX11_compareClubs T (po_X11_compareClubs T a b) 0 0 0 [some (vR 111 0), some (vI a), some (vI b), none, none] [] T
  have c_5 : ∀ (nn : Nat) (u : Int) (i : Int), ((3 - i).toNat) ≤ nn → (0 ≤ i ∧ i ≤ 3 ∧ -1 ≤ u ∧ u ≤ 1) → ((u = 0 ∧ EQ_ T a b i) ∨ (u ≠ 0 ∧ ¬ EQ_ T a b 3)) → J_ zX11_compareClubs T (po_X11_compareClubs T a b) 0 0 5 [some (vR 111 0), some (vI a), some (vI b), some (vI u), some (vI i)] [] T := by
    intro nn
    induction nn using Nat.strongRecOn with
    | _ nn ih_5 =>
      intro u i hm_5 i1 k2
      replace hm_5 := fun (_ : Unit) => hm_5
      have c_75 : ∀ (v : Int), (-1 ≤ v ∧ v ≤ 1 ∧ i < 3 ∧ u = 0) → ((v = 0 ∧ EQ_ T a b (i + 1)) ∨ (v ≠ 0 ∧ ¬ EQ_ T a b 3)) → J_ zX11_compareClubs T (po_X11_compareClubs T a b) 0 0 75 [some (vR 111 0), some (vI a), some (vI b), some (vI u), some (vI i)] [vI v] T := by
        intro v v1 v2
        refine j_blx (F := fX11) tb_X11 (nn_ _) bk_X11_compareClubs_75 bs_X11_compareClubs_75 hz (fun K hK => ?_)
        refine rg_i (by omega) ?_
        refine hK 5 [some (vR 111 0), some (vI a), some (vI b), some (vI v), some (vI (i + 1))] [] T ?_
        refine ih_5 _ ?_ v (i + 1) (Nat.le_refl _) ?_ ?_
        · have hm_5 := hm_5 (); omega
        · omega
        · exact v2
      refine j_blx (F := fX11) tb_X11 (nn_ _) bk_X11_compareClubs_5 bs_X11_compareClubs_5 hz (fun K hK => ?_)
      refine And.intro (fun c1 => ?_) (fun c1 => ?_)
      · refine hK 82 _ [] T ?_
        refine j_blx (F := fX11) tb_X11 (nn_ _) bk_X11_compareClubs_82 bs_X11_compareClubs_82 hz (fun K hK => ?_)
        refine (show po_X11_compareClubs T a b T (some (vI u)) from ?_)
        refine ⟨rfl, _, rfl, by omega, ?_⟩
        rcases k2 with z | z
        · exact Or.inl ⟨z.1, by rw [show (3 : Int) = i by omega]; exact z.2⟩
        · exact Or.inr z
      · refine And.intro (fun c2 => ?_) (fun c2 => ?_)
        · refine hK 82 _ [] T ?_
          refine j_blx (F := fX11) tb_X11 (nn_ _) bk_X11_compareClubs_82 bs_X11_compareClubs_82 hz (fun K hK => ?_)
          refine (show po_X11_compareClubs T a b T (some (vI u)) from ?_)
          refine ⟨rfl, _, rfl, by omega, ?_⟩
          rcases k2 with z | z
          · exact Or.inl ⟨z.1, by rw [show (3 : Int) = i by omega]; exact z.2⟩
          · exact Or.inr z
        · have ba := hsb a b i (by omega) (by omega) (by omega) (by omega) (by omega) (by omega)
          refine rg_i (by omega) ?_
          refine rg_i (by omega) ?_
          refine ix_i (by omega) ?_
          intro b3 b3b
          refine rg_i (by omega) ?_
          refine rg_i (by omega) ?_
          refine ix_i (by omega) ?_
          intro b4 b4b
          refine rg_i (by omega) ?_
          refine And.intro (fun c5 => ?_) (fun c5 => ?_)
          · refine hK 45 _ [] T ?_
            refine j_blx (F := fX11) tb_X11 (nn_ _) bk_X11_compareClubs_45 bs_X11_compareClubs_45 hz (fun K hK => ?_)
            refine rg_i (by omega) ?_
            refine rg_i (by omega) ?_
            refine ix_i (by omega) ?_
            intro b6 b6b
            refine rg_i (by omega) ?_
            refine rg_i (by omega) ?_
            refine ix_i (by omega) ?_
            intro b7 b7b
            refine And.intro (fun c8 => ?_) (fun c8 => ?_)
            · refine hK 74 _ [] T ?_
              refine j_blx (F := fX11) tb_X11 (nn_ _) bk_X11_compareClubs_74 bs_X11_compareClubs_74 hz (fun K hK => ?_)
              refine hK 75 _ [vI 0] T ?_
              refine c_75 0 ?_ ?_
              · omega
              · refine Or.inl ⟨rfl, fun j p q => ?_⟩
                rcases k2 with z | z
                · by_cases e9 : j = i
                  · rw [e9]; omega
                  · exact z.2 j p (by omega)
                · exact absurd (by omega) z.1
            · refine hK 75 _ [vI (-1)] T ?_
              refine c_75 (-1) ?_ ?_
              · omega
              · exact Or.inr ⟨by decide, fun h9 => by have := h9 i (by omega) (by omega); omega⟩
          · refine hK 75 _ [vI 1] T ?_
            refine c_75 1 ?_ ?_
            · omega
            · exact Or.inr ⟨by decide, fun h9 => by have := h9 i (by omega) (by omega); omega⟩
  refine j_blx (F := fX11) tb_X11 (nn_ _) bk_X11_compareClubs_0 bs_X11_compareClubs_0 hz (fun K hK => ?_)
  refine hK 5 [some (vR 111 0), some (vI a), some (vI b), some (vI 0), some (vI 0)] [] T ?_
  refine c_5 _ 0 0 (Nat.le_refl _) ?_ ?_
  · omega
  · exact Or.inl ⟨rfl, fun j p q => by omega⟩
abbrev cX11_lay : ByteArray := prog_13_method_89_code
def yX11_lay : MethodName := ⟨RX11, "lay", "(III)V"⟩
def zX11_lay : Zm := (RX11, cX11_lay, 4, none, { frames := 0, cells := 0, slots := 0, locals := 0 })
theorem bk_X11_lay_0 : ck_ fX11 none cX11_lay 0 [.aload 0, .tableswitch 0 11 86 #[], .aload 0, .tableswitch 0 11 87 #[], .iload 1, .iastore, .aload 0, .tableswitch 0 11 86 #[], .aload 0, .tableswitch 0 11 87 #[], .iconst 1, .iadd, .iload 2, .iastore, .aload 0, .tableswitch 0 11 86 #[], .aload 0, .tableswitch 0 11 87 #[], .iconst 2, .iadd, .iload 3, .iastore, .aload 0, .dup, .tableswitch 0 11 87 #[], .iconst 3, .iadd, .tableswitch 1 11 87 #[], .return_] 45 = true := qck_r (nn_ _) (by decide +kernel)
theorem bs_X11_lay_0 {P : Zt → Option Zv → Prop} (K : Int → Zl → List Zv → Zt → Prop) : sx_ K P [.aload 0, .tableswitch 0 11 86 #[], .aload 0, .tableswitch 0 11 87 #[], .iload 1, .iastore, .aload 0, .tableswitch 0 11 86 #[], .aload 0, .tableswitch 0 11 87 #[], .iconst 1, .iadd, .iload 2, .iastore, .aload 0, .tableswitch 0 11 86 #[], .aload 0, .tableswitch 0 11 87 #[], .iconst 2, .iadd, .iload 3, .iastore, .aload 0, .dup, .tableswitch 0 11 87 #[], .iconst 3, .iadd, .tableswitch 1 11 87 #[], .return_] 45 = x_aload 0 (x_g1 111 286 (x_aload 0 (x_g0 111 87 0 120 (x_iload 1 (x_iastore (x_aload 0 (x_g1 111 286 (x_aload 0 (x_g0 111 87 0 120 (x_iconst 1 (x_iadd (x_iload 2 (x_iastore (x_aload 0 (x_g1 111 286 (x_aload 0 (x_g0 111 87 0 120 (x_iconst 2 (x_iadd (x_iload 3 (x_iastore (x_aload 0 (x_dup (x_g0 111 87 0 120 (x_iconst 3 (x_iadd (x_p 111 87 0 120 (x_return_ P)))))))))))))))))))))))))))) := ((xe_aload 0).trans (congrArg (x_aload 0) ((xe_g1 (kk := 111) rfl tl_11_86).trans (congrArg (x_g1 111 286) ((xe_aload 0).trans (congrArg (x_aload 0) ((xe_g0 (kk := 111) rfl tl_11_87).trans (congrArg (x_g0 111 87 0 120) ((xe_iload 1).trans (congrArg (x_iload 1) ((xe_iastore).trans (congrArg (x_iastore) ((xe_aload 0).trans (congrArg (x_aload 0) ((xe_g1 (kk := 111) rfl tl_11_86).trans (congrArg (x_g1 111 286) ((xe_aload 0).trans (congrArg (x_aload 0) ((xe_g0 (kk := 111) rfl tl_11_87).trans (congrArg (x_g0 111 87 0 120) ((xe_iconst 1).trans (congrArg (x_iconst 1) ((xe_iadd).trans (congrArg (x_iadd) ((xe_iload 2).trans (congrArg (x_iload 2) ((xe_iastore).trans (congrArg (x_iastore) ((xe_aload 0).trans (congrArg (x_aload 0) ((xe_g1 (kk := 111) rfl tl_11_86).trans (congrArg (x_g1 111 286) ((xe_aload 0).trans (congrArg (x_aload 0) ((xe_g0 (kk := 111) rfl tl_11_87).trans (congrArg (x_g0 111 87 0 120) ((xe_iconst 2).trans (congrArg (x_iconst 2) ((xe_iadd).trans (congrArg (x_iadd) ((xe_iload 3).trans (congrArg (x_iload 3) ((xe_iastore).trans (congrArg (x_iastore) ((xe_aload 0).trans (congrArg (x_aload 0) ((xe_dup).trans (congrArg (x_dup) ((xe_g0 (kk := 111) rfl tl_11_87).trans (congrArg (x_g0 111 87 0 120) ((xe_iconst 3).trans (congrArg (x_iconst 3) ((xe_iadd).trans (congrArg (x_iadd) ((xe_p (kk := 111) rfl tl_11_87).trans (congrArg (x_p 111 87 0 120) (xe_return_)))))))))))))))))))))))))))))))))))))))))))))))))))))))))
abbrev po_X11_lay (T : Zt) (a b c : Int) : Zt → Option Zv → Prop := fun T' r => r = none ∧ fr_ [(286, []), (111, [87])] T T' ∧ (T' 111 0 87 = T 111 0 87 + 3 ∧ T' 286 0 (T 111 0 87) = a ∧ T' 286 0 (T 111 0 87 + 1) = b ∧ T' 286 0 (T 111 0 87 + 2) = c ∧ ∀ j, j < T 111 0 87 → T' 286 0 j = T 286 0 j)
set_option maxHeartbeats 4000000 in
theorem ct_X11_lay {T : Zt} {a b c : Int} (h1 : T 111 0 87 + 3 ≤ 120) (h2 : 0 ≤ a ∧ a ≤ 12) (h3 : 0 ≤ b ∧ b ≤ 12) (h4 : 0 ≤ c ∧ c ≤ 12) : Ct_ yX11_lay zX11_lay T [vR 111 0, vI a, vI b, vI c] (po_X11_lay T a b c) := by
  refine ct_of pn_11 rfl rfl (Nat.le_of_ble_eq_true rfl) (fun hT hav => ?_)
  have hr_a : -2147483648 ≤ a ∧ a ≤ 2147483647 := hav (vI a) (List.mem_cons_of_mem _ List.mem_cons_self)
  have hr_b : -2147483648 ≤ b ∧ b ≤ 2147483647 := hav (vI b) (List.mem_cons_of_mem _ (List.mem_cons_of_mem _ List.mem_cons_self))
  have hr_c : -2147483648 ≤ c ∧ c ≤ 2147483647 := hav (vI c) (List.mem_cons_of_mem _ (List.mem_cons_of_mem _ (List.mem_cons_of_mem _ List.mem_cons_self)))
  have hz : zX11_lay.2.2.2.1 = some .boolean → ∀ (T' : Zt) (x : Int), po_X11_lay T a b c T' (some (vI x)) → 0 ≤ x ∧ x ≤ 1 := fun h => by cases h
  have hb_87 : 0 ≤ T 111 0 87 ∧ T 111 0 87 ≤ 120 := bd_f hT 111 87 tl_11_87 0
  show J_ zX11_lay T (po_X11_lay T a b c) 0 0 0 [some (vR 111 0), some (vI a), some (vI b), some (vI c)] [] T
  refine j_blx (F := fX11) tb_X11 (nn_ _) bk_X11_lay_0 bs_X11_lay_0 hz (fun K hK => ?_)
  intro b1 b1b
  refine iy_i (by omega) (by omega) ?_
  refine x_nm (fun U2 hU2 => ?_)
  have e3 := up_f hU2
  intro b4 b4b
  have e5 : U2 111 0 87 = T 111 0 87 := up_k hU2 (by exact Nat.ne_of_beq_eq_false rfl) 0 87
  rw [e5] at b4 b4b ⊢
  refine rg_i (by omega) ?_
  refine iy_i (by omega) (by omega) ?_
  refine x_nm (fun U6 hU6 => ?_)
  have e7 := up_f hU6
  intro b8 b8b
  have e9 : U6 111 0 87 = T 111 0 87 := (up_k hU6 (by exact Nat.ne_of_beq_eq_false rfl) 0 87).trans (up_k hU2 (by exact Nat.ne_of_beq_eq_false rfl) 0 87)
  rw [e9] at b8 b8b ⊢
  refine rg_i (by omega) ?_
  refine iy_i (by omega) (by omega) ?_
  refine x_nm (fun U10 hU10 => ?_)
  have e11 := up_f hU10
  intro b12 b12b
  have e13 : U10 111 0 87 = T 111 0 87 := (up_k hU10 (by exact Nat.ne_of_beq_eq_false rfl) 0 87).trans ((up_k hU6 (by exact Nat.ne_of_beq_eq_false rfl) 0 87).trans (up_k hU2 (by exact Nat.ne_of_beq_eq_false rfl) 0 87))
  rw [e13] at b12 b12b ⊢
  refine rg_i (by omega) ?_
  refine bd_i (by omega) ?_
  refine x_nm (fun U14 hU14 => ?_)
  have e15 := up_f hU14
  refine (show po_X11_lay T a b c U14 (none) from ?_)
  have e16 : U14 111 0 87 = (T 111 0 87) + 3 := up_f hU14
  exact ⟨rfl, fr_u (fr_u (fr_u (fr_u (fr_0 _ _) hU2 rfl) hU6 rfl) hU10 rfl) hU14 rfl, by omega, ((up_k hU14 (by exact Nat.ne_of_beq_eq_false rfl) 0 (T 111 0 87)).trans ((up_g hU10 (by omega)).trans (up_g hU6 (by omega)))).trans (up_f hU2), ((up_k hU14 (by exact Nat.ne_of_beq_eq_false rfl) 0 (T 111 0 87 + 1)).trans (up_g hU10 (by omega))).trans (up_f hU6), (up_k hU14 (by exact Nat.ne_of_beq_eq_false rfl) 0 (T 111 0 87 + 2)).trans (up_f hU10), fun j hj => (up_k hU14 (by exact Nat.ne_of_beq_eq_false rfl) 0 j).trans ((up_g hU10 (by omega)).trans ((up_g hU6 (by omega)).trans (up_g hU2 (by omega))))⟩
/-- a club is somewhere in the standing -/
def OC_ (T : Zt) (n v : Int) : Prop := ∃ j, 0 ≤ j ∧ j < n ∧ T 277 0 j = v
def OH_ (T : Zt) (n v h w : Int) : Prop := v = w ∨ ∃ j, 0 ≤ j ∧ j < n ∧ j ≠ h ∧ T 277 0 j = v
theorem oc_lt {T : Zt} {n i v : Int} (h : OC_ T n v) (k : ∀ j, 0 ≤ j → j < i → T 277 0 j ≠ v) : i < n := by
  obtain ⟨j, a, b, c⟩ := h
  exact Int.lt_of_le_of_lt (Int.not_lt.mp (fun q => k j a q c)) b
theorem oc_0 {T : Zt} {n v i : Int} (h : OC_ T n v) : OH_ T n v i (T 277 0 i) := by
  obtain ⟨j, a, b, c⟩ := h
  by_cases z : j = i
  · exact Or.inl (by rw [← c, z])
  · exact Or.inr ⟨j, a, b, z, c⟩
theorem oc_1 {T T1 : Zt} {n v i w : Int} (h : OH_ T n v i w) (hi : 0 < i ∧ i < n) (e : T1 = up_ T 277 0 i (T 277 0 (i - 1))) : OH_ T1 n v (i - 1) w := by
  rcases h with h | ⟨j, a, b, z, c⟩
  · exact Or.inl h
  · by_cases y : j = i - 1
    · exact Or.inr ⟨i, by omega, by omega, by omega, by rw [up_f e, ← y]; exact c⟩
    · exact Or.inr ⟨j, a, b, y, by rw [up_g e (fun q => z q.2.2)]; exact c⟩
theorem oc_2 {T T1 : Zt} {n v i w : Int} (h : OH_ T n v i w) (hi : 0 ≤ i ∧ i < n) (e : T1 = up_ T 277 0 i w) : OC_ T1 n v := by
  rcases h with h | ⟨j, a, b, z, c⟩
  · exact ⟨i, hi.1, hi.2, by rw [up_f e, h]⟩
  · exact ⟨j, a, b, by rw [up_g e (fun q => z q.2.2)]; exact c⟩
abbrev cX11_sortPart : ByteArray := prog_13_method_90_code
def yX11_sortPart : MethodName := ⟨RX11, "sortPart", "(II)V"⟩
def zX11_sortPart : Zm := (RX11, cX11_sortPart, 6, none, { frames := 1, cells := 0, slots := 0, locals := 24 })
theorem bk_X11_sortPart_66 : ck_ fX11 none cX11_sortPart 66 [.aload 0, .tableswitch 0 11 77 #[], .iload 5, .iload 4, .iastore, .iinc 3 1, .goto 4] 81 = true := qck_r (nn_ _) (by decide +kernel)
theorem bs_X11_sortPart_66 {P : Zt → Option Zv → Prop} (K : Int → Zl → List Zv → Zt → Prop) : sx_ K P [.aload 0, .tableswitch 0 11 77 #[], .iload 5, .iload 4, .iastore, .iinc 3 1, .goto 4] 81 = x_aload 0 (x_g1 111 277 (x_iload 5 (x_iload 4 (x_iastore (x_iinc 3 1 (x_goto 4 K)))))) := ((xe_aload 0).trans (congrArg (x_aload 0) ((xe_g1 (kk := 111) rfl tl_11_77).trans (congrArg (x_g1 111 277) ((xe_iload 5).trans (congrArg (x_iload 5) ((xe_iload 4).trans (congrArg (x_iload 4) ((xe_iastore).trans (congrArg (x_iastore) ((xe_iinc 3 1).trans (congrArg (x_iinc 3 1) (xe_goto 4)))))))))))))
theorem bk_X11_sortPart_20 : ck_ fX11 none cX11_sortPart 20 [.iload 5, .iload 1, .if_icmp .le 66, .aload 0, .iload 4, .aload 0, .tableswitch 0 11 77 #[], .iload 5, .iconst 1, .isub, .iaload] 38 = true := qck_r (nn_ _) (by decide +kernel)
theorem bs_X11_sortPart_20 {P : Zt → Option Zv → Prop} (K : Int → Zl → List Zv → Zt → Prop) : sx_ K P [.iload 5, .iload 1, .if_icmp .le 66, .aload 0, .iload 4, .aload 0, .tableswitch 0 11 77 #[], .iload 5, .iconst 1, .isub, .iaload] 38 = x_iload 5 (x_iload 1 (x_if_icmp .le 66 K (x_aload 0 (x_iload 4 (x_aload 0 (x_g1 111 277 (x_iload 5 (x_iconst 1 (x_isub (x_iaload (K 38))))))))))) := ((xe_iload 5).trans (congrArg (x_iload 5) ((xe_iload 1).trans (congrArg (x_iload 1) ((xe_if_icmp .le 66).trans (congrArg (x_if_icmp .le 66 K) ((xe_aload 0).trans (congrArg (x_aload 0) ((xe_iload 4).trans (congrArg (x_iload 4) ((xe_aload 0).trans (congrArg (x_aload 0) ((xe_g1 (kk := 111) rfl tl_11_77).trans (congrArg (x_g1 111 277) ((xe_iload 5).trans (congrArg (x_iload 5) ((xe_iconst 1).trans (congrArg (x_iconst 1) ((xe_isub).trans (congrArg (x_isub) ((xe_iaload).trans (congrArg (x_iaload) xe_nil))))))))))))))))))))))
set_option maxRecDepth 100000 in
theorem cl_X11_511 : cv_ RX11 511 yX11_compareClubs zX11_compareClubs 11 2 := ⟨gi_V (lwq_9 (dqc_m (dqc_m (dqc_m (dqc_m (dqc_m (dqc_m (dqa_m (dqa_m (List.mem_of_getElem? (i := 0) rfl))))))))) rfl : Cond.methodLink RX11 511 yX11_compareClubs ∈ lw_g) (lwq_9 (dqc_m (dqc_m (dqc_m (dqc_m (dqc_m (dqc_m (dqa_m (dqa_m (List.mem_of_getElem? (i := 2) rfl))))))))) rfl : Cond.instanceMethod yX11_compareClubs ∈ lw_g) (lw_sel 12 rfl : Cond.selects yX11_compareClubs.cls yX11_compareClubs yX11_compareClubs ∈ lw_g) (lwq_1 (dqa_m (List.mem_of_getElem? (i := 2) rfl)) rfl : Cond.initialized yX11_compareClubs.cls ∈ lw_g) (lwq_9 (dqc_m (dqc_m (dqc_m (dqc_m (dqc_m (dqc_m (dqa_m (dqa_m (List.mem_of_getElem? (i := 3) rfl))))))))) rfl : Cond.code yX11_compareClubs cX11_compareClubs 5 (some .int) ∈ lw_g), ⟨nmh_1.1, nmh_1.2, pdq_4⟩, ⟨_, _, rfl⟩⟩
theorem bk_X11_sortPart_41 : ck_ fX11 none cX11_sortPart 41 [.ifCond .le 66, .aload 0, .tableswitch 0 11 77 #[], .iload 5, .aload 0, .tableswitch 0 11 77 #[], .iload 5, .iconst 1, .isub, .iaload, .iastore, .iinc 5 (-1), .goto 20] 66 = true := qck_r (nn_ _) (by decide +kernel)
theorem bs_X11_sortPart_41 {P : Zt → Option Zv → Prop} (K : Int → Zl → List Zv → Zt → Prop) : sx_ K P [.ifCond .le 66, .aload 0, .tableswitch 0 11 77 #[], .iload 5, .aload 0, .tableswitch 0 11 77 #[], .iload 5, .iconst 1, .isub, .iaload, .iastore, .iinc 5 (-1), .goto 20] 66 = x_ifCond .le 66 K (x_aload 0 (x_g1 111 277 (x_iload 5 (x_aload 0 (x_g1 111 277 (x_iload 5 (x_iconst 1 (x_isub (x_iaload (x_iastore (x_iinc 5 (-1) (x_goto 20 K)))))))))))) := ((xe_ifCond .le 66).trans (congrArg (x_ifCond .le 66 K) ((xe_aload 0).trans (congrArg (x_aload 0) ((xe_g1 (kk := 111) rfl tl_11_77).trans (congrArg (x_g1 111 277) ((xe_iload 5).trans (congrArg (x_iload 5) ((xe_aload 0).trans (congrArg (x_aload 0) ((xe_g1 (kk := 111) rfl tl_11_77).trans (congrArg (x_g1 111 277) ((xe_iload 5).trans (congrArg (x_iload 5) ((xe_iconst 1).trans (congrArg (x_iconst 1) ((xe_isub).trans (congrArg (x_isub) ((xe_iaload).trans (congrArg (x_iaload) ((xe_iastore).trans (congrArg (x_iastore) ((xe_iinc 5 (-1)).trans (congrArg (x_iinc 5 (-1)) (xe_goto 20)))))))))))))))))))))))))
theorem bk_X11_sortPart_4 : ck_ fX11 none cX11_sortPart 4 [.iload 3, .iload 2, .if_icmp .ge 81, .aload 0, .tableswitch 0 11 77 #[], .iload 3, .iaload, .istore 4, .iload 3, .istore 5] 20 = true := qck_r (nn_ _) (by decide +kernel)
theorem bs_X11_sortPart_4 {P : Zt → Option Zv → Prop} (K : Int → Zl → List Zv → Zt → Prop) : sx_ K P [.iload 3, .iload 2, .if_icmp .ge 81, .aload 0, .tableswitch 0 11 77 #[], .iload 3, .iaload, .istore 4, .iload 3, .istore 5] 20 = x_iload 3 (x_iload 2 (x_if_icmp .ge 81 K (x_aload 0 (x_g1 111 277 (x_iload 3 (x_iaload (x_istore 4 (x_iload 3 (x_istore 5 (K 20)))))))))) := ((xe_iload 3).trans (congrArg (x_iload 3) ((xe_iload 2).trans (congrArg (x_iload 2) ((xe_if_icmp .ge 81).trans (congrArg (x_if_icmp .ge 81 K) ((xe_aload 0).trans (congrArg (x_aload 0) ((xe_g1 (kk := 111) rfl tl_11_77).trans (congrArg (x_g1 111 277) ((xe_iload 3).trans (congrArg (x_iload 3) ((xe_iaload).trans (congrArg (x_iaload) ((xe_istore 4).trans (congrArg (x_istore 4) ((xe_iload 3).trans (congrArg (x_iload 3) ((xe_istore 5).trans (congrArg (x_istore 5) xe_nil))))))))))))))))))))
theorem bk_X11_sortPart_81 : ck_ fX11 none cX11_sortPart 81 [.return_] 82 = true := qck_r (nn_ _) (by decide +kernel)
theorem bs_X11_sortPart_81 {P : Zt → Option Zv → Prop} (K : Int → Zl → List Zv → Zt → Prop) : sx_ K P [.return_] 82 = x_return_ P := (xe_return_)
theorem bk_X11_sortPart_0 : ck_ fX11 none cX11_sortPart 0 [.iload 1, .iconst 1, .iadd, .istore 3] 4 = true := qck_r (nn_ _) (by decide +kernel)
theorem bs_X11_sortPart_0 {P : Zt → Option Zv → Prop} (K : Int → Zl → List Zv → Zt → Prop) : sx_ K P [.iload 1, .iconst 1, .iadd, .istore 3] 4 = x_iload 1 (x_iconst 1 (x_iadd (x_istore 3 (K 4)))) := ((xe_iload 1).trans (congrArg (x_iload 1) ((xe_iconst 1).trans (congrArg (x_iconst 1) ((xe_iadd).trans (congrArg (x_iadd) ((xe_istore 3).trans (congrArg (x_istore 3) xe_nil))))))))
abbrev po_X11_sortPart (T : Zt) (n : Int) (a b : Int) : Zt → Option Zv → Prop := fun T' r => r = none ∧ fr_ [(277, [])] T T' ∧ (∀ v, OC_ T n v → OC_ T' n v)
set_option maxHeartbeats 4000000 in
theorem ct_X11_sortPart {T : Zt} {n : Int} {a b : Int} (h1 : 0 ≤ a ∧ a < b ∧ b ≤ n ∧ n ≤ 12) (hsb : SB_ T) : Ct_ yX11_sortPart zX11_sortPart T [vR 111 0, vI a, vI b] (po_X11_sortPart T n a b) := by
  refine ct_of pn_11 rfl rfl (Nat.le_of_ble_eq_true rfl) (fun hT hav => ?_)
  have hr_a : -2147483648 ≤ a ∧ a ≤ 2147483647 := hav (vI a) (List.mem_cons_of_mem _ List.mem_cons_self)
  have hr_b : -2147483648 ≤ b ∧ b ≤ 2147483647 := hav (vI b) (List.mem_cons_of_mem _ (List.mem_cons_of_mem _ List.mem_cons_self))
  have hz : zX11_sortPart.2.2.2.1 = some .boolean → ∀ (T' : Zt) (x : Int), po_X11_sortPart T n a b T' (some (vI x)) → 0 ≤ x ∧ x ≤ 1 := fun h => by cases h
  show J_ zX11_sortPart T (po_X11_sortPart T n a b) 0 0 0 [some (vR 111 0), some (vI a), some (vI b), none, none, none] [] T
  have c_4 : ∀ (nn : Nat) (i : Int) (T1 : Zt), ((12 - i).toNat) ≤ nn → (fr_ [(277, [])] T T1) → (a < i ∧ i ≤ b) → (∀ v, OC_ T n v → OC_ T1 n v) → J_ zX11_sortPart T (po_X11_sortPart T n a b) 0 0 4 [some (vR 111 0), some (vI a), some (vI b), some (vI i), none, none] [] T1 := by
    intro nn
    induction nn using Nat.strongRecOn with
    | _ nn ih_4 =>
      intro i T1 hm_4 hf_4 i1 i2
      replace hm_4 := fun (_ : Unit) => hm_4
      have c_66 : ∀ (w : Int) (j : Int) (T3 : Zt), (fr_ [(277, [])] T T3) → (a ≤ j ∧ j ≤ i ∧ i < b ∧ 0 ≤ w ∧ w < 12) → (∀ v, OC_ T n v → OH_ T3 n v j w) → J_ zX11_sortPart T (po_X11_sortPart T n a b) 0 0 66 [some (vR 111 0), some (vI a), some (vI b), some (vI i), some (vI w), some (vI j)] [] T3 := by
        intro w j T3 hf_66 k1 k2
        refine j_blx (F := fX11) tb_X11 (nn_ _) bk_X11_sortPart_66 bs_X11_sortPart_66 hz (fun K hK => ?_)
        refine iy_i (by omega) (by omega) ?_
        refine x_nm (fun U1 hU1 => ?_)
        have e2 := up_f hU1
        refine rg_i (by omega) ?_
        refine hK 4 [some (vR 111 0), some (vI a), some (vI b), some (vI (i + 1)), some (vI w), some (vI j)] [] U1 ?_
        refine j_drop [some (vR 111 0), some (vI a), some (vI b), some (vI (i + 1)), none, none] (fun k v hk => ?_) rfl ?_
        · match k, hk with
          | 0, hk => exact hk
          | 1, hk => exact hk
          | 2, hk => exact hk
          | 3, hk => exact hk
          | 4, hk => cases hk
          | 5, hk => cases hk
          | k + 6, hk => cases hk
        refine ih_4 _ ?_ (i + 1) U1 (Nat.le_refl _) ?_ ?_ ?_
        · have hm_4 := hm_4 (); omega
        · exact fr_u (fr_t (fr_0 _ _) (fr_s hf_66 rfl)) hU1 rfl
        · omega
        · exact fun v h => oc_2 (k2 v h) (by omega) hU1
      have c_20 : ∀ (nn : Nat) (w : Int) (j : Int) (T2 : Zt), (j.toNat) ≤ nn → (fr_ [(277, [])] T T2) → (a ≤ j ∧ j ≤ i ∧ i < b ∧ 0 ≤ w ∧ w < 12) → (∀ v, OC_ T n v → OH_ T2 n v j w) → J_ zX11_sortPart T (po_X11_sortPart T n a b) 0 0 20 [some (vR 111 0), some (vI a), some (vI b), some (vI i), some (vI w), some (vI j)] [] T2 := by
        intro nn
        induction nn using Nat.strongRecOn with
        | _ nn ih_20 =>
          intro w j T2 hm_20 hf_20 k1 k2
          replace hm_20 := fun (_ : Unit) => hm_20
          refine j_blx (F := fX11) tb_X11 (nn_ _) bk_X11_sortPart_20 bs_X11_sortPart_20 hz (fun K hK => ?_)
          refine And.intro (fun c3 => ?_) (fun c3 => ?_)
          · refine hK 66 _ [] T2 ?_
            refine c_66 w j T2 ?_ ?_ ?_
            · exact fr_t (fr_0 _ _) (fr_s hf_20 rfl)
            · omega
            · exact k2
          · refine rg_i (by omega) ?_
            refine ix_i (by omega) ?_
            intro b4 b4b
            refine hK 38 _ [vI (T2 277 0 (j - 1)), vI w, vR 111 0] T2 ?_
            refine j_callV (y := yX11_compareClubs) (Yc := zX11_compareClubs) (rest := []) [vI w, vI (T2 277 0 (j - 1))] (ct_X11_compareClubs (T := T2) (by omega) (by omega) (SB__f (ws := [(277, [])]) hsb (fr_t (fr_0 _ _) (fr_s hf_20 rfl)) ⟨fun _ => rfl, trivial⟩)) cl_X11_511 (qd_c (by decide +kernel)) (nn_ _) rfl (rf_of rfl) (Nat.le_of_ble_eq_true rfl) (Nat.le_of_ble_eq_true rfl) (Nat.le_of_ble_eq_true rfl) rfl ?_
            rintro _ _ ⟨rfl, x5, rfl, hx5⟩
            show J_ zX11_sortPart T (po_X11_sortPart T n a b) 0 0 41 _ [vI x5] T2
            refine j_blx (F := fX11) tb_X11 (nn_ _) bk_X11_sortPart_41 bs_X11_sortPart_41 hz (fun K hK => ?_)
            refine And.intro (fun c6 => ?_) (fun c6 => ?_)
            · refine hK 66 _ [] T2 ?_
              refine c_66 w j T2 ?_ ?_ ?_
              · exact fr_t (fr_0 _ _) (fr_s hf_20 rfl)
              · omega
              · exact k2
            · refine rg_i (by omega) ?_
              refine ix_i (by omega) ?_
              intro b7 b7b
              refine iy_i (by omega) (by omega) ?_
              refine x_nm (fun U8 hU8 => ?_)
              have e9 := up_f hU8
              refine rg_i (by omega) ?_
              refine hK 20 [some (vR 111 0), some (vI a), some (vI b), some (vI i), some (vI w), some (vI (j + (-1)))] [] U8 ?_
              refine ih_20 _ ?_ w (j + (-1)) U8 (Nat.le_refl _) ?_ ?_ ?_
              · have hm_20 := hm_20 (); omega
              · exact fr_u (fr_t (fr_0 _ _) (fr_s hf_20 rfl)) hU8 rfl
              · omega
              · exact fun v h => oc_1 (k2 v h) (by omega) hU8
      refine j_blx (F := fX11) tb_X11 (nn_ _) bk_X11_sortPart_4 bs_X11_sortPart_4 hz (fun K hK => ?_)
      refine And.intro (fun c10 => ?_) (fun c10 => ?_)
      · refine hK 81 _ [] T1 ?_
        refine j_blx (F := fX11) tb_X11 (nn_ _) bk_X11_sortPart_81 bs_X11_sortPart_81 hz (fun K hK => ?_)
        refine (show po_X11_sortPart T n a b T1 (none) from ?_)
        exact ⟨rfl, fr_t (fr_0 _ _) (fr_s hf_4 rfl), i2⟩
      · refine ix_i (by omega) ?_
        intro b11 b11b
        refine hK 20 [some (vR 111 0), some (vI a), some (vI b), some (vI i), some (vI (T1 277 0 i)), some (vI i)] [] T1 ?_
        refine c_20 _ (T1 277 0 i) i T1 (Nat.le_refl _) ?_ ?_ ?_
        · exact fr_t (fr_0 _ _) (fr_s hf_4 rfl)
        · omega
        · exact fun v h => oc_0 (i2 v h)
  refine j_blx (F := fX11) tb_X11 (nn_ _) bk_X11_sortPart_0 bs_X11_sortPart_0 hz (fun K hK => ?_)
  refine rg_i (by omega) ?_
  refine hK 4 [some (vR 111 0), some (vI a), some (vI b), some (vI (a + 1)), none, none] [] T ?_
  refine c_4 _ (a + 1) T (Nat.le_refl _) ?_ ?_ ?_
  · exact fr_0 _ _
  · omega
  · exact fun _ h => h
abbrev cX11_placeOf : ByteArray := prog_13_method_93_code
def yX11_placeOf : MethodName := ⟨RX11, "placeOf", "(I)I"⟩
def zX11_placeOf : Zm := (RX11, cX11_placeOf, 3, (some .int), { frames := 0, cells := 0, slots := 0, locals := 0 })
theorem bk_X11_placeOf_18 : ck_ fX11 (some .int) cX11_placeOf 18 [.iload 2, .ifCond .le 40, .aload 0, .tableswitch 0 11 78 #[], .iload 2, .iconst 1, .isub, .iaload, .iconst (-1), .if_icmp .ne 40, .iinc 2 (-1), .goto 18] 40 = true := qck_r (nn_ _) (by decide +kernel)
theorem bs_X11_placeOf_18 {P : Zt → Option Zv → Prop} (K : Int → Zl → List Zv → Zt → Prop) : sx_ K P [.iload 2, .ifCond .le 40, .aload 0, .tableswitch 0 11 78 #[], .iload 2, .iconst 1, .isub, .iaload, .iconst (-1), .if_icmp .ne 40, .iinc 2 (-1), .goto 18] 40 = x_iload 2 (x_ifCond .le 40 K (x_aload 0 (x_g1 111 278 (x_iload 2 (x_iconst 1 (x_isub (x_iaload (x_iconst (-1) (x_if_icmp .ne 40 K (x_iinc 2 (-1) (x_goto 18 K))))))))))) := ((xe_iload 2).trans (congrArg (x_iload 2) ((xe_ifCond .le 40).trans (congrArg (x_ifCond .le 40 K) ((xe_aload 0).trans (congrArg (x_aload 0) ((xe_g1 (kk := 111) rfl tl_11_78).trans (congrArg (x_g1 111 278) ((xe_iload 2).trans (congrArg (x_iload 2) ((xe_iconst 1).trans (congrArg (x_iconst 1) ((xe_isub).trans (congrArg (x_isub) ((xe_iaload).trans (congrArg (x_iaload) ((xe_iconst (-1)).trans (congrArg (x_iconst (-1)) ((xe_if_icmp .ne 40).trans (congrArg (x_if_icmp .ne 40 K) ((xe_iinc 2 (-1)).trans (congrArg (x_iinc 2 (-1)) (xe_goto 18)))))))))))))))))))))))
theorem bk_X11_placeOf_40 : ck_ fX11 (some .int) cX11_placeOf 40 [.iload 2, .iconst 1, .iadd, .ireturn] 44 = true := qck_r (nn_ _) (by decide +kernel)
theorem bs_X11_placeOf_40 {P : Zt → Option Zv → Prop} (K : Int → Zl → List Zv → Zt → Prop) : sx_ K P [.iload 2, .iconst 1, .iadd, .ireturn] 44 = x_iload 2 (x_iconst 1 (x_iadd (x_ireturn P))) := ((xe_iload 2).trans (congrArg (x_iload 2) ((xe_iconst 1).trans (congrArg (x_iconst 1) ((xe_iadd).trans (congrArg (x_iadd) (xe_ireturn)))))))
theorem bk_X11_placeOf_2 : ck_ fX11 (some .int) cX11_placeOf 2 [.aload 0, .tableswitch 0 11 77 #[], .iload 2, .iaload, .iload 1, .if_icmp .eq 18, .iinc 2 1, .goto 2] 18 = true := qck_r (nn_ _) (by decide +kernel)
theorem bs_X11_placeOf_2 {P : Zt → Option Zv → Prop} (K : Int → Zl → List Zv → Zt → Prop) : sx_ K P [.aload 0, .tableswitch 0 11 77 #[], .iload 2, .iaload, .iload 1, .if_icmp .eq 18, .iinc 2 1, .goto 2] 18 = x_aload 0 (x_g1 111 277 (x_iload 2 (x_iaload (x_iload 1 (x_if_icmp .eq 18 K (x_iinc 2 1 (x_goto 2 K))))))) := ((xe_aload 0).trans (congrArg (x_aload 0) ((xe_g1 (kk := 111) rfl tl_11_77).trans (congrArg (x_g1 111 277) ((xe_iload 2).trans (congrArg (x_iload 2) ((xe_iaload).trans (congrArg (x_iaload) ((xe_iload 1).trans (congrArg (x_iload 1) ((xe_if_icmp .eq 18).trans (congrArg (x_if_icmp .eq 18 K) ((xe_iinc 2 1).trans (congrArg (x_iinc 2 1) (xe_goto 2)))))))))))))))
theorem bk_X11_placeOf_0 : ck_ fX11 (some .int) cX11_placeOf 0 [.iconst 0, .istore 2] 2 = true := qck_r (nn_ _) (by decide +kernel)
theorem bs_X11_placeOf_0 {P : Zt → Option Zv → Prop} (K : Int → Zl → List Zv → Zt → Prop) : sx_ K P [.iconst 0, .istore 2] 2 = x_iconst 0 (x_istore 2 (K 2)) := ((xe_iconst 0).trans (congrArg (x_iconst 0) ((xe_istore 2).trans (congrArg (x_istore 2) xe_nil))))
abbrev po_X11_placeOf (T : Zt) (cl : Int) : Zt → Option Zv → Prop := fun T' r => T = T' ∧ ∃ x : Int, r = some (vI x) ∧ (0 = (0 : Int))
set_option maxHeartbeats 4000000 in
theorem ct_X11_placeOf {T : Zt} {cl : Int} (hoc : OC_ T 12 cl) : Ct_ yX11_placeOf zX11_placeOf T [vR 111 0, vI cl] (po_X11_placeOf T cl) := by
  refine ct_of pn_11 rfl rfl (Nat.le_of_ble_eq_true rfl) (fun hT hav => ?_)
  have hr_cl : -2147483648 ≤ cl ∧ cl ≤ 2147483647 := hav (vI cl) (List.mem_cons_of_mem _ List.mem_cons_self)
  have hz : zX11_placeOf.2.2.2.1 = some .boolean → ∀ (T' : Zt) (x : Int), po_X11_placeOf T cl T' (some (vI x)) → 0 ≤ x ∧ x ≤ 1 := fun h => by cases h
  show J_ zX11_placeOf T (po_X11_placeOf T cl) 0 0 0 [some (vR 111 0), some (vI cl), none] [] T
  have c_18 : ∀ (nn : Nat) (i : Int), (i.toNat) ≤ nn → (0 ≤ i ∧ i < 12) → J_ zX11_placeOf T (po_X11_placeOf T cl) 0 0 18 [some (vR 111 0), some (vI cl), some (vI i)] [] T := by
    intro nn
    induction nn using Nat.strongRecOn with
    | _ nn ih_18 =>
      intro i hm_18 j1
      replace hm_18 := fun (_ : Unit) => hm_18
      refine j_blx (F := fX11) tb_X11 (nn_ _) bk_X11_placeOf_18 bs_X11_placeOf_18 hz (fun K hK => ?_)
      refine And.intro (fun c1 => ?_) (fun c1 => ?_)
      · refine hK 40 _ [] T ?_
        refine j_blx (F := fX11) tb_X11 (nn_ _) bk_X11_placeOf_40 bs_X11_placeOf_40 hz (fun K hK => ?_)
        refine rg_i (by omega) ?_
        refine (show po_X11_placeOf T cl T (some (vI (i + 1))) from ?_)
        exact ⟨rfl, _, rfl, by rfl⟩
      · refine rg_i (by omega) ?_
        refine ix_i (by omega) ?_
        intro b2 b2b
        refine And.intro (fun c3 => ?_) (fun c3 => ?_)
        · refine hK 40 _ [] T ?_
          refine j_blx (F := fX11) tb_X11 (nn_ _) bk_X11_placeOf_40 bs_X11_placeOf_40 hz (fun K hK => ?_)
          refine rg_i (by omega) ?_
          refine (show po_X11_placeOf T cl T (some (vI (i + 1))) from ?_)
          exact ⟨rfl, _, rfl, by rfl⟩
        · refine rg_i (by omega) ?_
          refine hK 18 [some (vR 111 0), some (vI cl), some (vI (i + (-1)))] [] T ?_
          refine ih_18 _ ?_ (i + (-1)) (Nat.le_refl _) ?_
          · have hm_18 := hm_18 (); omega
          · omega
  have c_2 : ∀ (nn : Nat) (i : Int), ((12 - i).toNat) ≤ nn → (0 ≤ i) → (∀ j, 0 ≤ j → j < i → T 277 0 j ≠ cl) → J_ zX11_placeOf T (po_X11_placeOf T cl) 0 0 2 [some (vR 111 0), some (vI cl), some (vI i)] [] T := by
    intro nn
    induction nn using Nat.strongRecOn with
    | _ nn ih_2 =>
      intro i hm_2 i1 i2
      replace hm_2 := fun (_ : Unit) => hm_2
      have hi := oc_lt hoc i2
      refine j_blx (F := fX11) tb_X11 (nn_ _) bk_X11_placeOf_2 bs_X11_placeOf_2 hz (fun K hK => ?_)
      refine ix_i (by omega) ?_
      intro b4 b4b
      refine And.intro (fun c5 => ?_) (fun c5 => ?_)
      · refine hK 18 _ [] T ?_
        refine c_18 _ i (Nat.le_refl _) ?_
        · omega
      · refine rg_i (by omega) ?_
        refine hK 2 [some (vR 111 0), some (vI cl), some (vI (i + 1))] [] T ?_
        refine ih_2 _ ?_ (i + 1) (Nat.le_refl _) ?_ ?_
        · have hm_2 := hm_2 (); omega
        · omega
        · intro j p q
          by_cases e9 : j = i
          · rw [e9]; omega
          · exact i2 j p (by omega)
  refine j_blx (F := fX11) tb_X11 (nn_ _) bk_X11_placeOf_0 bs_X11_placeOf_0 hz (fun K hK => ?_)
  refine hK 2 [some (vR 111 0), some (vI cl), some (vI 0)] [] T ?_
  refine c_2 _ 0 (Nat.le_refl _) ?_ ?_
  · omega
  · intro j p q; omega
