-- the reference's constructor, all its rows at once
abbrev Ms : Type := Nat × Nat × (Int32 ⊕ (Bool × Int32 × List Int32))
def pu_ (cc : ByteArray) (pc : Nat) (v : Int32) : Nat := match decode cc pc with
  | .ok (.iconst w, k) => if Int32.ofInt w = v ∧ k = 1 then 1 else 0
  | .ok (.bipush w, k) => if (Int8.ofInt w).toInt32 = v ∧ k = 2 then 2 else 0
  | .ok (.sipush w, k) => if (Int16.ofInt w).toInt32 = v ∧ k = 3 then 3 else 0
  | _ => 0
def fil_ (cc : ByteArray) : List Int32 → Nat → Nat → Option Nat
  | [], pc, _ => some pc
  | v :: r, pc, i => if decode cc pc = .ok (.dup, 1) then (match pu_ cc (pc + 1) (Int32.ofInt (i : Int)) with
    | 0 => none
    | a + 1 => (match pu_ cc (pc + 1 + (a + 1)) v with
      | 0 => none
      | b + 1 => if decode cc (pc + 1 + (a + 1) + (b + 1)) = .ok (.iastore, 1) then fil_ cc r (pc + 1 + (a + 1) + (b + 1) + 1) (i + 1) else none)) else none
/-- the field's row of the tables: its link, its place, its type -/
def fk_ (q : Ms) (d : String) : Bool := decide ((q.2.1, 11, q.1) ∈ fX11.1) && decide (q.1 < 114) && decide ((TX11 q.1).1 = RX11) && decide ((TX11 q.1).2.2.1 = d)
def aty_ : Bool → ArrayType
  | true => .boolean
  | false => .int
def ads_ : Bool → String
  | true => "[Z"
  | false => "[I"
def stp_ (cc : ByteArray) (pc : Nat) (q : Ms) : Option Nat := if decode cc pc = .ok (.aload_n 0, 1) then (match q.2.2 with
  | .inl v => (match pu_ cc (pc + 1) v with
    | 0 => none
    | a + 1 => if decode cc (pc + 1 + (a + 1)) = .ok (.putfield q.2.1, 3) ∧ fk_ q "I" = true then some (pc + 1 + (a + 1) + 3) else none)
  | .inr (bo, n, vs) => (match pu_ cc (pc + 1) n with
    | 0 => none
    | a + 1 => if decode cc (pc + 1 + (a + 1)) = .ok (.newarray (aty_ bo), 2) ∧ fk_ q (ads_ bo) = true ∧ 0 ≤ n.toInt ∧ vs.length ≤ n.toNatClampNeg ∧ n.toNatClampNeg ≤ 10000 ∧ (bo = true → vs = []) then (match fil_ cc vs (pc + 1 + (a + 1) + 2) 0 with
      | none => none
      | some pe => if decode cc pe = .ok (.putfield q.2.1, 3) then some (pe + 3) else none) else none)) else none
def sts_ (cc : ByteArray) : Nat → List Ms → Option Nat
  | pc, [] => some pc
  | pc, q :: r => (match stp_ cc pc q with
    | none => none
    | some pe => sts_ cc pe r)
def nr_ : List Ms → Nat
  | [] => 0
  | (_, _, .inl _) :: r => nr_ r
  | (_, _, .inr _) :: r => nr_ r + 1
def ns_ : List Ms → Nat
  | [] => 0
  | (_, _, .inl _) :: r => ns_ r
  | (_, _, .inr (_, n, _)) :: r => n.toNatClampNeg + ns_ r
def fz_ (qf : Nat → Nat) : List Ms → Nat → List Value → List Value
  | [], _, fs => fs
  | (k, _, .inl v) :: r, j, fs => fz_ qf r j (fs.set k (.int v))
  | (k, _, .inr _) :: r, j, fs => fz_ qf r (j + 1) (fs.set k (.ref (qf j)))
def rz_ (cA : Nat → ClassId) (qf : Nat → Nat) : List Ms → Nat → va_W
  | [], _ => []
  | (_, _, .inl _) :: r, j => rz_ cA qf r j
  | (_, _, .inr (bo, n, vs)) :: r, j => (qf j, .inl (cA (if bo then 1 else 0), n.toNatClampNeg, .inl fun x => vs.getD x 0)) :: rz_ cA qf r (j + 1)
theorem fz_c {qf qg : Nat → Nat} : ∀ (ss : List Ms) (j : Nat) (fs : List Value), (∀ i, j ≤ i → qf i = qg i) → fz_ qf ss j fs = fz_ qg ss j fs
  | [], _, _, _ => rfl
  | (k, _, .inl v) :: r, j, fs, h => fz_c r j _ h
  | (k, _, .inr _) :: r, j, fs, h => by
    show fz_ qf r (j + 1) (fs.set k (.ref (qf j))) = fz_ qg r (j + 1) (fs.set k (.ref (qg j)))
    rw [h j (Nat.le_refl _)]
    exact fz_c r (j + 1) _ (fun i hi => h i (by omega))
theorem rz_c {cA : Nat → ClassId} {qf qg : Nat → Nat} : ∀ (ss : List Ms) (j : Nat), (∀ i, j ≤ i → qf i = qg i) → rz_ cA qf ss j = rz_ cA qg ss j
  | [], _, _ => rfl
  | (k, _, .inl v) :: r, j, h => rz_c r j h
  | (k, _, .inr (bo, n, vs)) :: r, j, h => by
    show (qf j, _) :: rz_ cA qf r (j + 1) = (qg j, _) :: rz_ cA qg r (j + 1)
    rw [h j (Nat.le_refl _), rz_c r (j + 1) (fun i hi => h i (by omega))]
def fin_ : (Nat → Int32) → Nat → List Int32 → Nat → Int32
  | f, _, [] => f
  | f, i, v :: r => fin_ (upd f i v) (i + 1) r
theorem fin_v : ∀ (vs : List Int32) (f : Nat → Int32) (i x : Nat), fin_ f i vs x = if i ≤ x ∧ x < i + vs.length then vs.getD (x - i) 0 else f x
  | [], f, i, x => by
    rw [if_neg (by simp)]
    rfl
  | v :: r, f, i, x => by
    show fin_ (upd f i v) (i + 1) r x = _
    rw [fin_v r]
    by_cases h : x = i
    · subst h
      rw [if_neg (by omega), if_pos (by simp)]
      simp [upd]
    · by_cases h2 : i + 1 ≤ x ∧ x < i + 1 + r.length
      · rw [if_pos h2, if_pos (by simp only [List.length_cons]; omega)]
        obtain ⟨z, hz⟩ : ∃ z, x - i = z + 1 := ⟨x - i - 1, by omega⟩
        rw [hz, show x - (i + 1) = z by omega]
        rfl
      · rw [if_neg h2, if_neg (by simp only [List.length_cons]; omega)]
        simp [upd, h]
theorem fin_0 (vs : List Int32) : fin_ (fun _ => 0) 0 vs = fun x => vs.getD x 0 := by
  funext x
  rw [fin_v]
  by_cases h : x < vs.length
  · rw [if_pos (by omega)]
    rfl
  · rw [if_neg (by omega)]
    simp [List.getD_eq_getElem?_getD, List.getElem?_eq_none (show vs.length ≤ x by omega)]
section MKX
variable {p : Program} {l : Launch} {e : Env} {R : Room} {s : State} {m : MethodId} {args : Array Value} {below : List Frame} {meth : Method} {c : Code} {H : Heap} {locs : List Loc} {cells slots : Nat} {Q : State → Prop} {cc : ByteArray} {pc : Nat} {ls : Array Slot} {rest : List Value} {dC : Nat → ClassId} {dI : Nat → Nat → Nat} {cA : Nat → ClassId} {A : Nat → Prop} {a : Nat}
theorem pu_w (hx : p.tables.exec = Jvm.exec) (hb : c.code = cc) {v : Int32} {n : Nat} (h : pu_ cc pc v = n + 1) (k : W p l e R s m args below meth c H locs cells slots Q (F0 m (pc + (n + 1)) ls (.int v :: rest))) : W p l e R s m args below meth c H locs cells slots Q (F0 m pc ls rest) := by
  unfold pu_ at h
  split at h
  · rename_i w k9 hd
    split at h
    · rename_i g
      obtain ⟨g1, rfl⟩ := g
      have : n = 0 := by omega
      subst this
      exact lv_iconst hx hb hd g1 k
    · omega
  · rename_i w k9 hd
    split at h
    · rename_i g
      obtain ⟨g1, rfl⟩ := g
      have : n = 1 := by omega
      subst this
      exact lv_bipush hx hb hd g1 k
    · omega
  · rename_i w k9 hd
    split at h
    · rename_i g
      obtain ⟨g1, rfl⟩ := g
      have : n = 2 := by omega
      subst this
      exact lv_sipush hx hb hd g1 k
    · omega
  · omega
theorem fil_w (hx : p.tables.exec = Jvm.exec) (hb : c.code = cc) (hK : va_K (dC, dI) vwCl (ty_ cA) s) {q N : Nat} (hN : N ≤ 10000) {w0 : va_W} : ∀ (vs : List Int32) (pc i pe : Nat) (f : Nat → Int32) (H : Heap) (locs : List Loc), fil_ cc vs pc i = some pe → i + vs.length ≤ N → va_P (dC, dI) vwCl (w0 ++ [(q, .inl (cA 0, N, .inl f))]) H → va_D A (w0 ++ [(q, .inl (cA 0, N, .inl f))]) → va_S A s.heap H locs →
    (∀ (H1 : Heap) (locs1 : List Loc), va_P (dC, dI) vwCl (w0 ++ [(q, .inl (cA 0, N, .inl (fin_ f i vs)))]) H1 → va_D A (w0 ++ [(q, .inl (cA 0, N, .inl (fin_ f i vs)))]) → va_S A s.heap H1 locs1 → W p l e R s m args below meth c H1 locs1 cells slots Q (F0 m pe ls (.ref q :: rest))) → W p l e R s m args below meth c H locs cells slots Q (F0 m pc ls (.ref q :: rest))
  | [], pc, i, pe, f, H, locs, h, _, hP, hD, hS, kk => by
    have : pc = pe := Option.some.inj h
    subst this
    exact kk H locs hP hD hS
  | v :: r, pc, i, pe, f, H, locs, h, hlen, hP, hD, hS, kk => by
    unfold fil_ at h
    split at h
    · rename_i h1
      split at h
      · cases h
      · rename_i a ha
        split at h
        · cases h
        · rename_i b hb2
          split at h
          · rename_i h2
            simp only [List.length_cons] at hlen
            refine lv_dup hx hb h1 rfl ?_
            refine pu_w hx hb ha ?_
            refine pu_w hx hb hb2 ?_
            refine va_iast hx hb hK hP hD hS w0.length 0 (show (w0 ++ [(q, .inl (cA 0, N, .inl f))] : va_W)[w0.length]? = some (q, .inl (cA 0, N, .inl f)) from by simp) rfl (by have := i3_in (x := (i : Int)) (n := (N : Int)) (by omega) (by omega) (by omega); simpa using this) h2 (fun H1 locs1 hP1 hD1 hS1 => ?_)
            have ec : (Int32.ofInt (i : Int)).toNatClampNeg = i := by have := i3_cl (x := (i : Int)) (by omega) (by omega); omega
            have es : (w0 ++ [(q, .inl (cA 0, N, .inl f))] : va_W).set w0.length (q, .inl (cA 0, N, .inl (upd f (Int32.ofInt (i : Int)).toNatClampNeg v))) = w0 ++ [(q, .inl (cA 0, N, .inl (upd f i v)))] := by
              rw [ec]
              simp
            rw [es] at hP1 hD1
            exact fil_w hx hb hK hN r _ (i + 1) pe (upd f i v) H1 locs1 h (by omega) hP1 hD1 hS1 kk
          · cases h
    · cases h
theorem fk_s {q : Ms} {d : String} (h : fk_ q d = true) : (q.2.1, 11, q.1) ∈ fX11.1 ∧ q.1 < 114 ∧ (TX11 q.1).1 = RX11 ∧ (TX11 q.1).2.2.1 = d := by
  simp only [fk_, Bool.and_eq_true, decide_eq_true_eq] at h
  exact ⟨h.1.1.1, h.1.1.2, h.1.2, h.2⟩
theorem mk_put (hx : p.tables.exec = Jvm.exec) (hb : c.code = cc) (ht : ∀ w ∈ lw_g, w.before args s = true) (hown : s.vm.findClass RX11 = some m.cls) (hin2 : meth.name = "<init>") (hK : va_K (dC, dI) vwCl (ty_ cA) s) {q : Ms} {d : String} (hf : fk_ q d = true) {fs : List Value} {wr : va_W} (hP : va_P (dC, dI) vwCl ((a, .inr (11, fs)) :: wr) H) (hD : va_D A ((a, .inr (11, fs)) :: wr)) (hS : va_S A s.heap H locs) {ty : FieldType} {v : Value} (hd : parseFieldDescriptor d = some ty) (hn : narrow ty v = v) (hfit : fits ty v = true) (hl : fs.length = 114) (hdg : decode cc pc = .ok (.putfield q.2.1, 3))
    (kk : ∀ (H1 : Heap) (locs1 : List Loc), va_P (dC, dI) vwCl ((a, .inr (11, fs.set q.1 v)) :: wr) H1 → va_D A ((a, .inr (11, fs.set q.1 v)) :: wr) → va_S A s.heap H1 locs1 → W p l e R s m args below meth c H1 locs1 cells slots Q (F0 m (pc + 3) ls rest)) : W p l e R s m args below meth c H locs cells slots Q (F0 m pc ls (v :: .ref a :: rest)) := by
  obtain ⟨f1, f2, f3, f4⟩ := fk_s hf
  obtain ⟨C, Tb, N, hC, hj, hN, hlk⟩ := tg_X11 _ f1
  cases hC
  subst f4
  cases hfin : (TX11 q.1).2.2.2 with
  | false => exact va_put (D := (dC, dI)) (ci := 11) (C := RX11) (T := TX11) (N := 114) (own := RX11) (ref := (TX11 q.1).1) (index := q.2.1) (ty := ty) (v := v) hx hb ht inX11 tyX11 tyX11_ok nmX11 hown hK hP hD hS 0 rfl rfl q.1 f2 (ht _ hlk) (fun _ h => h) hfin hd hn hfit (by omega) hdg kk
  | true => exact va_putF (D := (dC, dI)) (ci := 11) (C := RX11) (T := TX11) (N := 114) (own := RX11) (ref := (TX11 q.1).1) (index := q.2.1) (ty := ty) (v := v) hx hb ht inX11 tyX11 tyX11_ok nmX11 hown hK hP hD hS 0 rfl rfl q.1 f2 (ht _ hlk) (fun _ h => h) hfin hin2 f3 hd hn hfit (by omega) hdg kk
theorem n_int {n : Int32} (h : 0 ≤ n.toInt) : ¬ n < 0 := fun h2 => by
  have := Int32.lt_iff_toInt_lt.mp h2
  have e : (0 : Int32).toInt = 0 := by decide
  omega
theorem sts_w (hx : p.tables.exec = Jvm.exec) (hb : c.code = cc) (ht : ∀ w ∈ lw_g, w.before args s = true) (hown : s.vm.findClass RX11 = some m.cls) (hin2 : meth.name = "<init>") (hA : ∀ q, s.heap.size ≤ q → A q) (hl : lv_has ls 1 [(0, .ref a)]) (hK : va_K (dC, dI) vwCl (ty_ cA) s) (ki : Cond.arrayClass .int ∈ lw_g) (kz : Cond.arrayClass .boolean ∈ lw_g) : ∀ (ss : List Ms) (pc pe j cells slots : Nat) (fs : List Value) (wr : va_W) (H : Heap) (locs : List Loc), sts_ cc pc ss = some pe → fs.length = 114 → cells + nr_ ss ≤ R.cells → slots + ns_ ss ≤ R.slots → va_P (dC, dI) vwCl ((a, .inr (11, fs)) :: wr) H → va_D A ((a, .inr (11, fs)) :: wr) → va_S A s.heap H locs →
    (∀ (qf : Nat → Nat) (H1 : Heap) (locs1 : List Loc), va_P (dC, dI) vwCl ((a, .inr (11, fz_ qf ss j fs)) :: (wr ++ rz_ cA qf ss j)) H1 → va_D A ((a, .inr (11, fz_ qf ss j fs)) :: (wr ++ rz_ cA qf ss j)) → va_S A s.heap H1 locs1 → W p l e R s m args below meth c H1 locs1 (cells + nr_ ss) (slots + ns_ ss) Q (F0 m pe ls [])) → W p l e R s m args below meth c H locs cells slots Q (F0 m pc ls [])
  | [], pc, pe, j, cells, slots, fs, wr, H, locs, h, hfs, hc, hs, hP, hD, hS, kk => by
    have : pc = pe := Option.some.inj h
    subst this
    have := kk (fun _ => 0) H locs (by rw [show wr ++ rz_ cA (fun _ => 0) [] j = wr from List.append_nil wr]; exact hP) (by rw [show wr ++ rz_ cA (fun _ => 0) [] j = wr from List.append_nil wr]; exact hD) hS
    exact this
  | q :: r, pc, pe, j, cells, slots, fs, wr, H, locs, h, hfs, hc, hs, hP, hD, hS, kk => by
    unfold sts_ at h
    split at h
    · cases h
    · rename_i p1 h1
      unfold stp_ at h1
      split at h1
      · rename_i hd0
        refine lv_aload_n hx hb hd0 rfl (lv_at hl 0 rfl) ?_
        obtain ⟨k9, ix, cont⟩ := q
        rcases cont with v | ⟨bo, n, vs⟩
        · simp only at h1
          split at h1
          · cases h1
          · rename_i b hb2
            split at h1
            · rename_i h2
              have e1 := Option.some.inj h1
              subst e1
              refine pu_w hx hb hb2 ?_
              refine mk_put (q := (k9, ix, .inl v)) hx hb ht hown hin2 hK h2.2 hP hD hS (ty := .int) (by decide +kernel) rfl rfl hfs h2.1 (fun H1 locs1 hP1 hD1 hS1 => ?_)
              exact sts_w hx hb ht hown hin2 hA hl hK ki kz r _ pe j cells slots _ wr H1 locs1 h (by rw [List.length_set]; exact hfs) hc hs hP1 hD1 hS1 kk
            · cases h1
        · simp only at h1
          split at h1
          · cases h1
          · rename_i b hb2
            split at h1
            · rename_i h2
              obtain ⟨hd2, hf, hn0, hvl, hnm, hbv⟩ := h2
              split at h1
              · cases h1
              · rename_i p2 h3
                split at h1
                · rename_i hd3
                  have e1 := Option.some.inj h1
                  subst e1
                  refine pu_w hx hb hb2 ?_
                  have hc2 : cells + (nr_ r + 1) ≤ R.cells := hc
                  have hs2 : slots + (n.toNatClampNeg + ns_ r) ≤ R.slots := hs
                  have fin : ∀ (q : Nat) (H1 : Heap) (locs1 : List Loc), va_P (dC, dI) vwCl ((a, .inr (11, fs.set k9 (.ref q))) :: (wr ++ [(q, .inl (cA (if bo then 1 else 0), n.toNatClampNeg, .inl fun x => vs.getD x 0))])) H1 → va_D A ((a, .inr (11, fs.set k9 (.ref q))) :: (wr ++ [(q, .inl (cA (if bo then 1 else 0), n.toNatClampNeg, .inl fun x => vs.getD x 0))])) → va_S A s.heap H1 locs1 → W p l e R s m args below meth c H1 locs1 (cells + 1) (slots + n.toNatClampNeg) Q (F0 m (p2 + 3) ls []) := by
                    intro q H1 locs1 hP1 hD1 hS1
                    refine sts_w hx hb ht hown hin2 hA hl hK ki kz r (p2 + 3) pe (j + 1) (cells + 1) (slots + n.toNatClampNeg) _ _ H1 locs1 h (by rw [List.length_set]; exact hfs) (by omega) (by omega) hP1 hD1 hS1 (fun qf H2 locs2 hP2 hD2 hS2 => ?_)
                    have q1 : ∀ i, j + 1 ≤ i → qf i = (fun i => if i = j then q else qf i) i := fun i hi => by
                      show qf i = if i = j then q else qf i
                      rw [if_neg (by omega)]
                    have ej : (fun i => if i = j then q else qf i) j = q := if_pos rfl
                    have g1 : fz_ qf r (j + 1) (fs.set k9 (.ref q)) = fz_ (fun i => if i = j then q else qf i) ((k9, ix, .inr (bo, n, vs)) :: r) j fs := by
                      show _ = fz_ _ r (j + 1) (fs.set k9 (.ref ((fun i => if i = j then q else qf i) j)))
                      rw [ej]
                      exact fz_c r (j + 1) _ q1
                    have g2 : wr ++ [(q, .inl (cA (if bo then 1 else 0), n.toNatClampNeg, .inl fun x => vs.getD x 0))] ++ rz_ cA qf r (j + 1) = wr ++ rz_ cA (fun i => if i = j then q else qf i) ((k9, ix, .inr (bo, n, vs)) :: r) j := by
                      rw [List.append_assoc]
                      show wr ++ ((q, _) :: rz_ cA qf r (j + 1)) = wr ++ (((fun i => if i = j then q else qf i) j, _) :: rz_ cA _ r (j + 1))
                      rw [ej, rz_c r (j + 1) q1]
                    rw [g1, g2] at hP2 hD2
                    have k2 := kk _ H2 locs2 hP2 hD2 hS2
                    have n1 : cells + 1 + nr_ r = cells + nr_ ((k9, ix, .inr (bo, n, vs)) :: r) := by show _ = cells + (nr_ r + 1); omega
                    have n2 : slots + n.toNatClampNeg + ns_ r = slots + ns_ ((k9, ix, .inr (bo, n, vs)) :: r) := by show _ = slots + (n.toNatClampNeg + ns_ r); omega
                    rw [n1, n2]
                    exact k2
                  cases bo with
                  | false =>
                    refine va_newa (atype := .int) (ty := .int) (N' := n.toNatClampNeg) (a0 := (n.toNatClampNeg, .inl fun _ => 0)) hx hb (ht _ ki) rfl hK hP hD hS hA (fun _ => rfl) (n_int hn0) rfl (by show n.toNatClampNeg * 4 ≤ _; omega) (by omega) (by omega) hd2 (fun q cN H1 hK1 hP1 hD1 hS1 => ?_)
                    have ec : cN = cA 0 := by
                      have q1 := va_nm_int (hK1.2 5 (cN, .int) rfl).2
                      have q2 := va_nm_int (hK1.2 0 (cA 0, .int) rfl).2
                      exact Option.some.inj (q1.symm.trans q2)
                    subst ec
                    refine fil_w hx hb hK hnm vs _ 0 p2 (fun _ => 0) H1 locs h3 (by omega) hP1 hD1 hS1 (fun H2 locs2 hP2 hD2 hS2 => ?_)
                    rw [fin_0] at hP2 hD2
                    refine mk_put (q := (k9, ix, .inr (false, n, vs))) hx hb ht hown hin2 hK hf hP2 hD2 hS2 (ty := .array .int) (by decide +kernel) rfl rfl hfs hd3 (fun H3 locs3 hP3 hD3 hS3 => ?_)
                    exact fin q H3 locs3 hP3 hD3 hS3
                  | true =>
                    have ev : vs = [] := hbv rfl
                    subst ev
                    have ep : pc + 1 + (b + 1) + 2 = p2 := Option.some.inj h3
                    subst ep
                    refine va_newa (atype := .boolean) (ty := .boolean) (N' := n.toNatClampNeg) (a0 := (n.toNatClampNeg, .inl fun _ => 0)) hx hb (ht _ kz) rfl hK hP hD hS hA (fun _ => rfl) (n_int hn0) rfl (by show n.toNatClampNeg * 1 ≤ _; omega) (by omega) (by omega) hd2 (fun q cN H1 hK1 hP1 hD1 hS1 => ?_)
                    have ec : cN = cA 1 := by
                      have q1 := va_nm_boolean (hK1.2 5 (cN, .boolean) rfl).2
                      have q2 := va_nm_boolean (hK1.2 1 (cA 1, .boolean) rfl).2
                      exact Option.some.inj (q1.symm.trans q2)
                    subst ec
                    refine mk_put (q := (k9, ix, .inr (true, n, []))) hx hb ht hown hin2 hK hf hP1 hD1 hS1 (ty := .array .boolean) (by decide +kernel) rfl rfl hfs hd3 (fun H3 locs3 hP3 hD3 hS3 => ?_)
                    exact fin q H3 locs3 hP3 hD3 hS3
                · cases h1
            · cases h1
      · cases h1
end MKX
noncomputable def pu2_ (cc : ByteArray) (pc : Nat) (v : Int32) : Nat := match qdec_ cc pc with
  | .ok (.iconst w, k) => if Int32.ofInt w = v ∧ k = 1 then 1 else 0
  | .ok (.bipush w, k) => if (Int8.ofInt w).toInt32 = v ∧ k = 2 then 2 else 0
  | .ok (.sipush w, k) => if (Int16.ofInt w).toInt32 = v ∧ k = 3 then 3 else 0
  | _ => 0
theorem pu2_e (cc : ByteArray) (pc : Nat) (v : Int32) : pu2_ cc pc v = pu_ cc pc v := by
  unfold pu2_ pu_
  rw [qdec_e]
noncomputable def fil2_ (cc : ByteArray) : List Int32 → Nat → Nat → Option Nat
  | [], pc, _ => some pc
  | v :: r, pc, i => if qdec_ cc pc = .ok (.dup, 1) then (match pu2_ cc (pc + 1) (Int32.ofInt (i : Int)) with
    | 0 => none
    | a + 1 => (match pu2_ cc (pc + 1 + (a + 1)) v with
      | 0 => none
      | b + 1 => if qdec_ cc (pc + 1 + (a + 1) + (b + 1)) = .ok (.iastore, 1) then fil2_ cc r (pc + 1 + (a + 1) + (b + 1) + 1) (i + 1) else none)) else none
theorem fil2_e (cc : ByteArray) : ∀ (vs : List Int32) (pc i : Nat), fil2_ cc vs pc i = fil_ cc vs pc i
  | [], _, _ => rfl
  | v :: r, pc, i => by
    simp only [fil2_, fil_, qdec_e, pu2_e, fil2_e cc r]
noncomputable def stp2_ (cc : ByteArray) (pc : Nat) (q : Ms) : Option Nat := if qdec_ cc pc = .ok (.aload_n 0, 1) then (match q.2.2 with
  | .inl v => (match pu2_ cc (pc + 1) v with
    | 0 => none
    | a + 1 => if qdec_ cc (pc + 1 + (a + 1)) = .ok (.putfield q.2.1, 3) ∧ fk_ q "I" = true then some (pc + 1 + (a + 1) + 3) else none)
  | .inr (bo, n, vs) => (match pu2_ cc (pc + 1) n with
    | 0 => none
    | a + 1 => if qdec_ cc (pc + 1 + (a + 1)) = .ok (.newarray (aty_ bo), 2) ∧ fk_ q (ads_ bo) = true ∧ 0 ≤ n.toInt ∧ vs.length ≤ n.toNatClampNeg ∧ n.toNatClampNeg ≤ 10000 ∧ (bo = true → vs = []) then (match fil2_ cc vs (pc + 1 + (a + 1) + 2) 0 with
      | none => none
      | some pe => if qdec_ cc pe = .ok (.putfield q.2.1, 3) then some (pe + 3) else none) else none)) else none
theorem stp2_e (cc : ByteArray) (pc : Nat) (q : Ms) : stp2_ cc pc q = stp_ cc pc q := by
  simp only [stp2_, stp_, qdec_e, pu2_e, fil2_e]
noncomputable def sts2_ (cc : ByteArray) : Nat → List Ms → Option Nat
  | pc, [] => some pc
  | pc, q :: r => (match stp2_ cc pc q with
    | none => none
    | some pe => sts2_ cc pe r)
theorem sts2_e (cc : ByteArray) : ∀ (l : List Ms) (pc : Nat), sts2_ cc pc l = sts_ cc pc l
  | [], _ => rfl
  | q :: r, pc => by
    simp only [sts2_, sts_, stp2_e, sts2_e cc r]
abbrev cX11_init : ByteArray := prog_13_method_1_code
def yX11_init : MethodName := ⟨RX11, "<init>", "()V"⟩
set_option maxRecDepth 100000 in
set_option maxHeartbeats 4000000 in
theorem kw_1425 : Cond.code yX11_init cX11_init 1 none ∈ lw_g := lw_at 1425 rfl rfl
theorem kw_1426 : Cond.methodLink RX11 1 objectInit ∈ lw_g := lwq_6 (dqc_m (dqc_m (dqc_m (dqc_m (dqc_m (dqc_m (dqc_m (List.mem_of_getElem? (i := 2) rfl)))))))) rfl
theorem kw_1770 : Cond.arrayClass .boolean ∈ lw_g := lwq_8 (dqc_m (dqc_m (dqa_m (dqa_m (dqa_m (List.mem_of_getElem? (i := 2) rfl)))))) rfl
theorem dX11_init_0 : decode cX11_init 0 = .ok (.aload_n 0, 1) := qd_c (by decide +kernel)
theorem dX11_init_1 : decode cX11_init 1 = .ok (.invokespecial 1, 3) := qd_c (by decide +kernel)
theorem dX11_init_1689 : decode cX11_init 1689 = .ok (.return_, 1) := qd_c (by decide +kernel)
def ms_0 : List Ms := [(0, 7, .inr (false, 400, [])), (2, 13, .inl (-1)), (4, 17, .inr (false, 23, [])), (5, 20, .inr (false, 92, [])), (7, 23, .inr (false, 48, [])), (8, 26, .inr (false, 4, [])), (9, 29, .inr (true, 4, [])), (10, 33, .inr (false, 4, [])), (11, 36, .inr (false, 4, [])), (13, 39, .inr (false, 12, [])), (14, 42, .inr (false, 12, [])), (17, 45, .inr (false, 300, [])), (18, 48, .inr (false, 300, [])), (19, 51, .inr (false, 300, [])), (20, 54, .inr (false, 300, [])), (22, 57, .inr (false, 8, [])), (23, 60, .inr (false, 8, [])), (25, 63, .inr (false, 50, [])), (26, 66, .inr (false, 50, [])), (27, 69, .inr (false, 50, [])), (28, 72, .inr (false, 50, [])), (30, 75, .inr (false, 400, [])), (31, 78, .inr (false, 400, [])), (32, 81, .inr (false, 400, []))]
set_option maxRecDepth 100000 in
theorem sm_0 : sts_ cX11_init 4 ms_0 = some 197 := (sts2_e _ _ _).symm.trans (by decide +kernel)
def ms_1 : List Ms := [(33, 84, .inr (false, 400, [])), (34, 87, .inr (false, 400, [])), (35, 90, .inr (false, 400, [])), (36, 93, .inr (false, 400, [])), (37, 96, .inr (false, 400, [])), (38, 99, .inr (false, 400, [])), (39, 102, .inr (false, 800, [])), (40, 105, .inr (false, 8000, [])), (41, 108, .inr (false, 8000, [])), (42, 111, .inr (false, 8000, [])), (43, 114, .inr (true, 8000, [])), (44, 117, .inr (false, 800, [])), (45, 120, .inr (false, 4800, [])), (46, 123, .inr (false, 3200, [])), (48, 126, .inr (false, 3000, [])), (49, 129, .inr (false, 3000, [])), (50, 132, .inr (false, 3000, [])), (51, 135, .inr (false, 3000, [])), (52, 138, .inr (false, 3000, [])), (53, 141, .inr (false, 400, [])), (54, 144, .inr (false, 400, [])), (55, 147, .inr (false, 400, [])), (56, 150, .inr (false, 400, []))]
set_option maxRecDepth 100000 in
theorem sm_1 : sts_ cX11_init 197 ms_1 = some 404 := (sts2_e _ _ _).symm.trans (by decide +kernel)
def ms_2 : List Ms := [(64, 153, .inr (false, 82, [115, 112, 111, 114, 116, 32, 112, 111, 105, 110, 116, 115, 32, 111, 114, 100, 101, 114, 32, 114, 101, 100, 111, 32, 108, 101, 103, 115, 32, 101, 118, 101, 114, 121, 32, 114, 101, 115, 116, 32, 102, 105, 101, 108, 100, 32, 115, 117, 98, 115, 32, 116, 97, 114, 103, 101, 116, 32, 119, 97, 108, 107, 111, 118, 101, 114, 32, 99, 97, 114, 100, 115, 32, 114, 101, 100, 32, 115, 101, 101, 100, 32]))]
set_option maxRecDepth 100000 in
theorem sm_2 : sts_ cX11_init 404 ms_2 = some 898 := (sts2_e _ _ _).symm.trans (by decide +kernel)
def ms_3 : List Ms := [(65, 156, .inr (false, 36, [102, 111, 111, 116, 98, 97, 108, 108, 32, 118, 111, 108, 108, 101, 121, 98, 97, 108, 108, 32, 116, 101, 110, 110, 105, 115, 32, 98, 97, 115, 101, 98, 97, 108, 108, 32]))]
set_option maxRecDepth 100000 in
theorem sm_3 : sts_ cX11_init 898 ms_3 = some 1116 := (sts2_e _ _ _).symm.trans (by decide +kernel)
def ms_4 : List Ms := [(66, 159, .inr (false, 37, [100, 105, 102, 102, 32, 115, 99, 111, 114, 101, 100, 32, 119, 105, 110, 115, 32, 97, 119, 97, 121, 32, 104, 101, 97, 100, 32, 102, 97, 105, 114, 32, 108, 111, 116, 115, 32]))]
set_option maxRecDepth 100000 in
theorem sm_4 : sts_ cX11_init 1116 ms_4 = some 1340 := (sts2_e _ _ _).symm.trans (by decide +kernel)
def ms_5 : List Ms := [(67, 162, .inr (false, 10, [1, 1, 1, 1, 0, 2, 1, 1, 1, 0])), (68, 165, .inr (false, 10, [4, 30, 9, 6, 5, 25, 9, 9, 9, 999])), (69, 168, .inr (true, 14, [])), (70, 171, .inr (true, 7, []))]
set_option maxRecDepth 100000 in
theorem sm_5 : sts_ cX11_init 1340 ms_5 = some 1469 := (sts2_e _ _ _).symm.trans (by decide +kernel)
def ms_6 : List Ms := [(71, 174, .inr (false, 400, [])), (72, 177, .inr (false, 400, [])), (74, 180, .inr (false, 400, [])), (76, 183, .inr (false, 108, [])), (77, 186, .inr (false, 12, [])), (78, 189, .inr (false, 12, [])), (81, 192, .inr (false, 400, [])), (84, 195, .inr (false, 36, [])), (86, 198, .inr (false, 120, [])), (88, 201, .inl (-1)), (89, 204, .inr (false, 400, [])), (91, 207, .inr (false, 12, [])), (92, 210, .inr (false, 12, [])), (93, 213, .inr (false, 12, [])), (94, 216, .inr (false, 144, [])), (96, 219, .inr (false, 4096, [])), (97, 222, .inr (false, 400, [])), (101, 225, .inr (false, 12, [])), (102, 228, .inr (false, 12, [])), (104, 231, .inr (false, 12, [])), (105, 234, .inr (false, 12, [])), (106, 237, .inr (false, 400, [])), (108, 240, .inr (false, 8, [])), (109, 243, .inr (false, 8, []))]
set_option maxRecDepth 100000 in
theorem sm_6 : sts_ cX11_init 1469 ms_6 = some 1667 := (sts2_e _ _ _).symm.trans (by decide +kernel)
def ms_7 : List Ms := [(110, 246, .inr (false, 8, [])), (111, 249, .inr (false, 400, [])), (1, 252, .inl 0)]
set_option maxRecDepth 100000 in
theorem sm_7 : sts_ cX11_init 1667 ms_7 = some 1689 := (sts2_e _ _ _).symm.trans (by decide +kernel)
def mss_ : List Ms := ms_0 ++ ms_1 ++ ms_2 ++ ms_3 ++ ms_4 ++ ms_5 ++ ms_6 ++ ms_7
theorem sts_a {cc : ByteArray} : ∀ (a b : List Ms) (pc p1 p2 : Nat), sts_ cc pc a = some p1 → sts_ cc p1 b = some p2 → sts_ cc pc (a ++ b) = some p2
  | [], b, pc, p1, p2, h, g => by
    have : pc = p1 := Option.some.inj h
    subst this
    exact g
  | q :: r, b, pc, p1, p2, h, g => by
    show (match stp_ cc pc q with | none => none | some pe => sts_ cc pe (r ++ b)) = some p2
    unfold sts_ at h
    cases hq : stp_ cc pc q with
    | none => rw [hq] at h; cases h
    | some pe =>
      rw [hq] at h
      exact sts_a r b pe p1 p2 h g
theorem sm_all : sts_ cX11_init 4 mss_ = some 1689 := sts_a _ _ _ _ _ (sts_a _ _ _ _ _ (sts_a _ _ _ _ _ (sts_a _ _ _ _ _ (sts_a _ _ _ _ _ (sts_a _ _ _ _ _ (sts_a _ _ _ _ _ (sm_0) sm_1) sm_2) sm_3) sm_4) sm_5) sm_6) sm_7
theorem sm_n : nr_ mss_ = 78 ∧ ns_ mss_ = 71851 := by decide +kernel
abbrev mf0_ : List Value := [.null, .int 0, .int 0, .int 0, .null, .null, .int 0, .null, .null, .null, .null, .null, .int 0, .null, .null, .int 0, .int 0, .null, .null, .null, .null, .int 0, .null, .null, .int 0, .null, .null, .null, .null, .int 0, .null, .null, .null, .null, .null, .null, .null, .null, .null, .null, .null, .null, .null, .null, .null, .null, .null, .int 0, .null, .null, .null, .null, .null, .null, .null, .null, .null, .int 0, .int 0, .int 0, .int 0, .int 0, .int 0, .int 0, .null, .null, .null, .null, .null, .null, .null, .null, .null, .int 0, .null, .int 0, .null, .null, .null, .int 0, .int 0, .null, .int 0, .int 0, .null, .int 0, .null, .int 0, .int 0, .null, .int 0, .null, .null, .null, .null, .int 0, .null, .null, .int 0, .int 0, .int 0, .null, .null, .int 0, .null, .null, .null, .int 0, .null, .null, .null, .null, .int 0, .int 0]
set_option maxHeartbeats 4000000 in
theorem ct_X11_init (l : Launch) (dC : Nat → ClassId) (dI : Nat → Nat → Nat) (cA : Nat → ClassId) (m0 sz : Nat) : Met l yX11_init (.code yX11_init cX11_init 1 none :: lw_g) ({ frames := 1, cells := 78, slots := 71851, locals := 60 } : Room) (ro_P dC dI [(m0, .inr (11, mf0_))] (ty_ cA) sz [.ref m0]) (va_Qv (fun (_ : Unit) => True) (fun _ t => ∃ qf : Nat → Nat, va_P (dC, dI) vwCl ((m0, .inr (11, fz_ qf mss_ 0 mf0_)) :: rz_ cA qf mss_ 0) t.heap ∧ va_K (dC, dI) vwCl (ty_ cA) t ∧ va_D (va_A [(m0, .inr (11, mf0_))] sz) ((m0, .inr (11, fz_ qf mss_ 0 mf0_)) :: rz_ cA qf mss_ 0)) (va_A [(m0, .inr (11, mf0_))] sz)) 78 71851 (va_A [(m0, .inr (11, mf0_))] sz) := by
  refine ro_entry (by decide) (Nat.le_of_ble_eq_true rfl) ?_
  intro p e s m below meth c ls hx hb hr hlocks ht hown hin hml hsz hP hK hD hE hl
  subst hsz
  have hD := hD.self (sz := s.heap.size)
  generalize hAe : va_A [(m0, .inr (11, mf0_))] s.heap.size = A at hD ⊢
  have hA : ∀ q, s.heap.size ≤ q → A q := fun q h => by rw [← hAe]; exact Or.inr h
  have hS : va_S A s.heap s.heap [] := va_S.rf
  have hl : lv_has ls 1 [(0, .ref m0)] := hl
  have hown : s.vm.findClass RX11 = some m.cls := hown
  refine lv_aload_n hx hb dX11_init_0 rfl (lv_at hl 0 rfl) ?_
  refine W.objInit hx hb hown (ht _ kw_1426) (ht _ kw_27) (ht _ kw_28) rfl (by rw [hml]; exact hl.1) rfl dX11_init_1 (Nat.le_of_ble_eq_true rfl) (Nat.le_of_ble_eq_true rfl) ?_
  refine sts_w (cA := cA) hx hb ht hown hin hA hl hK kw_72 kw_1770 mss_ 4 1689 0 0 0 mf0_ [] s.heap [] sm_all rfl (by rw [sm_n.1]; exact Nat.le_refl _) (by rw [sm_n.2]; exact Nat.le_refl _) hP hD hS (fun qf H1 locs1 hP1 hD1 hS1 => ?_)
  rw [show 0 + nr_ mss_ = 78 from by rw [sm_n.1], show 0 + ns_ mss_ = 71851 from by rw [sm_n.2]]
  exact W.vret hx hb hr (fun t ht9 hW => ⟨⟨(), rfl, trivial, qf, by rw [ht9]; exact hP1, va_K.moved hW.alike hK, hD1⟩, hS1.F ht9⟩) hS1.2.2 dX11_init_1689
-- the law, a case at a time
abbrev cL_law : ByteArray := code
def zL : Zm := (RL, cL_law, 4, some .boolean, room_1)
/-- what holds of both objects after N calls -/
def LI_ (N : Int) (T : Zt) : Prop := IC_ N T ∧ IR_ T ∧ RE_ T ∧ al_ T 109 0 ∧ al_ T 110 0 ∧ al_ T 111 0
abbrev LA_ (s : State) : Nat → Prop := fun q => s.heap.size ≤ q
/-- the arguments of a call: the row's places behind the call's own -/
def ag_ (cc : ByteArray) : Nat → Nat → Nat → Option Nat
  | 0, _, pc => some pc
  | k + 1, j, pc => if decode cc pc = .ok (.aload_n 0, 1) ∧ decode cc (pc + 1) = .ok (.iload_n 3, 1) then (match pu_ cc (pc + 1 + 1) (Int32.ofInt (j : Int)) with
    | 0 => none
    | a + 1 => if decode cc (pc + 1 + 1 + (a + 1)) = .ok (.iadd, 1) ∧ decode cc (pc + 1 + 1 + (a + 1) + 1) = .ok (.iaload, 1) then ag_ cc k (j + 1) (pc + 1 + 1 + (a + 1) + 1 + 1) else none) else none
def gt_ (cc : ByteArray) (pc : Nat) (t : Int) : Bool := match decode cc pc with
  | .ok (.goto off, k) => decide ((pc : Int) + off = t) && decide (k = 3)
  | _ => false
/-- a case of the law: both calls, both answers dropped -/
def ca_ (cc : ByteArray) (pc p1 p2 i1 i2 : Nat) : Bool := decide (decode cc pc = .ok (.aload_n 1, 1)) && (decide (decode cc p1 = .ok (.invokevirtual i1, 3)) && (decide (decode cc (p1 + 3) = .ok (.pop, 1)) && (decide (decode cc (p1 + 3 + 1) = .ok (.aload_n 2, 1)) && (decide (decode cc p2 = .ok (.invokevirtual i2, 3)) && (decide (decode cc (p2 + 3) = .ok (.pop, 1)) && gt_ cc (p2 + 3 + 1) 1627)))))
def ij_ (cc : ByteArray) (pc : Nat) (t : Int) : Bool := match decode cc pc with
  | .ok (.if_icmp .eq off, k) => decide ((pc : Int) + off = t) && decide (k = 3)
  | _ => false
/-- a case of the law: both calls, their answers compared -/
def cq_ (cc : ByteArray) (pc p1 p2 i1 i2 : Nat) : Bool := decide (decode cc pc = .ok (.aload_n 1, 1)) && (decide (decode cc p1 = .ok (.invokevirtual i1, 3)) && (decide (decode cc (p1 + 3) = .ok (.aload_n 2, 1)) && (decide (decode cc p2 = .ok (.invokevirtual i2, 3)) && ij_ cc (p2 + 3) 1627)))
noncomputable def ag2_ (cc : ByteArray) : Nat → Nat → Nat → Option Nat
  | 0, _, pc => some pc
  | k + 1, j, pc => if qdec_ cc pc = .ok (.aload_n 0, 1) ∧ qdec_ cc (pc + 1) = .ok (.iload_n 3, 1) then (match pu2_ cc (pc + 1 + 1) (Int32.ofInt (j : Int)) with
    | 0 => none
    | a + 1 => if qdec_ cc (pc + 1 + 1 + (a + 1)) = .ok (.iadd, 1) ∧ qdec_ cc (pc + 1 + 1 + (a + 1) + 1) = .ok (.iaload, 1) then ag2_ cc k (j + 1) (pc + 1 + 1 + (a + 1) + 1 + 1) else none) else none
theorem ag2_e (cc : ByteArray) : ∀ k j pc : Nat, ag2_ cc k j pc = ag_ cc k j pc
  | 0, _, _ => rfl
  | k + 1, j, pc => by
    simp only [ag2_, ag_, qdec_e, pu2_e, ag2_e cc k]
noncomputable def gt2_ (cc : ByteArray) (pc : Nat) (t : Int) : Bool := match qdec_ cc pc with
  | .ok (.goto off, k) => decide ((pc : Int) + off = t) && decide (k = 3)
  | _ => false
theorem gt2_e (cc : ByteArray) (pc : Nat) (t : Int) : gt2_ cc pc t = gt_ cc pc t := by
  unfold gt2_ gt_
  rw [qdec_e]
noncomputable def ca2_ (cc : ByteArray) (pc p1 p2 i1 i2 : Nat) : Bool := decide (qdec_ cc pc = .ok (.aload_n 1, 1)) && (decide (qdec_ cc p1 = .ok (.invokevirtual i1, 3)) && (decide (qdec_ cc (p1 + 3) = .ok (.pop, 1)) && (decide (qdec_ cc (p1 + 3 + 1) = .ok (.aload_n 2, 1)) && (decide (qdec_ cc p2 = .ok (.invokevirtual i2, 3)) && (decide (qdec_ cc (p2 + 3) = .ok (.pop, 1)) && gt2_ cc (p2 + 3 + 1) 1627)))))
theorem ca2_e (cc : ByteArray) (pc p1 p2 i1 i2 : Nat) : ca2_ cc pc p1 p2 i1 i2 = ca_ cc pc p1 p2 i1 i2 := by
  simp only [ca2_, ca_, qdec_e, gt2_e]
noncomputable def ij2_ (cc : ByteArray) (pc : Nat) (t : Int) : Bool := match qdec_ cc pc with
  | .ok (.if_icmp .eq off, k) => decide ((pc : Int) + off = t) && decide (k = 3)
  | _ => false
theorem ij2_e (cc : ByteArray) (pc : Nat) (t : Int) : ij2_ cc pc t = ij_ cc pc t := by
  unfold ij2_ ij_
  rw [qdec_e]
noncomputable def cq2_ (cc : ByteArray) (pc p1 p2 i1 i2 : Nat) : Bool := decide (qdec_ cc pc = .ok (.aload_n 1, 1)) && (decide (qdec_ cc p1 = .ok (.invokevirtual i1, 3)) && (decide (qdec_ cc (p1 + 3) = .ok (.aload_n 2, 1)) && (decide (qdec_ cc p2 = .ok (.invokevirtual i2, 3)) && ij2_ cc (p2 + 3) 1627)))
theorem cq2_e (cc : ByteArray) (pc p1 p2 i1 i2 : Nat) : cq2_ cc pc p1 p2 i1 i2 = cq_ cc pc p1 p2 i1 i2 := by
  simp only [cq2_, cq_, qdec_e, ij2_e]
section LAW
variable {p : Program} {l : Launch} {e : Env} {s : State} {m : MethodId} {args : Array Value} {below : List Frame} {meth : Method} {c : Code} {D : va_G} {cA : Nat → ClassId} {ad0 : Nat → Int → Nat} {A : Nat → Prop} {Y Yc : Zm} {y : MethodName} {Qp : Zt → Option Zv → Prop}
theorem lc_call {Q : State → Prop} (X : Cx_ Y p s m args meth c D cA ad0 A) {ad : Nat → Int → Nat} {T : Zt} {H : Heap} {locs : List Loc} {cells slots : Nat} {lsC : Array Slot} {lv : List (Nat × Value)} (hR : Rp_ D cA ad T A H) (hS : va_S A s.heap H locs) (hB : ∀ (k : Nat) (i : Int), k < 100 → ad k i = ad0 k i) (hT : ok_T T) (hl : lv_has lsC Y.2.2.1 lv) {idx ci n pc : Nat} {i : Int} (as : List Zv) (hC : Ct_ y Yc T (vR (100 + ci) i :: as) Qp) (hcv : cv_ Y.1 idx y Yc ci n) (hd : decode Y.2.1 pc = .ok (.invokevirtual idx, 3)) (hn : as.length = n) (hrm : rf_ Yc Y = true) (hmc : cells + Yc.2.2.2.2.cells ≤ Y.2.2.2.2.cells) (hms : slots + Yc.2.2.2.2.slots ≤ Y.2.2.2.2.slots) (hal : al_ T (100 + ci) i) (hok : ∀ v ∈ as, ok_v T v) {rest st0 : List Value} (hst : st0 = (as.map (en_v ad)).reverse ++ .ref (ad (100 + ci) i) :: rest) (hrs : (rest.map fun v => v.category).sum ≤ 8)
    (kk : ∀ (T' : Zt) (r : Option Zv) (ad' : Nat → Int → Nat) (H' : Heap) (locs' : List Loc), Qp T' r → ok_T T' → Rp_ D cA ad' T' A H' → va_S A s.heap H' locs' → (∀ k i, al_ T k i → al_ T' k i) → (∀ k i, k < 100 ∨ al_ T k i → ad' k i = ad k i) → W p l e Y.2.2.2.2 s m args below meth c H' locs' (cells + Yc.2.2.2.2.cells) (slots + Yc.2.2.2.2.slots) Q (F0 m (pc + 3) lsC ((r.map (en_v ad')).toList ++ rest))) :
    W p l e Y.2.2.2.2 s m args below meth c H locs cells slots Q (F0 m pc lsC st0) := by
  subst hst
  obtain ⟨hG, hdd, Tb, N, hcl⟩ := hcv
  simp only [rf_, Bool.and_eq_true, decide_eq_true_eq] at hrm
  obtain ⟨ids, q0, hq, hids, hP, hD⟩ := rp_at hR hal
  have hw := wd_get (cA := cA) (ad := ad) (T := T) hq
  rw [ce_ob (cl_lt hcl)] at hw
  have hAA : ∀ q, A_ ad T H.size q → A q := by
    rintro q (⟨k, i, ha, rfl⟩ | h)
    · exact Rp_in hR ha
    · exact X.2.2.2.2.2.2.2.2.2.1 q (Nat.le_trans hS.1 h)
  have hr := va_runV (l := l) (e := e) (below := below) (meth := meth) (H := H) (locs := locs) (cells := cells) (slots := slots) (g := F0 m pc lsC ((as.map (en_v ad)).reverse ++ .ref (ad (100 + ci) i) :: rest)) (As := as.map (en_v ad)) (rest := rest) (b := ad (100 + ci) i) ⟨X.1, X.2.1, X.2.2.1, X.2.2.2.2.2.2.1, X.2.2.2.2.2.1⟩ (hC l D cA ad H.size) (cwV n X.2.2.2.2.2.1 hG rfl rfl rfl ⟨rfl, hdd⟩ hrm) ⟨pc_blind, va_recv X.2.2.2.2.2.2.2.1 hP hcl hw, fun U hU hW => ⟨rfl, by rw [hU], by rw [hU]; exact Rp_A hR (fun _ _ _ _ => trivial), va_K.moved hW.alike X.2.2.2.2.2.2.2.1, ex_warm hW X.2.2.2.2.2.2.2.2.1, se_call X.2.2.2.2.2.2.2.2.2.2.1 hS hAA hU hW hB, hT, fun v hv => by
      rcases List.mem_cons.mp hv with rfl | h
      · exact Or.inr hal
      · exact hok v h⟩⟩ rfl (by rw [List.length_map]; exact hn) (hl.1) rfl (lv_room hrs) hd ⟨hmc, hms⟩
  intro T2 hT2 X2
  obtain ⟨v, st₀, t, T', L, h0, X', hLo, e1, e2, ⟨⟨T1, ad1, r, hv, hq, hok1, hrv, hR1, hB1⟩, hz, hk⟩, st⟩ := hr T2 hT2 X2
  rw [h0] at hz hk
  have hv2 : v = r.map (en_v ad1) := by
    cases hv
    rfl
  have k2 := kk T1 r ad1 T'.heap (locs ++ L) hq hok1 (by rw [e1]; exact Rp_A hR1 (fun k i _ h => hAA _ h)) ⟨Nat.le_trans hS.1 (by rw [e1]; exact hz), fun q h1 h2 => by rw [e1, hk q (Nat.lt_of_lt_of_le h1 hS.1) (fun z => h2 (hAA q z))]; exact hS.2.1 q h1 h2, fun q hq => by
      rcases List.mem_append.mp hq with h | h
      · exact hS.2.2 q h
      · exact hAA _ (hLo q h)⟩ hB1.1 hB1.2
  rw [← hv2] at k2
  obtain ⟨t2, a1, b1⟩ := k2 T' rfl X'
  exact ⟨t2, st t2 a1, b1⟩
theorem gt_s {cc : ByteArray} {pc : Nat} {t : Int} (h : gt_ cc pc t = true) : ∃ off : Int, decode cc pc = .ok (.goto off, 3) ∧ (pc : Int) + off = t := by
  unfold gt_ at h
  split at h
  · rename_i off k hd
    simp only [Bool.and_eq_true, decide_eq_true_eq] at h
    obtain ⟨h1, rfl⟩ := h
    exact ⟨off, hd, h1⟩
  · cases h
variable {b L : Nat} {xs : Nat → Int32} {R : Room} {Q : State → Prop} {lsC : Array Slot} {lv : List (Nat × Value)} {i0 : Nat} {cc : ByteArray}
theorem i3_add (x y : Int) : Int32.ofInt x + Int32.ofInt y = Int32.ofInt (x + y) := (Int32.ofInt_add x y).symm
/-- the arguments are loaded -/
theorem ag_w (hx : p.tables.exec = Jvm.exec) (hb : c.code = cc) (hX : va_X b L xs s s.heap) (hbl : b < s.heap.size) (hL : L ≤ 3584) (h0 : lsC[0]? = some (.val (.ref b))) (h3 : lsC[3]? = some (.val (.int (Int32.ofInt (i0 : Int))))) {H : Heap} {locs : List Loc} {cells slots : Nat} (hS : va_S (LA_ s) s.heap H locs) : ∀ (k j pc pe : Nat) (st : List Value), ag_ cc k j pc = some pe → i0 + j + k ≤ L → W p l e R s m args below meth c H locs cells slots Q (F0 m pe lsC (((List.range' j k).map fun t => Value.int (xs (i0 + t))).reverse ++ st)) → W p l e R s m args below meth c H locs cells slots Q (F0 m pc lsC st)
  | 0, j, pc, pe, st, h, _, kk => by
    have : pc = pe := Option.some.inj h
    subst this
    exact kk
  | k + 1, j, pc, pe, st, h, hj, kk => by
    unfold ag_ at h
    split at h
    · rename_i g1
      split at h
      · cases h
      · rename_i a ha
        split at h
        · rename_i g2
          refine lv_aload_n hx hb g1.1 rfl h0 ?_
          refine lv_iload_n hx hb g1.2 rfl h3 ?_
          refine pu_w hx hb ha ?_
          refine lv_iadd hx hb g2.1 ?_
          rw [i3_add]
          refine va_sld hx hb hX hbl (Nat.not_le.mpr hbl) hS (by have := i3_in (x := (i0 : Int) + (j : Int)) (n := (L : Int)) (by omega) (by omega) (by omega); simpa using this) g2.2 ?_
          have ec : (Int32.ofInt ((i0 : Int) + (j : Int))).toNatClampNeg = i0 + j := by have := i3_cl (x := (i0 : Int) + (j : Int)) (by omega) (by omega); omega
          rw [ec]
          refine ag_w hx hb hX hbl hL h0 h3 hS k (j + 1) _ pe _ h (by omega) ?_
          have es : ((List.range' j (k + 1)).map fun t => Value.int (xs (i0 + t))).reverse ++ st = ((List.range' (j + 1) k).map fun t => Value.int (xs (i0 + t))).reverse ++ (Value.int (xs (i0 + j)) :: st) := by
            rw [List.range'_succ, List.map_cons, List.reverse_cons, List.append_assoc]
            rfl
          rw [← es]
          exact kk
        · cases h
    · cases h
theorem en_is (vs : List Int32) (ad : Nat → Int → Nat) : (vs.map fun x => vI x.toInt).map (en_v ad) = vs.map Value.int := by
  rw [List.map_map]
  refine List.map_congr_left (fun x _ => ?_)
  show Value.int (Int32.ofInt x.toInt) = Value.int x
  rw [Int32.ofInt_toInt]
theorem ok_is {T : Zt} (vs : List Int32) : ∀ v ∈ (vs.map fun x => (vI x.toInt : Zv)), ok_v T v := fun v hv => by
  obtain ⟨x, -, rfl⟩ := List.mem_map.mp hv
  have h1 := x.le_toInt
  have h2 := x.toInt_lt
  show -2147483648 ≤ x.toInt ∧ x.toInt ≤ 2147483647
  omega
/-- one case of the law, both answers dropped -/
theorem lw_pop (X : Cx_ zL p s m #[Value.ref b] meth c D cA ad0 (LA_ s)) {N : Int} {T : Zt} {ad : Nat → Int → Nat} {H : Heap} {locs : List Loc} {cells slots : Nat} {iv : Int32} (hR : Rp_ D cA ad T (LA_ s) H) (hS : va_S (LA_ s) s.heap H locs) (hB : ∀ (k : Nat) (i : Int), k < 100 → ad k i = ad0 k i) (hT : ok_T T) (hI : LI_ N T) (hl : lv_has lsC 4 [(3, .int iv), (2, .ref (ad 111 0)), (1, .ref (ad 110 0)), (0, .ref b)]) (vs : List Int32) {pc p1 p2 i1 i2 n : Nat} {y1 y2 : MethodName} {Y1 Y2 : Zm} (hn : vs.length = n) (hck : ca_ cL_law pc p1 p2 i1 i2 = true)
    (run1 : ∀ (H : Heap) (locs : List Loc) (cells slots : Nat) (st : List Value), va_S (LA_ s) s.heap H locs → W p l e room_1 s m #[Value.ref b] below meth c H locs cells slots Q (F0 m p1 lsC ((vs.map Value.int).reverse ++ st)) → W p l e room_1 s m #[Value.ref b] below meth c H locs cells slots Q (F0 m (pc + 1) lsC st))
    (run2 : ∀ (H : Heap) (locs : List Loc) (cells slots : Nat) (st : List Value), va_S (LA_ s) s.heap H locs → W p l e room_1 s m #[Value.ref b] below meth c H locs cells slots Q (F0 m p2 lsC ((vs.map Value.int).reverse ++ st)) → W p l e room_1 s m #[Value.ref b] below meth c H locs cells slots Q (F0 m (p1 + 3 + 1 + 1) lsC st))
    (hv1 : cv_ RL i1 y1 Y1 10 n) (hv2 : cv_ RL i2 y2 Y2 11 n) (hr1 : rf_ Y1 zL = true) (hr2 : rf_ Y2 zL = true) (hc1 : Y1.2.2.2.2.cells ≤ 792 ∧ Y1.2.2.2.2.slots ≤ 12544 ∧ Y2.2.2.2.2.cells = 0 ∧ Y2.2.2.2.2.slots = 0) (hce : cells + 792 ≤ 600000) (hsl : slots + 12544 ≤ 7302250) {P1 : Zt → Option Zv → Prop} {P2 : Zt → Zt → Option Zv → Prop}
    (k1 : Cw_ y1 Y1 T (vR 110 0 :: vs.map fun x => vI x.toInt) P1) (k2 : ∀ T1 r1, ok_T T1 → P1 T1 r1 → Cw_ y2 Y2 T1 (vR 111 0 :: vs.map fun x => vI x.toInt) (P2 T1)) (ka : ∀ T1 r1, P1 T1 r1 → ∃ x : Int, r1 = some (vI x)) (kr : ∀ T1 r1 T2 r2, RE_ T → P1 T1 r1 → P2 T1 T2 r2 → LBo_ N T2 r1 r2)
    (kk : ∀ (T' : Zt) (ad' : Nat → Int → Nat) (H' : Heap) (locs' : List Loc) (cells' slots' : Nat), cells' ≤ cells + 792 → slots' ≤ slots + 12544 → Rp_ D cA ad' T' (LA_ s) H' → va_S (LA_ s) s.heap H' locs' → (∀ (k : Nat) (i : Int), k < 100 → ad' k i = ad0 k i) → ok_T T' → LI_ (N + 1) T' → lv_has lsC 4 [(3, .int iv), (2, .ref (ad' 111 0)), (1, .ref (ad' 110 0)), (0, .ref b)] → W p l e room_1 s m #[Value.ref b] below meth c H' locs' cells' slots' Q (F0 m 1627 lsC [])) :
    W p l e room_1 s m #[Value.ref b] below meth c H locs cells slots Q (F0 m pc lsC []) := by
  simp only [ca_, Bool.and_eq_true, decide_eq_true_eq] at hck
  obtain ⟨d0, d1, d2, d3, d4, d5, d6⟩ := hck
  obtain ⟨off, d6, d7⟩ := gt_s d6
  obtain ⟨hx, hb⟩ : p.tables.exec = Jvm.exec ∧ c.code = cL_law := ⟨X.1, X.2.1⟩
  obtain ⟨hIC, hIR, hcnt, a9, a10, a11⟩ := hI
  obtain ⟨Q1, C1, f1⟩ := k1
  refine lv_aload_n hx hb d0 rfl (lv_at hl 2 rfl) ?_
  refine run1 H locs cells slots _ hS ?_
  refine lc_call (Y := zL) (lv := [(3, .int iv), (2, .ref (ad 111 0)), (1, .ref (ad 110 0)), (0, .ref b)]) (rest := []) X hR hS hB hT hl (ci := 10) (i := 0) (vs.map fun x => vI x.toInt) C1 hv1 d1 (by rw [List.length_map]; exact hn) hr1 (show cells + Y1.2.2.2.2.cells ≤ 600000 by omega) (show slots + Y1.2.2.2.2.slots ≤ 7302250 by omega) a10 (ok_is vs) (by rw [en_is]) (by simp) (fun T1 r1 ad1 H1 locs1 q1 hT1 hR1 hS1 u1 v1 => ?_)
  have g1 := f1 T1 r1 q1
  obtain ⟨x1, rfl⟩ := ka T1 r1 g1
  refine lv_pop hx hb d2 rfl ?_
  refine lv_aload_n hx hb d3 rfl (lv_at hl 1 rfl) ?_
  refine run2 H1 locs1 _ _ _ hS1 ?_
  obtain ⟨Q2, C2, f2⟩ := k2 T1 _ hT1 g1
  have e11 : ad1 111 0 = ad 111 0 := v1 111 0 (Or.inr a11)
  have e10 : ad1 110 0 = ad 110 0 := v1 110 0 (Or.inr a10)
  refine lc_call (Y := zL) (lv := [(3, .int iv), (2, .ref (ad 111 0)), (1, .ref (ad 110 0)), (0, .ref b)]) (rest := []) X hR1 hS1 (fun k i h => (v1 k i (Or.inl h)).trans (hB k i h)) hT1 hl (ci := 11) (i := 0) (vs.map fun x => vI x.toInt) C2 hv2 d4 (by rw [List.length_map]; exact hn) hr2 (show cells + Y1.2.2.2.2.cells + Y2.2.2.2.2.cells ≤ 600000 by omega) (show slots + Y1.2.2.2.2.slots + Y2.2.2.2.2.slots ≤ 7302250 by omega) (u1 111 0 a11) (ok_is vs) (by rw [en_is]; show _ = _ ++ (Value.ref (ad1 111 0) :: []); rw [e11]; rfl) (by simp [Value.category]) (fun T2 r2 ad2 H2 locs2 q2 hT2 hR2 hS2 u2 v2 => ?_)
  obtain ⟨x1', x2, ex, rfl, w1, w2, w3⟩ := kr T1 _ T2 r2 hcnt g1 (f2 T2 r2 q2)
  refine lv_pop hx hb d5 rfl ?_
  refine lv_goto (tgt := 1627) hx hb d6 d7 ?_
  have e11b : ad2 111 0 = ad 111 0 := (v2 111 0 (Or.inr (u1 111 0 a11))).trans e11
  have e10b : ad2 110 0 = ad 110 0 := (v2 110 0 (Or.inr (u1 110 0 a10))).trans e10
  refine kk T2 ad2 H2 locs2 _ _ (by omega) (by omega) hR2 hS2 (fun k i h => (v2 k i (Or.inl h)).trans ((v1 k i (Or.inl h)).trans (hB k i h))) hT2 ⟨w1, w2, w3, u2 _ _ (u1 _ _ a9), u2 _ _ (u1 _ _ a10), u2 _ _ (u1 _ _ a11)⟩ (by rw [e11b, e10b]; exact hl)
theorem ij_s {cc : ByteArray} {pc : Nat} {t : Int} (h : ij_ cc pc t = true) : ∃ off : Int, decode cc pc = .ok (.if_icmp .eq off, 3) ∧ (pc : Int) + off = t := by
  unfold ij_ at h
  split at h
  · rename_i off k hd
    simp only [Bool.and_eq_true, decide_eq_true_eq] at h
    obtain ⟨h1, rfl⟩ := h
    exact ⟨off, hd, h1⟩
  · cases h
/-- one case of the law, both answers compared -/
theorem lw_cmp (X : Cx_ zL p s m #[Value.ref b] meth c D cA ad0 (LA_ s)) {N : Int} {T : Zt} {ad : Nat → Int → Nat} {H : Heap} {locs : List Loc} {cells slots : Nat} {iv : Int32} (hR : Rp_ D cA ad T (LA_ s) H) (hS : va_S (LA_ s) s.heap H locs) (hB : ∀ (k : Nat) (i : Int), k < 100 → ad k i = ad0 k i) (hT : ok_T T) (hI : LI_ N T) (hl : lv_has lsC 4 [(3, .int iv), (2, .ref (ad 111 0)), (1, .ref (ad 110 0)), (0, .ref b)]) (vs : List Int32) {pc p1 p2 i1 i2 n : Nat} {y1 y2 : MethodName} {Y1 Y2 : Zm} (hn : vs.length = n) (hck : cq_ cL_law pc p1 p2 i1 i2 = true)
    (run1 : ∀ (H : Heap) (locs : List Loc) (cells slots : Nat) (st : List Value), va_S (LA_ s) s.heap H locs → W p l e room_1 s m #[Value.ref b] below meth c H locs cells slots Q (F0 m p1 lsC ((vs.map Value.int).reverse ++ st)) → W p l e room_1 s m #[Value.ref b] below meth c H locs cells slots Q (F0 m (pc + 1) lsC st))
    (run2 : ∀ (H : Heap) (locs : List Loc) (cells slots : Nat) (st : List Value), va_S (LA_ s) s.heap H locs → W p l e room_1 s m #[Value.ref b] below meth c H locs cells slots Q (F0 m p2 lsC ((vs.map Value.int).reverse ++ st)) → W p l e room_1 s m #[Value.ref b] below meth c H locs cells slots Q (F0 m (p1 + 3 + 1) lsC st))
    (hv1 : cv_ RL i1 y1 Y1 10 n) (hv2 : cv_ RL i2 y2 Y2 11 n) (hr1 : rf_ Y1 zL = true) (hr2 : rf_ Y2 zL = true) (hc1 : Y1.2.2.2.2.cells ≤ 792 ∧ Y1.2.2.2.2.slots ≤ 12544 ∧ Y2.2.2.2.2.cells = 0 ∧ Y2.2.2.2.2.slots = 0) (hce : cells + 792 ≤ 600000) (hsl : slots + 12544 ≤ 7302250) {P1 : Zt → Option Zv → Prop} {P2 : Zt → Zt → Option Zv → Prop}
    (k1 : Cw_ y1 Y1 T (vR 110 0 :: vs.map fun x => vI x.toInt) P1) (k2 : ∀ T1 r1, ok_T T1 → P1 T1 r1 → Cw_ y2 Y2 T1 (vR 111 0 :: vs.map fun x => vI x.toInt) (P2 T1)) (ka : ∀ T1 r1, P1 T1 r1 → ∃ x : Int, r1 = some (vI x)) (kr : ∀ T1 r1 T2 r2, RE_ T → P1 T1 r1 → P2 T1 T2 r2 → LQo_ N T2 r1 r2)
    (kk : ∀ (T' : Zt) (ad' : Nat → Int → Nat) (H' : Heap) (locs' : List Loc) (cells' slots' : Nat), cells' ≤ cells + 792 → slots' ≤ slots + 12544 → Rp_ D cA ad' T' (LA_ s) H' → va_S (LA_ s) s.heap H' locs' → (∀ (k : Nat) (i : Int), k < 100 → ad' k i = ad0 k i) → ok_T T' → LI_ (N + 1) T' → lv_has lsC 4 [(3, .int iv), (2, .ref (ad' 111 0)), (1, .ref (ad' 110 0)), (0, .ref b)] → W p l e room_1 s m #[Value.ref b] below meth c H' locs' cells' slots' Q (F0 m 1627 lsC [])) :
    W p l e room_1 s m #[Value.ref b] below meth c H locs cells slots Q (F0 m pc lsC []) := by
  simp only [cq_, Bool.and_eq_true, decide_eq_true_eq] at hck
  obtain ⟨d0, d1, d3, d4, d5⟩ := hck
  obtain ⟨off, d6, d7⟩ := ij_s d5
  obtain ⟨hx, hb⟩ : p.tables.exec = Jvm.exec ∧ c.code = cL_law := ⟨X.1, X.2.1⟩
  obtain ⟨hIC, hIR, hcnt, a9, a10, a11⟩ := hI
  obtain ⟨Q1, C1, f1⟩ := k1
  refine lv_aload_n hx hb d0 rfl (lv_at hl 2 rfl) ?_
  refine run1 H locs cells slots _ hS ?_
  refine lc_call (Y := zL) (lv := [(3, .int iv), (2, .ref (ad 111 0)), (1, .ref (ad 110 0)), (0, .ref b)]) (rest := []) X hR hS hB hT hl (ci := 10) (i := 0) (vs.map fun x => vI x.toInt) C1 hv1 d1 (by rw [List.length_map]; exact hn) hr1 (show cells + Y1.2.2.2.2.cells ≤ 600000 by omega) (show slots + Y1.2.2.2.2.slots ≤ 7302250 by omega) a10 (ok_is vs) (by rw [en_is]) (by simp) (fun T1 r1 ad1 H1 locs1 q1 hT1 hR1 hS1 u1 v1 => ?_)
  have g1 := f1 T1 r1 q1
  obtain ⟨x1, rfl⟩ := ka T1 r1 g1
  refine lv_aload_n hx hb d3 rfl (lv_at hl 1 rfl) ?_
  refine run2 H1 locs1 _ _ _ hS1 ?_
  obtain ⟨Q2, C2, f2⟩ := k2 T1 _ hT1 g1
  have e11 : ad1 111 0 = ad 111 0 := v1 111 0 (Or.inr a11)
  have e10 : ad1 110 0 = ad 110 0 := v1 110 0 (Or.inr a10)
  refine lc_call (Y := zL) (lv := [(3, .int iv), (2, .ref (ad 111 0)), (1, .ref (ad 110 0)), (0, .ref b)]) (rest := [.int (Int32.ofInt x1)]) X hR1 hS1 (fun k i h => (v1 k i (Or.inl h)).trans (hB k i h)) hT1 hl (ci := 11) (i := 0) (vs.map fun x => vI x.toInt) C2 hv2 d4 (by rw [List.length_map]; exact hn) hr2 (show cells + Y1.2.2.2.2.cells + Y2.2.2.2.2.cells ≤ 600000 by omega) (show slots + Y1.2.2.2.2.slots + Y2.2.2.2.2.slots ≤ 7302250 by omega) (u1 111 0 a11) (ok_is vs) (by rw [en_is]; show _ = _ ++ (Value.ref (ad1 111 0) :: [.int (Int32.ofInt x1)]); rw [e11]; rfl) (by simp [Value.category]) (fun T2 r2 ad2 H2 locs2 q2 hT2 hR2 hS2 u2 v2 => ?_)
  obtain ⟨x2, ex, rfl, w1, w2, w3⟩ := kr T1 _ T2 r2 hcnt g1 (f2 T2 r2 q2)
  obtain rfl : x1 = x2 := Sum.inl.inj (Option.some.inj ex)
  refine lv_icmp_eq (tgt := 1627) hx hb d6 d7 (fun _ => ?_) (fun h => absurd rfl h)
  have e11b : ad2 111 0 = ad 111 0 := (v2 111 0 (Or.inr (u1 111 0 a11))).trans e11
  have e10b : ad2 110 0 = ad 110 0 := (v2 110 0 (Or.inr (u1 110 0 a10))).trans e10
  refine kk T2 ad2 H2 locs2 _ _ (by omega) (by omega) hR2 hS2 (fun k i h => (v2 k i (Or.inl h)).trans ((v1 k i (Or.inl h)).trans (hB k i h))) hT2 ⟨w1, w2, w3, u2 _ _ (u1 _ _ a9), u2 _ _ (u1 _ _ a10), u2 _ _ (u1 _ _ a11)⟩ (by rw [e11b, e10b]; exact hl)
end LAW
