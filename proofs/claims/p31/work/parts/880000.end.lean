-- the reference's constructor, all its rows at once
abbrev Ms : Type := Nat × Nat × (Int32 ⊕ (Bool × Int32 × List Int32))
def pu_ (cc : ByteArray) (pc : Nat) (v : Int32) : Nat := match decode cc pc with
  | .ok (.iconst w, k) => if Int32.ofInt w = v ∧ k = 1 then 1 else 0
  | .ok (.bipush w, k) => if (Int8.ofInt w).toInt32 = v ∧ k = 2 then 2 else 0
  | .ok (.sipush w, k) => if (Int16.ofInt w).toInt32 = v ∧ k = 3 then 3 else 0
  | _ => 0
def fil_ (cc : ByteArray) : List Int32 → Nat → Nat → Option Nat
  | [], pc, _ => some pc
  | v :: r, pc, i => if decode cc pc = .ok (.dup, 1) then (match pu_ cc (pc + 1) (Int32.ofInt (i : Int)) with
    | 0 => none
    | a + 1 => (match pu_ cc (pc + 1 + (a + 1)) v with
      | 0 => none
      | b + 1 => if decode cc (pc + 1 + (a + 1) + (b + 1)) = .ok (.iastore, 1) then fil_ cc r (pc + 1 + (a + 1) + (b + 1) + 1) (i + 1) else none)) else none
/-- the field's row of the tables: its link, its place, its type -/
def fk_ (q : Ms) (d : String) : Bool := decide ((q.2.1, 11, q.1) ∈ fX11.1) && decide (q.1 < 114) && decide ((TX11 q.1).1 = RX11) && decide ((TX11 q.1).2.2.1 = d)
def aty_ : Bool → ArrayType
  | true => .boolean
  | false => .int
def ads_ : Bool → String
  | true => "[Z"
  | false => "[I"
def stp_ (cc : ByteArray) (pc : Nat) (q : Ms) : Option Nat := if decode cc pc = .ok (.aload_n 0, 1) then (match q.2.2 with
  | .inl v => (match pu_ cc (pc + 1) v with
    | 0 => none
    | a + 1 => if decode cc (pc + 1 + (a + 1)) = .ok (.putfield q.2.1, 3) ∧ fk_ q "I" = true then some (pc + 1 + (a + 1) + 3) else none)
  | .inr (bo, n, vs) => (match pu_ cc (pc + 1) n with
    | 0 => none
    | a + 1 => if decode cc (pc + 1 + (a + 1)) = .ok (.newarray (aty_ bo), 2) ∧ fk_ q (ads_ bo) = true ∧ 0 ≤ n.toInt ∧ vs.length ≤ n.toNatClampNeg ∧ n.toNatClampNeg ≤ 10000 ∧ (bo = true → vs = []) then (match fil_ cc vs (pc + 1 + (a + 1) + 2) 0 with
      | none => none
      | some pe => if decode cc pe = .ok (.putfield q.2.1, 3) then some (pe + 3) else none) else none)) else none
def sts_ (cc : ByteArray) : Nat → List Ms → Option Nat
  | pc, [] => some pc
  | pc, q :: r => (match stp_ cc pc q with
    | none => none
    | some pe => sts_ cc pe r)
def nr_ : List Ms → Nat
  | [] => 0
  | (_, _, .inl _) :: r => nr_ r
  | (_, _, .inr _) :: r => nr_ r + 1
def ns_ : List Ms → Nat
  | [] => 0
  | (_, _, .inl _) :: r => ns_ r
  | (_, _, .inr (_, n, _)) :: r => n.toNatClampNeg + ns_ r
def fz_ (qf : Nat → Nat) : List Ms → Nat → List Value → List Value
  | [], _, fs => fs
  | (k, _, .inl v) :: r, j, fs => fz_ qf r j (fs.set k (.int v))
  | (k, _, .inr _) :: r, j, fs => fz_ qf r (j + 1) (fs.set k (.ref (qf j)))
def rz_ (cA : Nat → ClassId) (qf : Nat → Nat) : List Ms → Nat → va_W
  | [], _ => []
  | (_, _, .inl _) :: r, j => rz_ cA qf r j
  | (_, _, .inr (bo, n, vs)) :: r, j => (qf j, .inl (cA (if bo then 1 else 0), n.toNatClampNeg, .inl fun x => vs.getD x 0)) :: rz_ cA qf r (j + 1)
theorem fz_c {qf qg : Nat → Nat} : ∀ (ss : List Ms) (j : Nat) (fs : List Value), (∀ i, j ≤ i → qf i = qg i) → fz_ qf ss j fs = fz_ qg ss j fs
  | [], _, _, _ => rfl
  | (k, _, .inl v) :: r, j, fs, h => fz_c r j _ h
  | (k, _, .inr _) :: r, j, fs, h => by
    show fz_ qf r (j + 1) (fs.set k (.ref (qf j))) = fz_ qg r (j + 1) (fs.set k (.ref (qg j)))
    rw [h j (Nat.le_refl _)]
    exact fz_c r (j + 1) _ (fun i hi => h i (by omega))
theorem rz_c {cA : Nat → ClassId} {qf qg : Nat → Nat} : ∀ (ss : List Ms) (j : Nat), (∀ i, j ≤ i → qf i = qg i) → rz_ cA qf ss j = rz_ cA qg ss j
  | [], _, _ => rfl
  | (k, _, .inl v) :: r, j, h => rz_c r j h
  | (k, _, .inr (bo, n, vs)) :: r, j, h => by
    show (qf j, _) :: rz_ cA qf r (j + 1) = (qg j, _) :: rz_ cA qg r (j + 1)
    rw [h j (Nat.le_refl _), rz_c r (j + 1) (fun i hi => h i (by omega))]
def fin_ : (Nat → Int32) → Nat → List Int32 → Nat → Int32
  | f, _, [] => f
  | f, i, v :: r => fin_ (upd f i v) (i + 1) r
theorem fin_v : ∀ (vs : List Int32) (f : Nat → Int32) (i x : Nat), fin_ f i vs x = if i ≤ x ∧ x < i + vs.length then vs.getD (x - i) 0 else f x
  | [], f, i, x => by
    rw [if_neg (by simp)]
    rfl
  | v :: r, f, i, x => by
    show fin_ (upd f i v) (i + 1) r x = _
    rw [fin_v r]
    by_cases h : x = i
    · subst h
      rw [if_neg (by omega), if_pos (by simp)]
      simp [upd]
    · by_cases h2 : i + 1 ≤ x ∧ x < i + 1 + r.length
      · rw [if_pos h2, if_pos (by simp only [List.length_cons]; omega)]
        obtain ⟨z, hz⟩ : ∃ z, x - i = z + 1 := ⟨x - i - 1, by omega⟩
        rw [hz, show x - (i + 1) = z by omega]
        rfl
      · rw [if_neg h2, if_neg (by simp only [List.length_cons]; omega)]
        simp [upd, h]
theorem fin_0 (vs : List Int32) : fin_ (fun _ => 0) 0 vs = fun x => vs.getD x 0 := by
  funext x
  rw [fin_v]
  by_cases h : x < vs.length
  · rw [if_pos (by omega)]
    rfl
  · rw [if_neg (by omega)]
    simp [List.getD_eq_getElem?_getD, List.getElem?_eq_none (show vs.length ≤ x by omega)]
section MKX
variable {p : Program} {l : Launch} {e : Env} {R : Room} {s : State} {m : MethodId} {args : Array Value} {below : List Frame} {meth : Method} {c : Code} {H : Heap} {locs : List Loc} {cells slots : Nat} {Q : State → Prop} {cc : ByteArray} {pc : Nat} {ls : Array Slot} {rest : List Value} {dC : Nat → ClassId} {dI : Nat → Nat → Nat} {cA : Nat → ClassId} {A : Nat → Prop} {a : Nat}
theorem pu_w (hx : p.tables.exec = Jvm.exec) (hb : c.code = cc) {v : Int32} {n : Nat} (h : pu_ cc pc v = n + 1) (k : W p l e R s m args below meth c H locs cells slots Q (F0 m (pc + (n + 1)) ls (.int v :: rest))) : W p l e R s m args below meth c H locs cells slots Q (F0 m pc ls rest) := by
  unfold pu_ at h
  split at h
  · rename_i w k9 hd
    split at h
    · rename_i g
      obtain ⟨g1, rfl⟩ := g
      have : n = 0 := by omega
      subst this
      exact lv_iconst hx hb hd g1 k
    · omega
  · rename_i w k9 hd
    split at h
    · rename_i g
      obtain ⟨g1, rfl⟩ := g
      have : n = 1 := by omega
      subst this
      exact lv_bipush hx hb hd g1 k
    · omega
  · rename_i w k9 hd
    split at h
    · rename_i g
      obtain ⟨g1, rfl⟩ := g
      have : n = 2 := by omega
      subst this
      exact lv_sipush hx hb hd g1 k
    · omega
  · omega
theorem fil_w (hx : p.tables.exec = Jvm.exec) (hb : c.code = cc) (hK : va_K (dC, dI) vwCl (ty_ cA) s) {q N : Nat} (hN : N ≤ 10000) {w0 : va_W} : ∀ (vs : List Int32) (pc i pe : Nat) (f : Nat → Int32) (H : Heap) (locs : List Loc), fil_ cc vs pc i = some pe → i + vs.length ≤ N → va_P (dC, dI) vwCl (w0 ++ [(q, .inl (cA 0, N, .inl f))]) H → va_D A (w0 ++ [(q, .inl (cA 0, N, .inl f))]) → va_S A s.heap H locs →
    (∀ (H1 : Heap) (locs1 : List Loc), va_P (dC, dI) vwCl (w0 ++ [(q, .inl (cA 0, N, .inl (fin_ f i vs)))]) H1 → va_D A (w0 ++ [(q, .inl (cA 0, N, .inl (fin_ f i vs)))]) → va_S A s.heap H1 locs1 → W p l e R s m args below meth c H1 locs1 cells slots Q (F0 m pe ls (.ref q :: rest))) → W p l e R s m args below meth c H locs cells slots Q (F0 m pc ls (.ref q :: rest))
  | [], pc, i, pe, f, H, locs, h, _, hP, hD, hS, kk => by
    have : pc = pe := Option.some.inj h
    subst this
    exact kk H locs hP hD hS
  | v :: r, pc, i, pe, f, H, locs, h, hlen, hP, hD, hS, kk => by
    unfold fil_ at h
    split at h
    · rename_i h1
      split at h
      · cases h
      · rename_i a ha
        split at h
        · cases h
        · rename_i b hb2
          split at h
          · rename_i h2
            simp only [List.length_cons] at hlen
            refine lv_dup hx hb h1 rfl ?_
            refine pu_w hx hb ha ?_
            refine pu_w hx hb hb2 ?_
            refine va_iast hx hb hK hP hD hS w0.length 0 (show (w0 ++ [(q, .inl (cA 0, N, .inl f))] : va_W)[w0.length]? = some (q, .inl (cA 0, N, .inl f)) from by simp) rfl (by have := i3_in (x := (i : Int)) (n := (N : Int)) (by omega) (by omega) (by omega); simpa using this) h2 (fun H1 locs1 hP1 hD1 hS1 => ?_)
            have ec : (Int32.ofInt (i : Int)).toNatClampNeg = i := by have := i3_cl (x := (i : Int)) (by omega) (by omega); omega
            have es : (w0 ++ [(q, .inl (cA 0, N, .inl f))] : va_W).set w0.length (q, .inl (cA 0, N, .inl (upd f (Int32.ofInt (i : Int)).toNatClampNeg v))) = w0 ++ [(q, .inl (cA 0, N, .inl (upd f i v)))] := by
              rw [ec]
              simp
            rw [es] at hP1 hD1
            exact fil_w hx hb hK hN r _ (i + 1) pe (upd f i v) H1 locs1 h (by omega) hP1 hD1 hS1 kk
          · cases h
    · cases h
theorem fk_s {q : Ms} {d : String} (h : fk_ q d = true) : (q.2.1, 11, q.1) ∈ fX11.1 ∧ q.1 < 114 ∧ (TX11 q.1).1 = RX11 ∧ (TX11 q.1).2.2.1 = d := by
  simp only [fk_, Bool.and_eq_true, decide_eq_true_eq] at h
  exact ⟨h.1.1.1, h.1.1.2, h.1.2, h.2⟩
theorem mk_put (hx : p.tables.exec = Jvm.exec) (hb : c.code = cc) (ht : ∀ w ∈ lw_g, w.before args s = true) (hown : s.vm.findClass RX11 = some m.cls) (hin2 : meth.name = "<init>") (hK : va_K (dC, dI) vwCl (ty_ cA) s) {q : Ms} {d : String} (hf : fk_ q d = true) {fs : List Value} {wr : va_W} (hP : va_P (dC, dI) vwCl ((a, .inr (11, fs)) :: wr) H) (hD : va_D A ((a, .inr (11, fs)) :: wr)) (hS : va_S A s.heap H locs) {ty : FieldType} {v : Value} (hd : parseFieldDescriptor d = some ty) (hn : narrow ty v = v) (hfit : fits ty v = true) (hl : fs.length = 114) (hdg : decode cc pc = .ok (.putfield q.2.1, 3))
    (kk : ∀ (H1 : Heap) (locs1 : List Loc), va_P (dC, dI) vwCl ((a, .inr (11, fs.set q.1 v)) :: wr) H1 → va_D A ((a, .inr (11, fs.set q.1 v)) :: wr) → va_S A s.heap H1 locs1 → W p l e R s m args below meth c H1 locs1 cells slots Q (F0 m (pc + 3) ls rest)) : W p l e R s m args below meth c H locs cells slots Q (F0 m pc ls (v :: .ref a :: rest)) := by
  obtain ⟨f1, f2, f3, f4⟩ := fk_s hf
  obtain ⟨C, Tb, N, hC, hj, hN, hlk⟩ := tg_X11 _ f1
  cases hC
  subst f4
  cases hfin : (TX11 q.1).2.2.2 with
  | false => exact va_put (D := (dC, dI)) (ci := 11) (C := RX11) (T := TX11) (N := 114) (own := RX11) (ref := (TX11 q.1).1) (index := q.2.1) (ty := ty) (v := v) hx hb ht inX11 tyX11 tyX11_ok nmX11 hown hK hP hD hS 0 rfl rfl q.1 f2 (ht _ hlk) (fun _ h => h) hfin hd hn hfit (by omega) hdg kk
  | true => exact va_putF (D := (dC, dI)) (ci := 11) (C := RX11) (T := TX11) (N := 114) (own := RX11) (ref := (TX11 q.1).1) (index := q.2.1) (ty := ty) (v := v) hx hb ht inX11 tyX11 tyX11_ok nmX11 hown hK hP hD hS 0 rfl rfl q.1 f2 (ht _ hlk) (fun _ h => h) hfin hin2 f3 hd hn hfit (by omega) hdg kk
theorem n_int {n : Int32} (h : 0 ≤ n.toInt) : ¬ n < 0 := fun h2 => by
  have := Int32.lt_iff_toInt_lt.mp h2
  have e : (0 : Int32).toInt = 0 := by decide
  omega
theorem sts_w (hx : p.tables.exec = Jvm.exec) (hb : c.code = cc) (ht : ∀ w ∈ lw_g, w.before args s = true) (hown : s.vm.findClass RX11 = some m.cls) (hin2 : meth.name = "<init>") (hA : ∀ q, s.heap.size ≤ q → A q) (hl : lv_has ls 1 [(0, .ref a)]) (hK : va_K (dC, dI) vwCl (ty_ cA) s) (ki : Cond.arrayClass .int ∈ lw_g) (kz : Cond.arrayClass .boolean ∈ lw_g) : ∀ (ss : List Ms) (pc pe j cells slots : Nat) (fs : List Value) (wr : va_W) (H : Heap) (locs : List Loc), sts_ cc pc ss = some pe → fs.length = 114 → cells + nr_ ss ≤ R.cells → slots + ns_ ss ≤ R.slots → va_P (dC, dI) vwCl ((a, .inr (11, fs)) :: wr) H → va_D A ((a, .inr (11, fs)) :: wr) → va_S A s.heap H locs →
    (∀ (qf : Nat → Nat) (H1 : Heap) (locs1 : List Loc), va_P (dC, dI) vwCl ((a, .inr (11, fz_ qf ss j fs)) :: (wr ++ rz_ cA qf ss j)) H1 → va_D A ((a, .inr (11, fz_ qf ss j fs)) :: (wr ++ rz_ cA qf ss j)) → va_S A s.heap H1 locs1 → W p l e R s m args below meth c H1 locs1 (cells + nr_ ss) (slots + ns_ ss) Q (F0 m pe ls [])) → W p l e R s m args below meth c H locs cells slots Q (F0 m pc ls [])
  | [], pc, pe, j, cells, slots, fs, wr, H, locs, h, hfs, hc, hs, hP, hD, hS, kk => by
    have : pc = pe := Option.some.inj h
    subst this
    have := kk (fun _ => 0) H locs (by rw [show wr ++ rz_ cA (fun _ => 0) [] j = wr from List.append_nil wr]; exact hP) (by rw [show wr ++ rz_ cA (fun _ => 0) [] j = wr from List.append_nil wr]; exact hD) hS
    exact this
  | q :: r, pc, pe, j, cells, slots, fs, wr, H, locs, h, hfs, hc, hs, hP, hD, hS, kk => by
    unfold sts_ at h
    split at h
    · cases h
    · rename_i p1 h1
      unfold stp_ at h1
      split at h1
      · rename_i hd0
        refine lv_aload_n hx hb hd0 rfl (lv_at hl 0 rfl) ?_
        obtain ⟨k9, ix, cont⟩ := q
        rcases cont with v | ⟨bo, n, vs⟩
        · simp only at h1
          split at h1
          · cases h1
          · rename_i b hb2
            split at h1
            · rename_i h2
              have e1 := Option.some.inj h1
              subst e1
              refine pu_w hx hb hb2 ?_
              refine mk_put (q := (k9, ix, .inl v)) hx hb ht hown hin2 hK h2.2 hP hD hS (ty := .int) (by decide +kernel) rfl rfl hfs h2.1 (fun H1 locs1 hP1 hD1 hS1 => ?_)
              exact sts_w hx hb ht hown hin2 hA hl hK ki kz r _ pe j cells slots _ wr H1 locs1 h (by rw [List.length_set]; exact hfs) hc hs hP1 hD1 hS1 kk
            · cases h1
        · simp only at h1
          split at h1
          · cases h1
          · rename_i b hb2
            split at h1
            · rename_i h2
              obtain ⟨hd2, hf, hn0, hvl, hnm, hbv⟩ := h2
              split at h1
              · cases h1
              · rename_i p2 h3
                split at h1
                · rename_i hd3
                  have e1 := Option.some.inj h1
                  subst e1
                  refine pu_w hx hb hb2 ?_
                  have hc2 : cells + (nr_ r + 1) ≤ R.cells := hc
                  have hs2 : slots + (n.toNatClampNeg + ns_ r) ≤ R.slots := hs
                  have fin : ∀ (q : Nat) (H1 : Heap) (locs1 : List Loc), va_P (dC, dI) vwCl ((a, .inr (11, fs.set k9 (.ref q))) :: (wr ++ [(q, .inl (cA (if bo then 1 else 0), n.toNatClampNeg, .inl fun x => vs.getD x 0))])) H1 → va_D A ((a, .inr (11, fs.set k9 (.ref q))) :: (wr ++ [(q, .inl (cA (if bo then 1 else 0), n.toNatClampNeg, .inl fun x => vs.getD x 0))])) → va_S A s.heap H1 locs1 → W p l e R s m args below meth c H1 locs1 (cells + 1) (slots + n.toNatClampNeg) Q (F0 m (p2 + 3) ls []) := by
                    intro q H1 locs1 hP1 hD1 hS1
                    refine sts_w hx hb ht hown hin2 hA hl hK ki kz r (p2 + 3) pe (j + 1) (cells + 1) (slots + n.toNatClampNeg) _ _ H1 locs1 h (by rw [List.length_set]; exact hfs) (by omega) (by omega) hP1 hD1 hS1 (fun qf H2 locs2 hP2 hD2 hS2 => ?_)
                    have q1 : ∀ i, j + 1 ≤ i → qf i = (fun i => if i = j then q else qf i) i := fun i hi => by
                      show qf i = if i = j then q else qf i
                      rw [if_neg (by omega)]
                    have ej : (fun i => if i = j then q else qf i) j = q := if_pos rfl
                    have g1 : fz_ qf r (j + 1) (fs.set k9 (.ref q)) = fz_ (fun i => if i = j then q else qf i) ((k9, ix, .inr (bo, n, vs)) :: r) j fs := by
                      show _ = fz_ _ r (j + 1) (fs.set k9 (.ref ((fun i => if i = j then q else qf i) j)))
                      rw [ej]
                      exact fz_c r (j + 1) _ q1
                    have g2 : wr ++ [(q, .inl (cA (if bo then 1 else 0), n.toNatClampNeg, .inl fun x => vs.getD x 0))] ++ rz_ cA qf r (j + 1) = wr ++ rz_ cA (fun i => if i = j then q else qf i) ((k9, ix, .inr (bo, n, vs)) :: r) j := by
                      rw [List.append_assoc]
                      show wr ++ ((q, _) :: rz_ cA qf r (j + 1)) = wr ++ (((fun i => if i = j then q else qf i) j, _) :: rz_ cA _ r (j + 1))
                      rw [ej, rz_c r (j + 1) q1]
                    rw [g1, g2] at hP2 hD2
                    have k2 := kk _ H2 locs2 hP2 hD2 hS2
                    have n1 : cells + 1 + nr_ r = cells + nr_ ((k9, ix, .inr (bo, n, vs)) :: r) := by show _ = cells + (nr_ r + 1); omega
                    have n2 : slots + n.toNatClampNeg + ns_ r = slots + ns_ ((k9, ix, .inr (bo, n, vs)) :: r) := by show _ = slots + (n.toNatClampNeg + ns_ r); omega
                    rw [n1, n2]
                    exact k2
                  cases bo with
                  | false =>
                    refine va_newa (atype := .int) (ty := .int) (N' := n.toNatClampNeg) (a0 := (n.toNatClampNeg, .inl fun _ => 0)) hx hb (ht _ ki) rfl hK hP hD hS hA (fun _ => rfl) (n_int hn0) rfl (by show n.toNatClampNeg * 4 ≤ _; omega) (by omega) (by omega) hd2 (fun q cN H1 hK1 hP1 hD1 hS1 => ?_)
                    have ec : cN = cA 0 := by
                      have q1 := va_nm_int (hK1.2 5 (cN, .int) rfl).2
                      have q2 := va_nm_int (hK1.2 0 (cA 0, .int) rfl).2
                      exact Option.some.inj (q1.symm.trans q2)
                    subst ec
                    refine fil_w hx hb hK hnm vs _ 0 p2 (fun _ => 0) H1 locs h3 (by omega) hP1 hD1 hS1 (fun H2 locs2 hP2 hD2 hS2 => ?_)
                    rw [fin_0] at hP2 hD2
                    refine mk_put (q := (k9, ix, .inr (false, n, vs))) hx hb ht hown hin2 hK hf hP2 hD2 hS2 (ty := .array .int) (by decide +kernel) rfl rfl hfs hd3 (fun H3 locs3 hP3 hD3 hS3 => ?_)
                    exact fin q H3 locs3 hP3 hD3 hS3
                  | true =>
                    have ev : vs = [] := hbv rfl
                    subst ev
                    have ep : pc + 1 + (b + 1) + 2 = p2 := Option.some.inj h3
                    subst ep
                    refine va_newa (atype := .boolean) (ty := .boolean) (N' := n.toNatClampNeg) (a0 := (n.toNatClampNeg, .inl fun _ => 0)) hx hb (ht _ kz) rfl hK hP hD hS hA (fun _ => rfl) (n_int hn0) rfl (by show n.toNatClampNeg * 1 ≤ _; omega) (by omega) (by omega) hd2 (fun q cN H1 hK1 hP1 hD1 hS1 => ?_)
                    have ec : cN = cA 1 := by
                      have q1 := va_nm_boolean (hK1.2 5 (cN, .boolean) rfl).2
                      have q2 := va_nm_boolean (hK1.2 1 (cA 1, .boolean) rfl).2
                      exact Option.some.inj (q1.symm.trans q2)
                    subst ec
                    refine mk_put (q := (k9, ix, .inr (true, n, []))) hx hb ht hown hin2 hK hf hP1 hD1 hS1 (ty := .array .boolean) (by decide +kernel) rfl rfl hfs hd3 (fun H3 locs3 hP3 hD3 hS3 => ?_)
                    exact fin q H3 locs3 hP3 hD3 hS3
                · cases h1
            · cases h1
      · cases h1
end MKX
noncomputable def pu2_ (cc : ByteArray) (pc : Nat) (v : Int32) : Nat := match qdec_ cc pc with
  | .ok (.iconst w, k) => if Int32.ofInt w = v ∧ k = 1 then 1 else 0
  | .ok (.bipush w, k) => if (Int8.ofInt w).toInt32 = v ∧ k = 2 then 2 else 0
  | .ok (.sipush w, k) => if (Int16.ofInt w).toInt32 = v ∧ k = 3 then 3 else 0
  | _ => 0
theorem pu2_e (cc : ByteArray) (pc : Nat) (v : Int32) : pu2_ cc pc v = pu_ cc pc v := by
  unfold pu2_ pu_
  rw [qdec_e]
noncomputable def fil2_ (cc : ByteArray) : List Int32 → Nat → Nat → Option Nat
  | [], pc, _ => some pc
  | v :: r, pc, i => if qdec_ cc pc = .ok (.dup, 1) then (match pu2_ cc (pc + 1) (Int32.ofInt (i : Int)) with
    | 0 => none
    | a + 1 => (match pu2_ cc (pc + 1 + (a + 1)) v with
      | 0 => none
      | b + 1 => if qdec_ cc (pc + 1 + (a + 1) + (b + 1)) = .ok (.iastore, 1) then fil2_ cc r (pc + 1 + (a + 1) + (b + 1) + 1) (i + 1) else none)) else none
theorem fil2_e (cc : ByteArray) : ∀ (vs : List Int32) (pc i : Nat), fil2_ cc vs pc i = fil_ cc vs pc i
  | [], _, _ => rfl
  | v :: r, pc, i => by
    simp only [fil2_, fil_, qdec_e, pu2_e, fil2_e cc r]
noncomputable def stp2_ (cc : ByteArray) (pc : Nat) (q : Ms) : Option Nat := if qdec_ cc pc = .ok (.aload_n 0, 1) then (match q.2.2 with
  | .inl v => (match pu2_ cc (pc + 1) v with
    | 0 => none
    | a + 1 => if qdec_ cc (pc + 1 + (a + 1)) = .ok (.putfield q.2.1, 3) ∧ fk_ q "I" = true then some (pc + 1 + (a + 1) + 3) else none)
  | .inr (bo, n, vs) => (match pu2_ cc (pc + 1) n with
    | 0 => none
    | a + 1 => if qdec_ cc (pc + 1 + (a + 1)) = .ok (.newarray (aty_ bo), 2) ∧ fk_ q (ads_ bo) = true ∧ 0 ≤ n.toInt ∧ vs.length ≤ n.toNatClampNeg ∧ n.toNatClampNeg ≤ 10000 ∧ (bo = true → vs = []) then (match fil2_ cc vs (pc + 1 + (a + 1) + 2) 0 with
      | none => none
      | some pe => if qdec_ cc pe = .ok (.putfield q.2.1, 3) then some (pe + 3) else none) else none)) else none
theorem stp2_e (cc : ByteArray) (pc : Nat) (q : Ms) : stp2_ cc pc q = stp_ cc pc q := by
  simp only [stp2_, stp_, qdec_e, pu2_e, fil2_e]
noncomputable def sts2_ (cc : ByteArray) : Nat → List Ms → Option Nat
  | pc, [] => some pc
  | pc, q :: r => (match stp2_ cc pc q with
    | none => none
    | some pe => sts2_ cc pe r)
theorem sts2_e (cc : ByteArray) : ∀ (l : List Ms) (pc : Nat), sts2_ cc pc l = sts_ cc pc l
  | [], _ => rfl
  | q :: r, pc => by
    simp only [sts2_, sts_, stp2_e, sts2_e cc r]
