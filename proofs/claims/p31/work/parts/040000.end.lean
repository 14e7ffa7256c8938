-- how a picture stands in a heap
def ce_ (cA : Nat → ClassId) (ad : Nat → Int → Nat) (T : Zt) (k : Nat) (i : Int) : va_E := match ta_ k with
  | some (1, _, _) => .inl (cA 0, (ln_ T k i).toNat, .inl fun x => Int32.ofInt (T k i (x : Int)))
  | some (2, _, _) => .inl (cA 1, (ln_ T k i).toNat, .inl fun x => Int32.ofInt (T k i (x : Int)))
  | some (3, _, _) => .inl (cA 2, (ln_ T k i).toNat, .inr (.inl fun x => Int64.ofInt (T k i (x : Int))))
  | some (4, _, _) => .inl (cA 3, (ln_ T k i).toNat, .inr (.inr (.inr (.inr fun x => if T k i (x : Int) = 0 then none else some (ad 100 x)))))
  | some (_, _, _) => .inl (cA 4, (ln_ T k i).toNat, .inr (.inr (.inr (.inr fun x => if T k i (x : Int) = 0 then none else some (ad 102 x)))))
  | none => .inr (kc_ k, (tf_ k).zipIdx.map fun q => en_v ad (fv_ q.1.1 q.1.2.1 (T k i (q.2 : Int)) i))
def wd_ (cA : Nat → ClassId) (ad : Nat → Int → Nat) (T : Zt) (ids : List (Nat × Int)) : va_W := ids.map fun q => (ad q.1 q.2, ce_ cA ad T q.1 q.2)
abbrev ty_ (cA : Nat → ClassId) : List (ClassId × FieldType) := [(cA 0, .int), (cA 1, .boolean), (cA 2, .long), (cA 3, .object RX0), (cA 4, .object RX2)]
def Rp_ (D : va_G) (cA : Nat → ClassId) (ad : Nat → Int → Nat) (T : Zt) (A : Nat → Prop) (H : Heap) : Prop := ∃ ids : List (Nat × Int), (∀ k i, al_ T k i ↔ (k, i) ∈ ids) ∧ va_P D vwCl (wd_ cA ad T ids) H ∧ va_D A (wd_ cA ad T ids)
/-- the rows of a competition, a match, a play are there only where it is -/
def ow_ (k : Nat) : Option Nat := if 400 ≤ k ∧ k < 420 then some 100 else if 440 ≤ k ∧ k < 460 then some 102 else if 460 ≤ k ∧ k < 480 then some 103 else none
/-- the picture keeps its table: bounds, and what is referred to is there; 191 0 0 counts the rows of kind 190 -/
def ok_T (T : Zt) : Prop :=
  (∀ k t n lo hi, ta_ k = some (t, n, lo, hi) → ∀ i x, 0 ≤ x → lo ≤ T k i x ∧ T k i x ≤ hi) ∧
  (∀ (k j c k' : Nat) (lo hi : Int), (tf_ k)[j]? = some (c, k', lo, hi) → ∀ i, lo ≤ T k i (j : Int) ∧ T k i (j : Int) ≤ hi) ∧
  (∀ i, 0 ≤ T 190 i (-2) ∧ T 190 i (-2) ≤ 2147483647) ∧
  (∀ k i, al_ T k i → ∀ (j c k' : Nat) (lo hi : Int), (tf_ k)[j]? = some (c, k', lo, hi) → ok_v T (fv_ c k' (T k i (j : Int)) i)) ∧
  (∀ i x, 0 ≤ x → T 521 i x ≠ 0 → al_ T 100 x) ∧ (∀ i x, 0 ≤ x → T 523 i x ≠ 0 → al_ T 102 x) ∧ (∀ k i, k < 100 → ¬ al_ T k i) ∧ (∀ k i o, ow_ k = some o → al_ T k i → al_ T o i ∨ al_ T (o + 50) i) ∧ (∀ i, T 191 0 0 ≤ i → ¬ al_ T 190 i)
def ok_l (T : Zt) (ls : Zl) (st : List Zv) : Prop := (∀ (k : Nat) (v : Zv), ls[k]? = some (some v) → ok_v T v) ∧ ∀ v ∈ st, ok_v T v
def Sb_ (ad0 ad : Nat → Int → Nat) (T0 T : Zt) : Prop := (∀ k i, al_ T0 k i → al_ T k i) ∧ ∀ k i, k < 100 ∨ al_ T0 k i → ad k i = ad0 k i
def lp_ (ad : Nat → Int → Nat) : Nat → Zl → List (Nat × Value)
  | _, [] => []
  | n, none :: r => lp_ ad (n + 1) r
  | n, some v :: r => (n, en_v ad v) :: lp_ ad (n + 1) r
/-- the static rows, which no method writes: AT_FIRST, LEAST, MOST -/
def sa_ (i : Nat) : List Int := ([[0, 3, 1, 0, 2, 0, 1, 7, 1, 2, 2, 3, 3, 3, 1, 0], [0, 0, 0, 0, 0, 0, 1, 1, 1, 1, 0, 2, 1, 1, 1, 0], [3, 9, 9, 9, 7, 1, 4, 30, 9, 6, 5, 25, 9, 9, 9, 999]] : List (List Int)).getD i []
def sn_ (i : Nat) : String := (["AT_FIRST", "LEAST", "MOST"] : List String).getD i ""
/-- the texts of the file, which no method writes -/
def stx_ (i : Nat) : Nat × String := ([(53, "sport;points;order;redo;legs;every;rest;field;subs;target;walkover;cards;red;seed;"), (82, "football;volleyball;tennis;baseball;"), (90, "diff;scored;wins;away;head;fair;lots;")] : List (Nat × String)).getD i (0, "")
def sle_ : List Nat := [82, 36, 37]
def sby_ : List (List Int32) := [[115, 112, 111, 114, 116, 59, 112, 111, 105, 110, 116, 115, 59, 111, 114, 100, 101, 114, 59, 114, 101, 100, 111, 59, 108, 101, 103, 115, 59, 101, 118, 101, 114, 121, 59, 114, 101, 115, 116, 59, 102, 105, 101, 108, 100, 59, 115, 117, 98, 115, 59, 116, 97, 114, 103, 101, 116, 59, 119, 97, 108, 107, 111, 118, 101, 114, 59, 99, 97, 114, 100, 115, 59, 114, 101, 100, 59, 115, 101, 101, 100, 59], [102, 111, 111, 116, 98, 97, 108, 108, 59, 118, 111, 108, 108, 101, 121, 98, 97, 108, 108, 59, 116, 101, 110, 110, 105, 115, 59, 98, 97, 115, 101, 98, 97, 108, 108, 59], [100, 105, 102, 102, 59, 115, 99, 111, 114, 101, 100, 59, 119, 105, 110, 115, 59, 97, 119, 97, 121, 59, 104, 101, 97, 100, 59, 102, 97, 105, 114, 59, 108, 111, 116, 115, 59]]
def stz_ (ad : Nat → Int → Nat) (A : Nat → Prop) (U : State) : Prop := vk_S 3 sle_ sby_ (fun i => ad 82 (i : Int)) (fun i => ad 83 (i : Int)) A U U.heap ∧ (∀ i : Nat, i < 3 → vk_R "SportsHouse$RuleText" (stx_ i).1 (stx_ i).2 (ad 82 (i : Int)) U) ∧ va_Z "java/lang/String" "COMPACT_STRINGS" "Z" (.int 1) A U U.heap ∧ (va_Z "jdk/internal/util/Preconditions" "SIOOBE_FORMATTER" "Ljava/util/function/BiFunction;" .null A U U.heap ∨ va_Z "jdk/internal/util/Preconditions" "SIOOBE_FORMATTER" "Ljava/util/function/BiFunction;" (.ref (ad 84 0)) A U U.heap)
def se_ (ad : Nat → Int → Nat) (A : Nat → Prop) (U : State) : Prop := (∀ i : Nat, i < 3 → va_Z "SportsHouse$RuleText" (sn_ i) "[I" (.ref (ad 81 i)) A U U.heap ∧ va_T .int (ad 81 i) 16 (fun j => .int (Int32.ofInt ((sa_ i).getD j 0))) A U U.heap) ∧ stz_ ad A U
abbrev Zm : Type := String × ByteArray × Nat × Option FieldType × Room
def Qc_ (D : va_G) (cA : Nat → ClassId) (ad0 : Nat → Int → Nat) (T0 : Zt) (A : Nat → Prop) (P : Zt → Option Zv → Prop) : Array Value → State → Outcome → State → Prop := fun _ st oc t =>
  (∃ (T : Zt) (ad : Nat → Int → Nat) (r : Option Zv), oc = .returned (r.map (en_v ad)) ∧ P T r ∧ ok_T T ∧ (∀ v, r = some v → ok_v T v) ∧ Rp_ D cA ad T A t.heap ∧ Sb_ ad0 ad T0 T) ∧ va_F A st t
/-- the room of the constructors is marked by its slots, so that a walk knows that it may put final fields -/
def im_ (n : Nat) : Bool := n == 23 || n == 25 || n == 111
def Cx_ (Y : Zm) (p : Program) (s : State) (m : MethodId) (args : Array Value) (meth : Method) (c : Code) (D : va_G) (cA : Nat → ClassId) (ad0 : Nat → Int → Nat) (A : Nat → Prop) : Prop :=
  p.tables.exec = Jvm.exec ∧ c.code = Y.2.1 ∧ c.maxLocals = Y.2.2.1 ∧ meth.sig.returnType = Y.2.2.2.1 ∧ meth.locks = false ∧ (∀ w ∈ lw_g, w.before args s = true) ∧ s.vm.findClass Y.1 = some m.cls ∧ va_K D vwCl (ty_ cA) s ∧ ex_E s ∧ (∀ q, s.heap.size ≤ q → A q) ∧ se_ ad0 A s ∧ (im_ Y.2.2.2.2.slots = true → meth.name = "<init>")
/-- from here on the method ends, and P holds of what it leaves -/
def J_ (Y : Zm) (T0 : Zt) (P : Zt → Option Zv → Prop) (bc bs : Nat) (pc : Int) (ls : Zl) (st : List Zv) (T : Zt) : Prop :=
  ∀ (l : Launch) (p : Program) (e : Env) (s : State) (m : MethodId) (args : Array Value) (below : List Frame) (meth : Method) (c : Code) (D : va_G) (cA : Nat → ClassId) (ad0 : Nat → Int → Nat) (A : Nat → Prop), Cx_ Y p s m args meth c D cA ad0 A →
  ∀ (ad : Nat → Int → Nat) (H : Heap) (locs : List Loc) (cells slots : Nat) (lsC : Array Slot), cells + bc ≤ Y.2.2.2.2.cells → slots + bs ≤ Y.2.2.2.2.slots → Rp_ D cA ad T A H → va_S A s.heap H locs → Sb_ ad0 ad T0 T → ok_T T → ok_l T ls st → lv_has lsC Y.2.2.1 (lp_ ad 0 ls) → ls.length = Y.2.2.1 →
  W p l e Y.2.2.2.2 s m args below meth c H locs cells slots (MQ below (Qc_ D cA ad0 T0 A P) args s Y.2.2.2.2.cells Y.2.2.2.2.slots A) (F0 m pc.toNat lsC (st.map (en_v ad)))
-- rows of the picture
theorem up_s (T : Zt) (k : Nat) (i j v : Int) : up_ T k i j v k i j = v := by simp [up_]
theorem up_n {T : Zt} {k k' : Nat} {i j v i' j' : Int} (h : ¬ (k' = k ∧ i' = i ∧ j' = j)) : up_ T k i j v k' i' j' = T k' i' j' := by simp [up_, h]
theorem up_o {T : Zt} {k k' : Nat} {i j v i' : Int} (h : (k', i') ≠ (k, i)) : up_ T k i j v k' i' = T k' i' := by
  funext j'
  refine up_n (fun q => h ?_)
  rw [q.1, q.2.1]
theorem lp_get {ad : Nat → Int → Nat} : ∀ {ls : Zl} {n k : Nat} {v : Zv}, ls[k]? = some (some v) → (n + k, en_v ad v) ∈ lp_ ad n ls
  | [], _, _, _, h => by simp at h
  | none :: r, n, 0, v, h => by simp at h
  | some w :: r, n, 0, v, h => by simp at h; subst h; simp [lp_]
  | none :: r, n, k + 1, v, h => by
    have h1 : r[k]? = some (some v) := by simpa using h
    have := lp_get (ad := ad) (n := n + 1) h1
    rw [show n + (k + 1) = n + 1 + k by omega]
    exact this
  | some w :: r, n, k + 1, v, h => by
    have h1 : r[k]? = some (some v) := by simpa using h
    have := lp_get (ad := ad) (n := n + 1) h1
    rw [show n + (k + 1) = n + 1 + k by omega]
    exact List.mem_cons_of_mem _ this
theorem lp_mem {ad : Nat → Int → Nat} : ∀ {ls : Zl} {n : Nat} {q : Nat × Value}, q ∈ lp_ ad n ls → ∃ k v, q = (n + k, en_v ad v) ∧ ls[k]? = some (some v)
  | [], _, _, h => by simp [lp_] at h
  | none :: r, n, q, h => by
    obtain ⟨k, v, e, h1⟩ := lp_mem (ls := r) (n := n + 1) h
    exact ⟨k + 1, v, by rw [e]; congr 1; omega, by simpa using h1⟩
  | some w :: r, n, q, h => by
    rcases List.mem_cons.mp h with rfl | h
    · exact ⟨0, w, rfl, rfl⟩
    · obtain ⟨k, v, e, h1⟩ := lp_mem (ls := r) (n := n + 1) h
      exact ⟨k + 1, v, by rw [e]; congr 1; omega, by simpa using h1⟩
theorem lp_read {ad : Nat → Int → Nat} {lsC : Array Slot} {nL : Nat} {ls : Zl} {k : Nat} {v : Zv} (h : lv_has lsC nL (lp_ ad 0 ls)) (hk : ls[k]? = some (some v)) : lsC[k]? = some (.val (en_v ad v)) := by
  have := h.2.2 _ (lp_get (ad := ad) (n := 0) hk)
  simpa using this
theorem en_cat {ad : Nat → Int → Nat} {v : Zv} : (en_v ad v).category = 2 ↔ ∃ x, v = vL x := by
  rcases v with x | x | _ | ⟨k, i⟩ <;> simp [en_v, Value.category]
theorem st_spec : ∀ {ls : Zl} {K : Zl → Prop} {k : Nat} {v : Option Zv}, st_ K ls k v → k < ls.length ∧ (∀ (k0 : Nat) (x : Int), k = k0 + 1 → ls[k0]? ≠ some (some (vL x))) ∧ K (ls.set k v)
  | [], _, _, _, h => by simp [st_] at h
  | a :: t, K, 0, v, h => ⟨by simp, fun k0 x e => by omega, by simpa [st_] using h⟩
  | a :: t, K, 1, v, h => by
    have h1 : st_ (fun t' => K (a :: t')) t 0 v ∧ ∀ x, a ≠ some (vL x) := by
      rcases a with _ | x | x | q
      · exact ⟨h, fun _ => by simp⟩
      · exact ⟨h, fun _ => by simp [vL]⟩
      · exact absurd h (by simp [st_])
      · exact ⟨h, fun _ => by simp [vL]⟩
    obtain ⟨q1, q2, q3⟩ := st_spec h1.1
    refine ⟨by simp; omega, fun k0 x e => ?_, by simpa using q3⟩
    have : k0 = 0 := by omega
    subst this
    simpa using h1.2 x
  | a :: t, K, k + 2, v, h => by
    have h1 : st_ (fun t' => K (a :: t')) t (k + 1) v := h
    obtain ⟨q1, q2, q3⟩ := st_spec h1
    refine ⟨by simp; omega, fun k0 x e => ?_, by simpa using q3⟩
    obtain ⟨k1, rfl⟩ : ∃ k1, k0 = k1 + 1 := ⟨k, by omega⟩
    have := q2 k1 x (by omega)
    simpa using this
theorem lp_set1 {ad : Nat → Int → Nat} {lsC : Array Slot} {nL : Nat} {ls : Zl} {k : Nat} {v : Zv} {w : Value} (hw : en_v ad v = w) (hn : ∀ (k0 : Nat) (x : Int), k = k0 + 1 → ls[k0]? ≠ some (some (vL x))) (h : lv_has lsC nL ((k, w) :: (lp_ ad 0 ls).filter (fun q => !(q.1 == k) && !(q.1 + 1 == k && q.2.category == 2)))) : lv_has lsC nL (lp_ ad 0 (ls.set k (some v))) := by
  subst hw
  refine ⟨h.1, h.2.1, fun q hq => ?_⟩
  obtain ⟨j, u, rfl, hu⟩ := lp_mem hq
  rw [List.getElem?_set] at hu
  by_cases hj : k = j
  · subst hj
    rw [if_pos rfl] at hu
    by_cases hl : k < ls.length
    · rw [if_pos hl] at hu
      simp at hu
      subst hu
      have := h.2.2 (k, en_v ad v) List.mem_cons_self
      simpa using this
    · rw [if_neg hl] at hu
      simp at hu
  · rw [if_neg hj] at hu
    refine h.2.2 _ (List.mem_cons_of_mem _ (List.mem_filter.mpr ⟨lp_get hu, ?_⟩))
    have h1 : ¬ (0 + j + 1 = k ∧ (en_v ad u).category = 2) := by
      rintro ⟨a, b⟩
      obtain ⟨x, rfl⟩ := en_cat.mp b
      exact hn j x (by omega) hu
    simp only [Bool.and_eq_true, Bool.not_eq_true', beq_eq_false_iff_ne, ne_eq, Bool.and_eq_false_iff]
    refine ⟨by omega, ?_⟩
    by_cases z : 0 + j + 1 = k
    · exact Or.inr (fun b => h1 ⟨z, b⟩)
    · exact Or.inl z
