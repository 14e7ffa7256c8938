-- the picture of both objects as their constructors leave them
def sk_ : List Nat := [110, 105, 500, 504, 505, 108, 560, 561, 564, 566, 567, 568, 569, 570, 571, 106, 521, 523, 527, 528, 529, 530, 531, 533, 534, 535, 107, 542, 543, 544, 545, 546, 547, 548, 549, 550, 551, 552, 109, 587, 588, 590, 591, 592, 593, 594, 584, 101, 428, 429, 430, 431, 432, 434, 435, 104, 482, 190, 111, 200, 204, 205, 207, 208, 209, 210, 211, 213, 214, 217, 218, 219, 220, 222, 223, 225, 226, 227, 228, 230, 231, 232, 233, 234, 235, 236, 237, 238, 239, 240, 241, 242, 243, 244, 245, 246, 248, 249, 250, 251, 252, 253, 254, 255, 256, 264, 265, 266, 267, 268, 269, 270, 271, 272, 274, 276, 277, 278, 281, 284, 286, 289, 291, 292, 293, 294, 296, 297, 301, 302, 304, 305, 306, 308, 309, 310, 311]
def sv_ (k n : Nat) : Int := match k with
  | 105 => if n = 3 then -1 else 0
  | 109 => if n = 2 then -1 else 0
  | 111 => if n = 88 then -1 else if n = 2 then -1 else 0
  | 264 => ([115, 112, 111, 114, 116, 32, 112, 111, 105, 110, 116, 115, 32, 111, 114, 100, 101, 114, 32, 114, 101, 100, 111, 32, 108, 101, 103, 115, 32, 101, 118, 101, 114, 121, 32, 114, 101, 115, 116, 32, 102, 105, 101, 108, 100, 32, 115, 117, 98, 115, 32, 116, 97, 114, 103, 101, 116, 32, 119, 97, 108, 107, 111, 118, 101, 114, 32, 99, 97, 114, 100, 115, 32, 114, 101, 100, 32, 115, 101, 101, 100, 32] : List Int).getD n 0
  | 265 => ([102, 111, 111, 116, 98, 97, 108, 108, 32, 118, 111, 108, 108, 101, 121, 98, 97, 108, 108, 32, 116, 101, 110, 110, 105, 115, 32, 98, 97, 115, 101, 98, 97, 108, 108, 32] : List Int).getD n 0
  | 266 => ([100, 105, 102, 102, 32, 115, 99, 111, 114, 101, 100, 32, 119, 105, 110, 115, 32, 97, 119, 97, 121, 32, 104, 101, 97, 100, 32, 102, 97, 105, 114, 32, 108, 111, 116, 115, 32] : List Int).getD n 0
  | 267 => ([1, 1, 1, 1, 0, 2, 1, 1, 1, 0] : List Int).getD n 0
  | 268 => ([4, 30, 9, 6, 5, 25, 9, 9, 9, 999] : List Int).getD n 0
  | _ => 0
def Ts_ (g : Nat → Int32) : Zt := fun k i j => if i = 0 then (if j = -1 then (if sk_.contains k then 1 else 0) else if 0 ≤ j then (if k = 584 then (g j.toNat).toInt else if k = 191 ∧ j = 0 then 1 else sv_ k j.toNat) else if k = 190 ∧ j = -2 then 1 else 0) else 0
def sid_ : List (Nat × Int) := sk_.map fun k => (k, 0)
def pt_ : List Nat := [0, 0, 0, 0, 1, 2, 0, 3, 4, 5, 6, 7, 0, 8, 9, 0, 0, 10, 11, 12, 13, 0, 14, 15, 0, 16, 17, 18, 19, 0, 20, 21, 22, 23, 24, 25, 26, 27, 28, 29, 30, 31, 32, 33, 34, 35, 36, 0, 37, 38, 39, 40, 41, 42, 43, 44, 45, 0, 0, 0, 0, 0, 0, 0, 46, 47, 48, 49, 50, 51, 52, 53, 54, 0, 55, 0, 56, 57, 58, 0, 0, 59, 0, 0, 60, 0, 61, 0, 0, 62, 0, 63, 64, 65, 66, 0, 67, 68, 0, 0, 0, 69, 70, 0, 71, 72, 73, 0, 74, 75, 76, 77, 0, 0]
def sad_ (ad0 : Nat → Int → Nat) (xa qf : Nat → Nat) : Nat → Int → Nat := fun k i => if k < 100 then ad0 k i else if 200 ≤ k ∧ k < 400 then qf (pt_.getD (k - 200) 0) else xa k
theorem gd_o (l : List Int) (n : Nat) (h : l.length ≤ n) : l.getD n 0 = 0 := by
  simp [List.getD_eq_getElem?_getD, List.getElem?_eq_none h]
section STP
variable {g : Nat → Int32} {cA : Nat → ClassId} {ad0 : Nat → Int → Nat} {xa qf : Nat → Nat}
theorem ts_a (k : Nat) (i : Int) : al_ (Ts_ g) k i ↔ i = 0 ∧ sk_.contains k = true := by
  unfold al_ Ts_
  by_cases h : i = 0
  · rw [if_pos h, if_pos rfl]
    by_cases h2 : sk_.contains k = true
    · rw [if_pos h2]; exact ⟨fun _ => ⟨h, h2⟩, fun _ => rfl⟩
    · rw [if_neg h2]; exact ⟨fun z => absurd z (by decide), fun z => absurd z.2 h2⟩
  · rw [if_neg h]; exact ⟨fun z => absurd z (by decide), fun z => absurd z.1 h⟩
theorem ts_i (k : Nat) (i : Int) : al_ (Ts_ g) k i ↔ (k, i) ∈ sid_ := by
  rw [ts_a]
  unfold sid_
  rw [List.mem_map]
  constructor
  · rintro ⟨rfl, h⟩
    exact ⟨k, by simpa using h, rfl⟩
  · rintro ⟨k', h, e⟩
    cases e
    exact ⟨rfl, by simpa using h⟩
theorem ts_n (k : Nat) {i : Int} (h : i ≠ 0) (j : Int) : Ts_ g k i j = 0 := if_neg h
theorem ts_v {k : Nat} (hk : k ≠ 584 ∧ k ≠ 191) (n : Nat) : Ts_ g k 0 (n : Int) = sv_ k n := by
  unfold Ts_
  rw [if_pos rfl, if_neg (by omega), if_pos (by omega), if_neg hk.1, if_neg (fun z => hk.2 z.1)]
  rfl
theorem ts_w {k : Nat} (hk : k ≠ 584 ∧ k ≠ 191) {x : Int} (hx : 0 ≤ x) : Ts_ g k 0 x = sv_ k x.toNat := by
  obtain ⟨n, rfl⟩ : ∃ n : Nat, x = (n : Int) := ⟨x.toNat, by omega⟩
  rw [ts_v hk]
  rfl
theorem ts_g (n : Nat) : Ts_ g 584 0 (n : Int) = (g n).toInt := by
  unfold Ts_
  rw [if_pos rfl, if_neg (by omega), if_pos (by omega), if_pos rfl]
  rfl
def spk_ : List Nat := [105, 109, 111, 264, 265, 266, 267, 268]
theorem sv_o {k : Nat} (h : k ∉ spk_) (n : Nat) : sv_ k n = 0 := by
  unfold sv_
  split <;> first | rfl | exact absurd (by decide) h
theorem svb_264 (n : Nat) : 0 ≤ sv_ 264 n ∧ sv_ 264 n ≤ 122 := by
  show 0 ≤ ([115, 112, 111, 114, 116, 32, 112, 111, 105, 110, 116, 115, 32, 111, 114, 100, 101, 114, 32, 114, 101, 100, 111, 32, 108, 101, 103, 115, 32, 101, 118, 101, 114, 121, 32, 114, 101, 115, 116, 32, 102, 105, 101, 108, 100, 32, 115, 117, 98, 115, 32, 116, 97, 114, 103, 101, 116, 32, 119, 97, 108, 107, 111, 118, 101, 114, 32, 99, 97, 114, 100, 115, 32, 114, 101, 100, 32, 115, 101, 101, 100, 32] : List Int).getD n 0 ∧ ([115, 112, 111, 114, 116, 32, 112, 111, 105, 110, 116, 115, 32, 111, 114, 100, 101, 114, 32, 114, 101, 100, 111, 32, 108, 101, 103, 115, 32, 101, 118, 101, 114, 121, 32, 114, 101, 115, 116, 32, 102, 105, 101, 108, 100, 32, 115, 117, 98, 115, 32, 116, 97, 114, 103, 101, 116, 32, 119, 97, 108, 107, 111, 118, 101, 114, 32, 99, 97, 114, 100, 115, 32, 114, 101, 100, 32, 115, 101, 101, 100, 32] : List Int).getD n 0 ≤ 122
  by_cases h : n < 82
  · revert n; decide +kernel
  · rw [gd_o _ _ (by simpa using h)]; decide
theorem svb_265 (n : Nat) : 0 ≤ sv_ 265 n ∧ sv_ 265 n ≤ 122 := by
  show 0 ≤ ([102, 111, 111, 116, 98, 97, 108, 108, 32, 118, 111, 108, 108, 101, 121, 98, 97, 108, 108, 32, 116, 101, 110, 110, 105, 115, 32, 98, 97, 115, 101, 98, 97, 108, 108, 32] : List Int).getD n 0 ∧ ([102, 111, 111, 116, 98, 97, 108, 108, 32, 118, 111, 108, 108, 101, 121, 98, 97, 108, 108, 32, 116, 101, 110, 110, 105, 115, 32, 98, 97, 115, 101, 98, 97, 108, 108, 32] : List Int).getD n 0 ≤ 122
  by_cases h : n < 36
  · revert n; decide +kernel
  · rw [gd_o _ _ (by simpa using h)]; decide
theorem svb_266 (n : Nat) : 0 ≤ sv_ 266 n ∧ sv_ 266 n ≤ 122 := by
  show 0 ≤ ([100, 105, 102, 102, 32, 115, 99, 111, 114, 101, 100, 32, 119, 105, 110, 115, 32, 97, 119, 97, 121, 32, 104, 101, 97, 100, 32, 102, 97, 105, 114, 32, 108, 111, 116, 115, 32] : List Int).getD n 0 ∧ ([100, 105, 102, 102, 32, 115, 99, 111, 114, 101, 100, 32, 119, 105, 110, 115, 32, 97, 119, 97, 121, 32, 104, 101, 97, 100, 32, 102, 97, 105, 114, 32, 108, 111, 116, 115, 32] : List Int).getD n 0 ≤ 122
  by_cases h : n < 37
  · revert n; decide +kernel
  · rw [gd_o _ _ (by simpa using h)]; decide
theorem svb_267 (n : Nat) : 0 ≤ sv_ 267 n ∧ sv_ 267 n ≤ 2 := by
  show 0 ≤ ([1, 1, 1, 1, 0, 2, 1, 1, 1, 0] : List Int).getD n 0 ∧ ([1, 1, 1, 1, 0, 2, 1, 1, 1, 0] : List Int).getD n 0 ≤ 2
  by_cases h : n < 10
  · revert n; decide +kernel
  · rw [gd_o _ _ (by simpa using h)]; decide
theorem svb_268 (n : Nat) : 0 ≤ sv_ 268 n ∧ sv_ 268 n ≤ 999 := by
  show 0 ≤ ([4, 30, 9, 6, 5, 25, 9, 9, 9, 999] : List Int).getD n 0 ∧ ([4, 30, 9, 6, 5, 25, 9, 9, 9, 999] : List Int).getD n 0 ≤ 999
  by_cases h : n < 10
  · revert n; decide +kernel
  · rw [gd_o _ _ (by simpa using h)]; decide
theorem tz_ : ∀ k, k < 640 → (match ta_ k with | some q => decide (q.2.2.1 ≤ 0) && decide (0 ≤ q.2.2.2) | none => true) = true := by decide +kernel
theorem tz_b {k t : Nat} {n : Option Int} {lo hi : Int} (h : ta_ k = some (t, n, lo, hi)) : lo ≤ 0 ∧ 0 ≤ hi := by
  by_cases hk : k < 640
  · have := tz_ k hk
    rw [h] at this
    simpa using this
  · rw [ta_no (by omega)] at h
    cases h
def fz1_ (k : Nat) : Bool := (tf_ k).zipIdx.all fun q => decide (q.1.2.2.1 ≤ 0) && decide (0 ≤ q.1.2.2.2) && decide (q.1.2.2.1 ≤ sv_ k q.2) && decide (sv_ k q.2 ≤ q.1.2.2.2) && decide (-2147483648 ≤ q.1.2.2.1) && decide (q.1.2.2.2 ≤ 2147483647)
theorem fz1_a : ∀ k, k < 154 → fz1_ k = true := by decide +kernel
theorem fz1_s {k j c k' : Nat} {lo hi : Int} (h : (tf_ k)[j]? = some (c, k', lo, hi)) : (lo ≤ 0 ∧ 0 ≤ hi) ∧ (lo ≤ sv_ k j ∧ sv_ k j ≤ hi) ∧ -2147483648 ≤ lo ∧ hi ≤ 2147483647 := by
  have h1 := fz1_a k (tf_lt h)
  unfold fz1_ at h1
  rw [List.all_eq_true] at h1
  have h2 := h1 ((c, k', lo, hi), j) (by rw [List.mem_zipIdx_iff_getElem?]; exact h)
  simp only [Bool.and_eq_true, decide_eq_true_eq] at h2
  exact ⟨⟨h2.1.1.1.1.1, h2.1.1.1.1.2⟩, ⟨h2.1.1.1.2, h2.1.1.2⟩, h2.1.2, h2.2⟩
def fz2_ (k : Nat) : Bool := (tf_ k).zipIdx.all fun q => match q.1.1 with
  | 0 => true
  | 1 => sk_.contains q.1.2.1
  | 2 => sk_.contains q.1.2.1
  | 3 => sk_.contains q.1.2.1 && decide (sv_ k q.2 = 0)
  | 4 => decide (sv_ k q.2 = 0)
  | 5 => decide (sv_ k q.2 = 0)
  | _ => true
theorem fz2_a : ∀ k ∈ sk_, fz2_ k = true := by decide +kernel
theorem sk_ow : ∀ k ∈ sk_, ow_ k = none ∧ 100 ≤ k := by decide +kernel
theorem ta_G : ta_ 584 = some (1, some 400, -2147483648, 2147483647) := by decide +kernel
set_option maxRecDepth 100000 in
theorem ts_ok : ok_T (Ts_ g) := by
  refine ⟨fun k t n lo hi h i x hx => ?_, fun k j c k' lo hi h i => ?_, fun i => ?_, fun k i ha j c k' lo hi h => ?_, fun i x hx h => ?_, fun i x hx h => ?_, fun k i hk ha => ?_, fun k i o ho ha => ?_, fun i hi ha => ?_⟩
  · have hz := tz_b h
    by_cases hi0 : i = 0
    · subst hi0
      by_cases hg : k = 584
      · subst hg
        rw [ta_G] at h
        cases h
        obtain ⟨n9, rfl⟩ : ∃ n : Nat, x = (n : Int) := ⟨x.toNat, by omega⟩
        rw [ts_g]
        have a1 := (g n9).le_toInt
        have a2 := (g n9).toInt_lt
        omega
      · by_cases h1 : k = 191
        · subst h1
          rw [ta_191] at h
          cases h
        · rw [ts_w ⟨hg, h1⟩ hx]
          by_cases hs : k ∈ spk_
          · simp only [spk_, List.mem_cons, List.not_mem_nil, or_false] at hs
            rcases hs with rfl | rfl | rfl | rfl | rfl | rfl | rfl | rfl
            · have := ta_ge h; omega
            · have := ta_ge h; omega
            · have := ta_ge h; omega
            · rw [show ta_ 264 = some (1, some 82, 0, 122) from by decide +kernel] at h; cases h; exact svb_264 _
            · rw [show ta_ 265 = some (1, some 36, 0, 122) from by decide +kernel] at h; cases h; exact svb_265 _
            · rw [show ta_ 266 = some (1, some 37, 0, 122) from by decide +kernel] at h; cases h; exact svb_266 _
            · rw [show ta_ 267 = some (1, some 10, 0, 2) from by decide +kernel] at h; cases h; exact svb_267 _
            · rw [show ta_ 268 = some (1, some 10, 0, 999) from by decide +kernel] at h; cases h; exact svb_268 _
          · rw [sv_o hs]
            exact hz
    · rw [ts_n k hi0]
      exact hz
  · obtain ⟨h1, h2, h3⟩ := fz1_s h
    by_cases hi0 : i = 0
    · subst hi0
      have hlt := tf_lt h
      rw [ts_v ⟨by omega, by omega⟩]
      exact h2
    · rw [ts_n k hi0]
      exact h1
  · by_cases hi0 : i = 0
    · subst hi0
      have : Ts_ g 190 0 (-2) = 1 := rfl
      omega
    · rw [ts_n 190 hi0]
      omega
  · obtain ⟨rfl, hc⟩ := (ts_a k i).mp ha
    have hm : k ∈ sk_ := by simpa using hc
    have hlt := tf_lt h
    rw [ts_v ⟨by omega, by omega⟩]
    have h2 := fz2_a k hm
    unfold fz2_ at h2
    rw [List.all_eq_true] at h2
    have h3 := h2 ((c, k', lo, hi), j) (by rw [List.mem_zipIdx_iff_getElem?]; exact h)
    obtain ⟨b1, b2, b3, b4⟩ := fz1_s h
    match c, h3 with
    | 0, h3 => exact ⟨by omega, by omega⟩
    | 1, h3 => exact Or.inr ((ts_a k' 0).mpr ⟨rfl, h3⟩)
    | 2, h3 => exact Or.inr ((ts_a k' 0).mpr ⟨rfl, h3⟩)
    | 3, h3 =>
      simp only [Bool.and_eq_true, decide_eq_true_eq] at h3
      rw [h3.2]
      exact Or.inr ((ts_a k' 0).mpr ⟨rfl, h3.1⟩)
    | 4, h3 =>
      simp only [decide_eq_true_eq] at h3
      rw [h3]
      exact trivial
    | 5, h3 =>
      simp only [decide_eq_true_eq] at h3
      rw [h3]
      exact trivial
    | c + 6, h3 => exact trivial
  · exact absurd (show Ts_ g 521 i x = 0 from by
      by_cases hi0 : i = 0
      · subst hi0
        rw [ts_w ⟨by decide, by decide⟩ hx, sv_o (by decide)]
      · exact ts_n 521 hi0 x) h
  · exact absurd (show Ts_ g 523 i x = 0 from by
      by_cases hi0 : i = 0
      · subst hi0
        rw [ts_w ⟨by decide, by decide⟩ hx, sv_o (by decide)]
      · exact ts_n 523 hi0 x) h
  · obtain ⟨rfl, hc⟩ := (ts_a k i).mp ha
    have := (sk_ow k (by simpa using hc)).2
    omega
  · obtain ⟨rfl, hc⟩ := (ts_a k i).mp ha
    have := (sk_ow k (by simpa using hc)).1
    rw [this] at ho
    cases ho
  · obtain ⟨rfl, hc⟩ := (ts_a 190 i).mp ha
    have : Ts_ g 191 0 0 = 1 := rfl
    omega
end STP

