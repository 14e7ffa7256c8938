/-- the sheets of a match -/
def SHM_ (T : Zt) (m : Int) : Prop :=
  (∀ t, 0 ≤ t → t ≤ 1 → T 239 0 (2 * m + t) = T 449 m t ∧ 0 ≤ T 449 m t ∧ T 449 m t ≤ 10) ∧
  (∀ t x, 0 ≤ t → t ≤ 1 → t * 10 ≤ x → x < t * 10 + T 449 m t → T 240 0 (20 * m + x) = T 448 m x) ∧
  ∀ t x y, 0 ≤ t → t ≤ 1 → t * 10 ≤ x → x < t * 10 + T 449 m t → t * 10 ≤ y → y < t * 10 + T 449 m t → T 448 m x = T 448 m y → x = y
/-- a match that is told -/
def PAA_ (T : Zt) (m : Int) : Prop := T 102 m 6 = -1 ∧ T 102 m 10 = 0 ∧ T 235 0 m = 0 ∧ T 236 0 m = 0 ∧ T 237 0 m = 0 ∧ T 254 0 m = 0 ∧ T 256 0 m = 0
/-- a match that was walked over -/
def PBB_ (T : Zt) (m : Int) : Prop := T 102 m 10 = 0 ∧ T 235 0 m = 3 ∧ ((T 102 m 6 = 0 ∧ T 236 0 m = 0 ∧ T 237 0 m = T 401 (T 102 m 0) 12) ∨ (T 102 m 6 = 1 ∧ T 236 0 m = T 401 (T 102 m 0) 12 ∧ T 237 0 m = 0)) ∧ T 254 0 m = 0 ∧ T 256 0 m = 0
/-- a match that is played -/
def PCC_ (T : Zt) (m : Int) : Prop := T 102 m 6 = -1 ∧ T 102 m 10 ≠ 0 ∧ T 103 m 0 = T 102 m 0 ∧ (∃ n, n ≤ 3 * (T 103 m 15 + T 103 m 17) ∧ SI_ m n (ruH_ T m) (rp9_ T m) (rs9_ T m)) ∧ FN_ (rs9_ T m) ∧ (∀ t, 0 ≤ t → t ≤ 1 → T 401 (T 102 m 0) 9 ≤ T 449 m t) ∧ hr9_ T (T 103 m 14) (T 103 m 15).toNat = rw9_ T m ∧ T 103 m 17 = T 256 0 m
def PM_ (T : Zt) (m : Int) : Prop := PAA_ T m ∨ PBB_ T m ∨ PCC_ T m
/-- every match alike on both sides -/
def PLR_ (T : Zt) : Prop := (∀ m, 0 ≤ m → m < T 106 0 4 → SHM_ T m ∧ PM_ T m) ∧ ∀ m, T 111 0 29 ≤ m → m < 400 → T 236 0 m = 0 ∧ T 237 0 m = 0
/-- the logs of the plays are rows of their own -/
def LDR_ (T : Zt) : Prop := (T 104 0 4 < T 191 0 0 ∧ T 109 0 15 ≤ T 191 0 0) ∧ ∀ m, 0 ≤ m → m < T 106 0 4 → T 102 m 10 ≠ 0 → (T 103 m 14 ≠ T 103 m 16 ∧ T 103 m 14 ≠ T 104 0 4 ∧ T 103 m 14 + 1 ≠ T 109 0 15) ∧ ∀ j, 0 ≤ j → j < T 106 0 4 → T 102 j 10 ≠ 0 → j ≠ m → T 103 m 14 ≠ T 103 j 14 ∧ T 103 m 14 ≠ T 103 j 16
def RCR_ (T : Zt) : Prop := T 106 0 5 = T 111 0 47
def DAR_ (T : Zt) : Prop := ∀ m, 0 ≤ m → m < T 106 0 4 → T 102 m 5 = T 234 0 m
def MVR_ (T : Zt) : Prop := T 106 0 12 = T 111 0 75 ∧ ∀ k, 0 ≤ k → k < T 106 0 12 → T 531 0 k = T 274 0 k
def CNO_ (T : Zt) : Prop := ∀ c, 0 ≤ c → c < T 106 0 2 → T 100 c 0 = c
-- cells of the reference's match
theorem rp_35 {T : Zt} {m : Int} : rp9_ T m 103 3 = T 235 0 m := rp_v rfl rfl rfl
theorem rp_36 {T : Zt} {m : Int} : rp9_ T m 468 0 = T 236 0 m := rp_v rfl rfl rfl
theorem rp_37 {T : Zt} {m : Int} : rp9_ T m 468 1 = T 237 0 m := rp_v rfl rfl rfl
theorem rp_39 {T : Zt} {m t : Int} (h0 : 0 ≤ t) (h1 : t ≤ 1) : rp9_ T m 449 t = T 239 0 (2 * m + t) := rp_v (dm_449 ⟨h0, h1⟩) rfl rfl
theorem rp_40 {T : Zt} {m x : Int} (h0 : 0 ≤ x) (h1 : x ≤ 19) : rp9_ T m 448 x = T 240 0 (20 * m + x) := rp_v (dm_448 ⟨h0, h1⟩) rfl rfl
theorem rpe_ {T T' : Zt} {m : Int} (h : rp9_ T' m = rp9_ T m) : T' 235 0 m = T 235 0 m ∧ T' 236 0 m = T 236 0 m ∧ T' 237 0 m = T 237 0 m := by
  rw [← rp_35 (T := T'), ← rp_36 (T := T'), ← rp_37 (T := T'), h, rp_35, rp_36, rp_37]
  exact ⟨rfl, rfl, rfl⟩
