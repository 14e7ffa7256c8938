theorem rlm_v {f : Int → Int} {w : Int} (h0 : 0 ≤ w) (h1 : w < 16) : rlm_ f w = f w := if_pos ⟨h0, h1⟩
theorem rlm_p {T : Zt} {m : Int} : RLP_ T m (rlm_ (fun w => T 401 (T 103 m 0) w)) := fun w a b => (rlm_v (f := fun w => T 401 (T 103 m 0) w) a b).symm
theorem rlm_r {T : Zt} {m : Int} : RLR_ T m (rlm_ (fun w => T 205 0 (23 * T 230 0 m + w))) := fun w a b => (rlm_v (f := fun w => T 205 0 (23 * T 230 0 m + w)) a b).symm
