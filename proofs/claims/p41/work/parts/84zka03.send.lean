abbrev po_X11_sendOff_e (T : Zt) (ru : Int → Int) (bu : Int) (m s sl : Int) : Zt → Option Zv → Prop := fun T' r => r = none ∧ fr_ [(243, []), (241, []), (245, []), (244, []), (235, []), (236, []), (237, [])] T T' ∧ (FM_ T' ∧ SO_ T T' m ∧ SB1_ T' m (bu) ∧ ro9_ T T' m ∧ rp9_ T' m = soR_ ru (rp9_ T m) m s sl)
set_option maxHeartbeats 4000000 in
theorem ct_X11_sendOff_e {T : Zt} {ru : Int → Int} {bu : Int} {m s sl : Int} (h1 : 0 ≤ m ∧ m < T 111 0 29) (hs : 0 ≤ s ∧ s ≤ 1) (h3 : 0 ≤ sl ∧ sl < 8000 ∧ 20 * m ≤ sl ∧ sl < 20 * m + 20) (hmc : MC_ T) (hri : RI_ T) (hfm : FM_ T) (hrl : RLR_ T m ru) (hbu : 9 ≤ bu) (hsb : SB1_ T m bu) : Ct_ yX11_sendOff zX11_sendOff T [vR 111 0, vI m, vI s, vI sl] (po_X11_sendOff_e T ru bu m s sl) := sorry
abbrev po_X11_substitute_e (T : Zt) (m s p q : Int) : Zt → Option Zv → Prop := fun T' r => r = none ∧ fr_ [(245, []), (241, []), (246, [])] T T' ∧ (ro9_ T T' m ∧ rp9_ T' m = suR_ (rp9_ T m) m s p q)
set_option maxHeartbeats 4000000 in
theorem ct_X11_substitute_e {T : Zt} {m s p q : Int} (h1 : 0 ≤ m ∧ m < 400) (hs : 0 ≤ s ∧ s ≤ 1) (hs1 : SL_ T (2 * m + s) p) (hs2 : SL_ T (2 * m + s) q) : Ct_ yX11_substitute zX11_substitute T [vR 111 0, vI m, vI s, vI p, vI q] (po_X11_substitute_e T m s p q) := sorry
abbrev po_X11_rotate_e (T : Zt) (m : Int) (s : Int) (sh : Int) : Zt → Option Zv → Prop := fun T' r => r = none ∧ fr_ [(245, [])] T T' ∧ (ro9_ T T' m ∧ rp9_ T' m = rtR_ (rp9_ T m) s)
set_option maxHeartbeats 4000000 in
theorem ct_X11_rotate_e {T : Zt} {m : Int} {s : Int} {sh : Int} (h1 : 0 ≤ sh ∧ sh < 800) (h2 : 1 ≤ T 244 0 sh) (hsh : sh = 2 * m + s ∧ 0 ≤ s ∧ s ≤ 1) : Ct_ yX11_rotate zX11_rotate T [vR 111 0, vI sh] (po_X11_rotate_e T m s sh) := sorry
