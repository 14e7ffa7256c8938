abbrev po_X11_turnSides_e (T : Zt) (ru : Int → Int) (m : Int) : Zt → Option Zv → Prop := fun T' r => r = none ∧ fr_ [(246, []), (235, [])] T T' ∧ (FM_ T' ∧ ro9_ T T' m ∧ rp9_ T' m = tsR_ ru (rp9_ T m))
set_option maxHeartbeats 4000000 in
theorem ct_X11_turnSides_e {T : Zt} {ru : Int → Int} {m : Int} (h1 : 0 ≤ m ∧ m < 400) (hfm : FM_ T) (hrl : RLR_ T m ru) : Ct_ yX11_turnSides zX11_turnSides T [vR 111 0, vI m] (po_X11_turnSides_e T ru m) := sorry
abbrev po_X11_out_e (T : Zt) (ru : Int → Int) (m : Int) : Zt → Option Zv → Prop := fun T' r => r = none ∧ fr_ [(246, []), (235, [])] T T' ∧ (FM_ T' ∧ ro9_ T T' m ∧ rp9_ T' m = otR_ ru (rp9_ T m))
set_option maxHeartbeats 4000000 in
theorem ct_X11_out_e {T : Zt} {ru : Int → Int} {m : Int} (h1 : 0 ≤ m ∧ m < 400) (hfm : FM_ T) (hrl : RLR_ T m ru) : Ct_ yX11_out zX11_out T [vR 111 0, vI m] (po_X11_out_e T ru m) := sorry
abbrev po_X11_advance_e (T : Zt) (ru : Int → Int) (bu : Int) (m s b v : Int) : Zt → Option Zv → Prop := fun T' r => r = none ∧ fr_ [(246, []), (236, []), (237, []), (235, [])] T T' ∧ (FM_ T' ∧ SO_ T T' m ∧ SB1_ T' m (bu + 4) ∧ ro9_ T T' m ∧ rp9_ T' m = avR_ ru (rp9_ T m) s b v)
set_option maxHeartbeats 4000000 in
theorem ct_X11_advance_e {T : Zt} {ru : Int → Int} {bu : Int} {m s b v : Int} (h1 : 0 ≤ m ∧ m < 400) (hfm : FM_ T) (hv : 0 ≤ v ∧ v ≤ 4) (hrl : RLR_ T m ru) (hbu : 9 ≤ bu ∧ bu ≤ 19000) (hsb : SB1_ T m bu) : Ct_ yX11_advance zX11_advance T [vR 111 0, vI m, vI s, vI b, vI v] (po_X11_advance_e T ru bu m s b v) := sorry
abbrev po_X11_hit_e (T : Zt) (ru : Int → Int) (bu : Int) (m s v : Int) : Zt → Option Zv → Prop := fun T' r => r = none ∧ fr_ [(246, []), (236, []), (237, []), (235, [])] T T' ∧ (FM_ T' ∧ SO_ T T' m ∧ SB1_ T' m (bu + 4) ∧ ro9_ T T' m ∧ rp9_ T' m = htR_ ru (rp9_ T m) s v)
set_option maxHeartbeats 4000000 in
theorem ct_X11_hit_e {T : Zt} {ru : Int → Int} {bu : Int} {m s v : Int} (h1 : 0 ≤ m ∧ m < 400) (hfm : FM_ T) (hrl : RLR_ T m ru) (hbu : 9 ≤ bu ∧ bu ≤ 19000) (hsb : SB1_ T m bu) : Ct_ yX11_hit zX11_hit T [vR 111 0, vI m, vI s, vI v] (po_X11_hit_e T ru bu m s v) := sorry
abbrev po_X11_walk_e (T : Zt) (ru : Int → Int) (bu : Int) (m s : Int) : Zt → Option Zv → Prop := fun T' r => r = none ∧ fr_ [(246, []), (236, []), (237, []), (235, [])] T T' ∧ (FM_ T' ∧ SO_ T T' m ∧ SB1_ T' m (bu + 4) ∧ ro9_ T T' m ∧ rp9_ T' m = wkR_ ru (rp9_ T m) s)
set_option maxHeartbeats 4000000 in
theorem ct_X11_walk_e {T : Zt} {ru : Int → Int} {bu : Int} {m s : Int} (h1 : 0 ≤ m ∧ m < 400) (hfm : FM_ T) (hrl : RLR_ T m ru) (hbu : 9 ≤ bu ∧ bu ≤ 19000) (hsb : SB1_ T m bu) : Ct_ yX11_walk zX11_walk T [vR 111 0, vI m, vI s] (po_X11_walk_e T ru bu m s) := sorry
abbrev po_X11_playBaseball_e (T : Zt) (ru : Int → Int) (bu : Int) (m k s v : Int) : Zt → Option Zv → Prop := fun T' r => r = none ∧ fr_ [(246, []), (236, []), (237, []), (235, [])] T T' ∧ (FM_ T' ∧ SO_ T T' m ∧ SB1_ T' m (bu + 4) ∧ ro9_ T T' m ∧ rp9_ T' m = pbR_ ru (rp9_ T m) k s v)
set_option maxHeartbeats 4000000 in
theorem ct_X11_playBaseball_e {T : Zt} {ru : Int → Int} {bu : Int} {m k s v : Int} (h1 : 0 ≤ m ∧ m < 400) (hfm : FM_ T) (hrl : RLR_ T m ru) (hbu : 9 ≤ bu ∧ bu ≤ 19000) (hsb : SB1_ T m bu) : Ct_ yX11_playBaseball zX11_playBaseball T [vR 111 0, vI m, vI k, vI s, vI v] (po_X11_playBaseball_e T ru bu m k s v) := sorry
abbrev po_X11_play_e (T : Zt) (ru : Int → Int) (bu : Int) (m k s p q : Int) : Zt → Option Zv → Prop := fun T' r => r = none ∧ fr_ [(244, []), (241, []), (242, []), (243, []), (245, []), (246, []), (236, []), (237, []), (235, [])] T T' ∧ (FM_ T' ∧ SO_ T T' m ∧ SB1_ T' m (bu + 4) ∧ ro9_ T T' m ∧ rp9_ T' m = plR_ ru (rp9_ T m) m k s p q)
set_option maxHeartbeats 4000000 in
theorem ct_X11_play_e {T : Zt} {ru : Int → Int} {bu : Int} {m k s p q : Int} (h1 : 0 ≤ m ∧ m < T 111 0 29) (hmc : MC_ T) (hri : RI_ T) (hfm : FM_ T) (hl : LW_ T m k s p q) (hrl : RLR_ T m ru) (hbu : 9 ≤ bu ∧ bu ≤ 19000) (hsb : SB1_ T m bu) : Ct_ yX11_play zX11_play T [vR 111 0, vI m, vI k, vI s, vI p, vI q] (po_X11_play_e T ru bu m k s p q) := sorry
