def SN_ (T : Zt) : Prop := ∀ j, 0 ≤ j → j < 36 → 0 ≤ T 284 0 j ∧ T 284 0 j ≤ 2147483647
theorem sb_a {T : Zt} {b : Int} (h : SA_ T b) (hb : b ≤ 1000000000) : SB_ T := fun x y i a1 a2 a3 a4 a5 a6 => by
  have p := h (3 * x + i) (by omega) (by omega)
  have q := h (3 * y + i) (by omega) (by omega)
  omega
theorem sb_n {T : Zt} (h : SN_ T) : SB_ T := fun x y i a1 a2 a3 a4 a5 a6 => by
  have p := h (3 * x + i) (by omega) (by omega)
  have q := h (3 * y + i) (by omega) (by omega)
  omega
theorem sa_v {T T1 : Zt} {b i v : Int} (h : SA_ T b) (e : T1 = up_ T 284 0 i v) (hv : -b ≤ v ∧ v ≤ b) : SA_ T1 b := fun j a c => by
  by_cases z : j = i
  · rw [z, up_f e]; exact hv
  · rw [up_g e (fun q => z q.2.2)]; exact h j a c
theorem sn_v {T T1 : Zt} {i v : Int} (h : SN_ T) (e : T1 = up_ T 284 0 i v) (hv : 0 ≤ v ∧ v ≤ 2147483647) : SN_ T1 := fun j a c => by
  by_cases z : j = i
  · rw [z, up_f e]; exact hv
  · rw [up_g e (fun q => z q.2.2)]; exact h j a c
abbrev cX11_say : ByteArray := prog_13_method_87_code
def yX11_say : MethodName := ⟨RX11, "say", "(III)V"⟩
def zX11_say : Zm := (RX11, cX11_say, 7, none, { frames := 2, cells := 0, slots := 0, locals := 48 })
theorem bk_X11_say_285 : ck_ fX11 none cX11_say 285 [.iinc 5 1, .goto 59] 291 = true := qck_r (by decide) (by decide +kernel)
theorem bs_X11_say_285 {P : Zt → Option Zv → Prop} (K : Int → Zl → List Zv → Zt → Prop) : sx_ K P [.iinc 5 1, .goto 59] 291 = x_iinc 5 1 (x_goto 59 K) := ((xe_iinc 5 1).trans (congrArg (x_iinc 5 1) (xe_goto 59)))
theorem bk_X11_say_59 : ck_ fX11 none cX11_say 59 [.iload 5, .aload 0, .tableswitch 0 11 12 #[], .if_icmp .ge 291, .iconst 9, .iload 5, .imul, .istore 6, .iload 4] 77 = true := qck_r (by decide) (by decide +kernel)
theorem bs_X11_say_59 {P : Zt → Option Zv → Prop} (K : Int → Zl → List Zv → Zt → Prop) : sx_ K P [.iload 5, .aload 0, .tableswitch 0 11 12 #[], .if_icmp .ge 291, .iconst 9, .iload 5, .imul, .istore 6, .iload 4] 77 = x_iload 5 (x_aload 0 (x_g0 111 12 0 12 (x_if_icmp .ge 291 K (x_iconst 9 (x_iload 5 (x_imul (x_istore 6 (x_iload 4 (K 77))))))))) := ((xe_iload 5).trans (congrArg (x_iload 5) ((xe_aload 0).trans (congrArg (x_aload 0) ((xe_g0 (kk := 111) rfl tl_11_12).trans (congrArg (x_g0 111 12 0 12) ((xe_if_icmp .ge 291).trans (congrArg (x_if_icmp .ge 291 K) ((xe_iconst 9).trans (congrArg (x_iconst 9) ((xe_iload 5).trans (congrArg (x_iload 5) ((xe_imul).trans (congrArg (x_imul) ((xe_istore 6).trans (congrArg (x_istore 6) ((xe_iload 4).trans (congrArg (x_iload 4) xe_nil))))))))))))))))))
theorem bk_X11_say_291 : ck_ fX11 none cX11_say 291 [.return_] 292 = true := qck_r (by decide) (by decide +kernel)
theorem bs_X11_say_291 {P : Zt → Option Zv → Prop} (K : Int → Zl → List Zv → Zt → Prop) : sx_ K P [.return_] 292 = x_return_ P := (xe_return_)
theorem ds_X11_say_77 : decode cX11_say 77 = .ok (.tableswitch 183 (-1) 5 #[43, 65, 96, 117, 138, 183, 160], 43) := by decide +kernel
theorem bk_X11_say_120 : ck_ fX11 none cX11_say 120 [.aload 0, .tableswitch 0 11 84 #[], .iconst 3, .iload 5, .imul, .aload 0, .tableswitch 0 11 76 #[], .iload 6, .iconst 6, .iadd, .iaload, .iastore, .goto 285] 142 = true := qck_r (by decide) (by decide +kernel)
theorem bs_X11_say_120 {P : Zt → Option Zv → Prop} (K : Int → Zl → List Zv → Zt → Prop) : sx_ K P [.aload 0, .tableswitch 0 11 84 #[], .iconst 3, .iload 5, .imul, .aload 0, .tableswitch 0 11 76 #[], .iload 6, .iconst 6, .iadd, .iaload, .iastore, .goto 285] 142 = x_aload 0 (x_g1 111 284 (x_iconst 3 (x_iload 5 (x_imul (x_aload 0 (x_g1 111 276 (x_iload 6 (x_iconst 6 (x_iadd (x_iaload (x_iastore (x_goto 285 K)))))))))))) := ((xe_aload 0).trans (congrArg (x_aload 0) ((xe_g1 (kk := 111) rfl tl_11_84).trans (congrArg (x_g1 111 284) ((xe_iconst 3).trans (congrArg (x_iconst 3) ((xe_iload 5).trans (congrArg (x_iload 5) ((xe_imul).trans (congrArg (x_imul) ((xe_aload 0).trans (congrArg (x_aload 0) ((xe_g1 (kk := 111) rfl tl_11_76).trans (congrArg (x_g1 111 276) ((xe_iload 6).trans (congrArg (x_iload 6) ((xe_iconst 6).trans (congrArg (x_iconst 6) ((xe_iadd).trans (congrArg (x_iadd) ((xe_iaload).trans (congrArg (x_iaload) ((xe_iastore).trans (congrArg (x_iastore) (xe_goto 285)))))))))))))))))))))))))
theorem bk_X11_say_142 : ck_ fX11 none cX11_say 142 [.aload 0, .tableswitch 0 11 84 #[], .iconst 3, .iload 5, .imul, .aload 0, .tableswitch 0 11 76 #[], .iload 6, .iconst 4, .iadd, .iaload, .aload 0, .tableswitch 0 11 76 #[], .iload 6, .iconst 5, .iadd, .iaload, .isub, .iastore, .goto 285] 173 = true := qck_r (by decide) (by decide +kernel)
theorem bs_X11_say_142 {P : Zt → Option Zv → Prop} (K : Int → Zl → List Zv → Zt → Prop) : sx_ K P [.aload 0, .tableswitch 0 11 84 #[], .iconst 3, .iload 5, .imul, .aload 0, .tableswitch 0 11 76 #[], .iload 6, .iconst 4, .iadd, .iaload, .aload 0, .tableswitch 0 11 76 #[], .iload 6, .iconst 5, .iadd, .iaload, .isub, .iastore, .goto 285] 173 = x_aload 0 (x_g1 111 284 (x_iconst 3 (x_iload 5 (x_imul (x_aload 0 (x_g1 111 276 (x_iload 6 (x_iconst 4 (x_iadd (x_iaload (x_aload 0 (x_g1 111 276 (x_iload 6 (x_iconst 5 (x_iadd (x_iaload (x_isub (x_iastore (x_goto 285 K))))))))))))))))))) := ((xe_aload 0).trans (congrArg (x_aload 0) ((xe_g1 (kk := 111) rfl tl_11_84).trans (congrArg (x_g1 111 284) ((xe_iconst 3).trans (congrArg (x_iconst 3) ((xe_iload 5).trans (congrArg (x_iload 5) ((xe_imul).trans (congrArg (x_imul) ((xe_aload 0).trans (congrArg (x_aload 0) ((xe_g1 (kk := 111) rfl tl_11_76).trans (congrArg (x_g1 111 276) ((xe_iload 6).trans (congrArg (x_iload 6) ((xe_iconst 4).trans (congrArg (x_iconst 4) ((xe_iadd).trans (congrArg (x_iadd) ((xe_iaload).trans (congrArg (x_iaload) ((xe_aload 0).trans (congrArg (x_aload 0) ((xe_g1 (kk := 111) rfl tl_11_76).trans (congrArg (x_g1 111 276) ((xe_iload 6).trans (congrArg (x_iload 6) ((xe_iconst 5).trans (congrArg (x_iconst 5) ((xe_iadd).trans (congrArg (x_iadd) ((xe_iaload).trans (congrArg (x_iaload) ((xe_isub).trans (congrArg (x_isub) ((xe_iastore).trans (congrArg (x_iastore) (xe_goto 285)))))))))))))))))))))))))))))))))))))))
theorem bk_X11_say_173 : ck_ fX11 none cX11_say 173 [.aload 0, .tableswitch 0 11 84 #[], .iconst 3, .iload 5, .imul, .aload 0, .tableswitch 0 11 76 #[], .iload 6, .iconst 4, .iadd, .iaload, .iastore, .goto 285] 194 = true := qck_r (by decide) (by decide +kernel)
theorem bs_X11_say_173 {P : Zt → Option Zv → Prop} (K : Int → Zl → List Zv → Zt → Prop) : sx_ K P [.aload 0, .tableswitch 0 11 84 #[], .iconst 3, .iload 5, .imul, .aload 0, .tableswitch 0 11 76 #[], .iload 6, .iconst 4, .iadd, .iaload, .iastore, .goto 285] 194 = x_aload 0 (x_g1 111 284 (x_iconst 3 (x_iload 5 (x_imul (x_aload 0 (x_g1 111 276 (x_iload 6 (x_iconst 4 (x_iadd (x_iaload (x_iastore (x_goto 285 K)))))))))))) := ((xe_aload 0).trans (congrArg (x_aload 0) ((xe_g1 (kk := 111) rfl tl_11_84).trans (congrArg (x_g1 111 284) ((xe_iconst 3).trans (congrArg (x_iconst 3) ((xe_iload 5).trans (congrArg (x_iload 5) ((xe_imul).trans (congrArg (x_imul) ((xe_aload 0).trans (congrArg (x_aload 0) ((xe_g1 (kk := 111) rfl tl_11_76).trans (congrArg (x_g1 111 276) ((xe_iload 6).trans (congrArg (x_iload 6) ((xe_iconst 4).trans (congrArg (x_iconst 4) ((xe_iadd).trans (congrArg (x_iadd) ((xe_iaload).trans (congrArg (x_iaload) ((xe_iastore).trans (congrArg (x_iastore) (xe_goto 285)))))))))))))))))))))))))
theorem bk_X11_say_194 : ck_ fX11 none cX11_say 194 [.aload 0, .tableswitch 0 11 84 #[], .iconst 3, .iload 5, .imul, .aload 0, .tableswitch 0 11 76 #[], .iload 6, .iconst 1, .iadd, .iaload, .iastore, .goto 285] 215 = true := qck_r (by decide) (by decide +kernel)
theorem bs_X11_say_194 {P : Zt → Option Zv → Prop} (K : Int → Zl → List Zv → Zt → Prop) : sx_ K P [.aload 0, .tableswitch 0 11 84 #[], .iconst 3, .iload 5, .imul, .aload 0, .tableswitch 0 11 76 #[], .iload 6, .iconst 1, .iadd, .iaload, .iastore, .goto 285] 215 = x_aload 0 (x_g1 111 284 (x_iconst 3 (x_iload 5 (x_imul (x_aload 0 (x_g1 111 276 (x_iload 6 (x_iconst 1 (x_iadd (x_iaload (x_iastore (x_goto 285 K)))))))))))) := ((xe_aload 0).trans (congrArg (x_aload 0) ((xe_g1 (kk := 111) rfl tl_11_84).trans (congrArg (x_g1 111 284) ((xe_iconst 3).trans (congrArg (x_iconst 3) ((xe_iload 5).trans (congrArg (x_iload 5) ((xe_imul).trans (congrArg (x_imul) ((xe_aload 0).trans (congrArg (x_aload 0) ((xe_g1 (kk := 111) rfl tl_11_76).trans (congrArg (x_g1 111 276) ((xe_iload 6).trans (congrArg (x_iload 6) ((xe_iconst 1).trans (congrArg (x_iconst 1) ((xe_iadd).trans (congrArg (x_iadd) ((xe_iaload).trans (congrArg (x_iaload) ((xe_iastore).trans (congrArg (x_iastore) (xe_goto 285)))))))))))))))))))))))))
theorem bk_X11_say_215 : ck_ fX11 none cX11_say 215 [.aload 0, .tableswitch 0 11 84 #[], .iconst 3, .iload 5, .imul, .aload 0, .tableswitch 0 11 76 #[], .iload 6, .iconst 7, .iadd, .iaload, .iastore, .goto 285] 237 = true := qck_r (by decide) (by decide +kernel)
theorem bs_X11_say_215 {P : Zt → Option Zv → Prop} (K : Int → Zl → List Zv → Zt → Prop) : sx_ K P [.aload 0, .tableswitch 0 11 84 #[], .iconst 3, .iload 5, .imul, .aload 0, .tableswitch 0 11 76 #[], .iload 6, .iconst 7, .iadd, .iaload, .iastore, .goto 285] 237 = x_aload 0 (x_g1 111 284 (x_iconst 3 (x_iload 5 (x_imul (x_aload 0 (x_g1 111 276 (x_iload 6 (x_iconst 7 (x_iadd (x_iaload (x_iastore (x_goto 285 K)))))))))))) := ((xe_aload 0).trans (congrArg (x_aload 0) ((xe_g1 (kk := 111) rfl tl_11_84).trans (congrArg (x_g1 111 284) ((xe_iconst 3).trans (congrArg (x_iconst 3) ((xe_iload 5).trans (congrArg (x_iload 5) ((xe_imul).trans (congrArg (x_imul) ((xe_aload 0).trans (congrArg (x_aload 0) ((xe_g1 (kk := 111) rfl tl_11_76).trans (congrArg (x_g1 111 276) ((xe_iload 6).trans (congrArg (x_iload 6) ((xe_iconst 7).trans (congrArg (x_iconst 7) ((xe_iadd).trans (congrArg (x_iadd) ((xe_iaload).trans (congrArg (x_iaload) ((xe_iastore).trans (congrArg (x_iastore) (xe_goto 285)))))))))))))))))))))))))
theorem bk_X11_say_260 : ck_ fX11 none cX11_say 260 [.aload 0, .tableswitch 0 11 84 #[], .iconst 3, .iload 5, .imul, .aload 0, .iload 1, .iconst 15] 272 = true := qck_r (by decide) (by decide +kernel)
theorem bs_X11_say_260 {P : Zt → Option Zv → Prop} (K : Int → Zl → List Zv → Zt → Prop) : sx_ K P [.aload 0, .tableswitch 0 11 84 #[], .iconst 3, .iload 5, .imul, .aload 0, .iload 1, .iconst 15] 272 = x_aload 0 (x_g1 111 284 (x_iconst 3 (x_iload 5 (x_imul (x_aload 0 (x_iload 1 (x_iconst 15 (K 272)))))))) := ((xe_aload 0).trans (congrArg (x_aload 0) ((xe_g1 (kk := 111) rfl tl_11_84).trans (congrArg (x_g1 111 284) ((xe_iconst 3).trans (congrArg (x_iconst 3) ((xe_iload 5).trans (congrArg (x_iload 5) ((xe_imul).trans (congrArg (x_imul) ((xe_aload 0).trans (congrArg (x_aload 0) ((xe_iload 1).trans (congrArg (x_iload 1) ((xe_iconst 15).trans (congrArg (x_iconst 15) xe_nil))))))))))))))))
theorem bk_X11_say_275 : ck_ fX11 none cX11_say 275 [.aload 0, .tableswitch 0 11 85 #[], .iload 5] 281 = true := qck_r (by decide) (by decide +kernel)
theorem bs_X11_say_275 {P : Zt → Option Zv → Prop} (K : Int → Zl → List Zv → Zt → Prop) : sx_ K P [.aload 0, .tableswitch 0 11 85 #[], .iload 5] 281 = x_aload 0 (x_g0 111 85 0 4095 (x_iload 5 (K 281))) := ((xe_aload 0).trans (congrArg (x_aload 0) ((xe_g0 (kk := 111) rfl tl_11_85).trans (congrArg (x_g0 111 85 0 4095) ((xe_iload 5).trans (congrArg (x_iload 5) xe_nil))))))
set_option maxRecDepth 100000 in
theorem cl_X11_505 : cs_ RX11 505 yX11_lot zX11_lot 3 := ⟨gi_S (lw_b9 198 (by decide +kernel) rfl : Cond.methodLink RX11 505 yX11_lot ∈ lw_g) (lw_b9 199 (by decide +kernel) rfl : Cond.static yX11_lot ∈ lw_g) (lw_b1 10 (by decide +kernel) rfl : Cond.initialized yX11_lot.cls ∈ lw_g) (lw_b9 200 rfl rfl : Cond.code yX11_lot cX11_lot 5 (some .int) ∈ lw_g), ⟨by decide, by decide, by decide +kernel⟩⟩
theorem bk_X11_say_284 : ck_ fX11 none cX11_say 284 [.iastore] 285 = true := qck_r (by decide) (by decide +kernel)
theorem bs_X11_say_284 {P : Zt → Option Zv → Prop} (K : Int → Zl → List Zv → Zt → Prop) : sx_ K P [.iastore] 285 = x_iastore (K 285) := ((xe_iastore).trans (congrArg (x_iastore) xe_nil))
theorem bk_X11_say_237 : ck_ fX11 none cX11_say 237 [.aload 0, .tableswitch 0 11 84 #[], .iconst 3, .iload 5, .imul, .aload 0, .tableswitch 0 11 76 #[], .iload 6, .iconst 8, .iadd, .iaload, .ineg, .iastore, .goto 285] 260 = true := qck_r (by decide) (by decide +kernel)
theorem bs_X11_say_237 {P : Zt → Option Zv → Prop} (K : Int → Zl → List Zv → Zt → Prop) : sx_ K P [.aload 0, .tableswitch 0 11 84 #[], .iconst 3, .iload 5, .imul, .aload 0, .tableswitch 0 11 76 #[], .iload 6, .iconst 8, .iadd, .iaload, .ineg, .iastore, .goto 285] 260 = x_aload 0 (x_g1 111 284 (x_iconst 3 (x_iload 5 (x_imul (x_aload 0 (x_g1 111 276 (x_iload 6 (x_iconst 8 (x_iadd (x_iaload (x_ineg (x_iastore (x_goto 285 K))))))))))))) := ((xe_aload 0).trans (congrArg (x_aload 0) ((xe_g1 (kk := 111) rfl tl_11_84).trans (congrArg (x_g1 111 284) ((xe_iconst 3).trans (congrArg (x_iconst 3) ((xe_iload 5).trans (congrArg (x_iload 5) ((xe_imul).trans (congrArg (x_imul) ((xe_aload 0).trans (congrArg (x_aload 0) ((xe_g1 (kk := 111) rfl tl_11_76).trans (congrArg (x_g1 111 276) ((xe_iload 6).trans (congrArg (x_iload 6) ((xe_iconst 8).trans (congrArg (x_iconst 8) ((xe_iadd).trans (congrArg (x_iadd) ((xe_iaload).trans (congrArg (x_iaload) ((xe_ineg).trans (congrArg (x_ineg) ((xe_iastore).trans (congrArg (x_iastore) (xe_goto 285)))))))))))))))))))))))))))
theorem bk_X11_say_22 : ck_ fX11 none cX11_say 22 [.iload 5, .iconst 36, .if_icmp .ge 43, .aload 0, .tableswitch 0 11 84 #[], .iload 5, .iconst 0, .iastore, .iinc 5 1, .goto 22] 43 = true := qck_r (by decide) (by decide +kernel)
theorem bs_X11_say_22 {P : Zt → Option Zv → Prop} (K : Int → Zl → List Zv → Zt → Prop) : sx_ K P [.iload 5, .iconst 36, .if_icmp .ge 43, .aload 0, .tableswitch 0 11 84 #[], .iload 5, .iconst 0, .iastore, .iinc 5 1, .goto 22] 43 = x_iload 5 (x_iconst 36 (x_if_icmp .ge 43 K (x_aload 0 (x_g1 111 284 (x_iload 5 (x_iconst 0 (x_iastore (x_iinc 5 1 (x_goto 22 K))))))))) := ((xe_iload 5).trans (congrArg (x_iload 5) ((xe_iconst 36).trans (congrArg (x_iconst 36) ((xe_if_icmp .ge 43).trans (congrArg (x_if_icmp .ge 43 K) ((xe_aload 0).trans (congrArg (x_aload 0) ((xe_g1 (kk := 111) rfl tl_11_84).trans (congrArg (x_g1 111 284) ((xe_iload 5).trans (congrArg (x_iload 5) ((xe_iconst 0).trans (congrArg (x_iconst 0) ((xe_iastore).trans (congrArg (x_iastore) ((xe_iinc 5 1).trans (congrArg (x_iinc 5 1) (xe_goto 22)))))))))))))))))))
theorem bk_X11_say_43 : ck_ fX11 none cX11_say 43 [.iload 4, .iconst 4, .if_icmp .ne 56, .aload 0, .iload 1, .iload 2] 52 = true := qck_r (by decide) (by decide +kernel)
theorem bs_X11_say_43 {P : Zt → Option Zv → Prop} (K : Int → Zl → List Zv → Zt → Prop) : sx_ K P [.iload 4, .iconst 4, .if_icmp .ne 56, .aload 0, .iload 1, .iload 2] 52 = x_iload 4 (x_iconst 4 (x_if_icmp .ne 56 K (x_aload 0 (x_iload 1 (x_iload 2 (K 52)))))) := ((xe_iload 4).trans (congrArg (x_iload 4) ((xe_iconst 4).trans (congrArg (x_iconst 4) ((xe_if_icmp .ne 56).trans (congrArg (x_if_icmp .ne 56 K) ((xe_aload 0).trans (congrArg (x_aload 0) ((xe_iload 1).trans (congrArg (x_iload 1) ((xe_iload 2).trans (congrArg (x_iload 2) xe_nil))))))))))))
theorem bk_X11_say_56 : ck_ fX11 none cX11_say 56 [.iconst 0, .istore 5] 59 = true := qck_r (by decide) (by decide +kernel)
theorem bs_X11_say_56 {P : Zt → Option Zv → Prop} (K : Int → Zl → List Zv → Zt → Prop) : sx_ K P [.iconst 0, .istore 5] 59 = x_iconst 0 (x_istore 5 (K 59)) := ((xe_iconst 0).trans (congrArg (x_iconst 0) ((xe_istore 5).trans (congrArg (x_istore 5) xe_nil))))
set_option maxRecDepth 100000 in
theorem cl_X11_502 : cv_ RX11 502 yX11_sayHead zX11_sayHead 11 2 := ⟨gi_V (lw_b9 194 (by decide +kernel) rfl : Cond.methodLink RX11 502 yX11_sayHead ∈ lw_g) (lw_b9 196 (by decide +kernel) rfl : Cond.instanceMethod yX11_sayHead ∈ lw_g) (lw_sel 61 rfl : Cond.selects yX11_sayHead.cls yX11_sayHead yX11_sayHead ∈ lw_g) (lw_b1 10 (by decide +kernel) rfl : Cond.initialized yX11_sayHead.cls ∈ lw_g) (lw_b9 197 rfl rfl : Cond.code yX11_sayHead cX11_sayHead 7 none ∈ lw_g), ⟨by decide, by decide, by decide +kernel⟩, ⟨_, _, rfl⟩⟩
theorem bk_X11_say_55 : ck_ fX11 none cX11_say 55 [.return_] 56 = true := qck_r (by decide) (by decide +kernel)
theorem bs_X11_say_55 {P : Zt → Option Zv → Prop} (K : Int → Zl → List Zv → Zt → Prop) : sx_ K P [.return_] 56 = x_return_ P := (xe_return_)
theorem bk_X11_say_17 : ck_ fX11 none cX11_say 17 [.istore 4, .iconst 0, .istore 5] 22 = true := qck_r (by decide) (by decide +kernel)
theorem bs_X11_say_17 {P : Zt → Option Zv → Prop} (K : Int → Zl → List Zv → Zt → Prop) : sx_ K P [.istore 4, .iconst 0, .istore 5] 22 = x_istore 4 (x_iconst 0 (x_istore 5 (K 22))) := ((xe_istore 4).trans (congrArg (x_istore 4) ((xe_iconst 0).trans (congrArg (x_iconst 0) ((xe_istore 5).trans (congrArg (x_istore 5) xe_nil))))))
theorem bk_X11_say_0 : ck_ fX11 none cX11_say 0 [.iload 3, .ifCond .ne 8, .iconst (-1), .goto 17] 8 = true := qck_r (by decide) (by decide +kernel)
theorem bs_X11_say_0 {P : Zt → Option Zv → Prop} (K : Int → Zl → List Zv → Zt → Prop) : sx_ K P [.iload 3, .ifCond .ne 8, .iconst (-1), .goto 17] 8 = x_iload 3 (x_ifCond .ne 8 K (x_iconst (-1) (x_goto 17 K))) := ((xe_iload 3).trans (congrArg (x_iload 3) ((xe_ifCond .ne 8).trans (congrArg (x_ifCond .ne 8 K) ((xe_iconst (-1)).trans (congrArg (x_iconst (-1)) (xe_goto 17)))))))
theorem bk_X11_say_8 : ck_ fX11 none cX11_say 8 [.aload 0, .iload 1, .iconst 15, .iload 3, .iadd] 14 = true := qck_r (by decide) (by decide +kernel)
theorem bs_X11_say_8 {P : Zt → Option Zv → Prop} (K : Int → Zl → List Zv → Zt → Prop) : sx_ K P [.aload 0, .iload 1, .iconst 15, .iload 3, .iadd] 14 = x_aload 0 (x_iload 1 (x_iconst 15 (x_iload 3 (x_iadd (K 14))))) := ((xe_aload 0).trans (congrArg (x_aload 0) ((xe_iload 1).trans (congrArg (x_iload 1) ((xe_iconst 15).trans (congrArg (x_iconst 15) ((xe_iload 3).trans (congrArg (x_iload 3) ((xe_iadd).trans (congrArg (x_iadd) xe_nil))))))))))
abbrev po_X11_say (T : Zt) (c d k : Int) : Zt → Option Zv → Prop := fun T' r => r = none ∧ fr_ [(284, []), (111, [82, 83])] T T' ∧ (SB_ T')
set_option maxHeartbeats 4000000 in
theorem ct_X11_say {T : Zt} {c d k : Int} (h1 : 0 ≤ c ∧ c < 4) (hml : ML_ T) (hsc : SC_ T) (hk : 0 ≤ k ∧ k ≤ 7) (htb : TB_ T 150000000) : Ct_ yX11_say zX11_say T [vR 111 0, vI c, vI d, vI k] (po_X11_say T c d k) := by
  refine ct_of (by decide) rfl rfl (Nat.le_of_ble_eq_true rfl) (fun hT hav => ?_)
  have hr_c : -2147483648 ≤ c ∧ c ≤ 2147483647 := hav (vI c) (by simp)
  have hr_d : -2147483648 ≤ d ∧ d ≤ 2147483647 := hav (vI d) (by simp)
  have hr_k : -2147483648 ≤ k ∧ k ≤ 2147483647 := hav (vI k) (by simp)
  have hz : zX11_say.2.2.2.1 = some .boolean → ∀ (T' : Zt) (x : Int), po_X11_say T c d k T' (some (vI x)) → 0 ≤ x ∧ x ≤ 1 := fun h => by cases h
  have hb_12 : 0 ≤ T 111 0 12 ∧ T 111 0 12 ≤ 12 := bd_f hT 111 12 (by decide +kernel : (tf_ 111)[12]? = some (0, 0, 0, 12)) 0
  show J_ zX11_say T (po_X11_say T c d k) 0 0 0 [some (vR 111 0), some (vI c), some (vI d), some (vI k), none, none, none] [] T
  have c_17 : ∀ (v : Int), J_ zX11_say T (po_X11_say T c d k) 0 0 17 [some (vR 111 0), some (vI c), some (vI d), some (vI k), none, none, none] [vI v] T := by
    intro v 
    have c_59 : ∀ (nn : Nat) (i : Int) (T2 : Zt), ((12 - i).toNat) ≤ nn → (fr_ [(284, [])] T T2) → (((-1 ≤ v ∧ v ≤ 5) → SA_ T2 300000000) ∧ (¬ (-1 ≤ v ∧ v ≤ 5) → SN_ T2)) → (0 ≤ i ∧ v ≠ 4) → J_ zX11_say T (po_X11_say T c d k) 0 0 59 [some (vR 111 0), some (vI c), some (vI d), some (vI k), some (vI v), some (vI i), none] [] T2 := by
      intro nn
      induction nn using Nat.strongRecOn with
      | _ nn ih_59 =>
        intro i T2 hm_59 hf_59 w2 i2
        have c_285 : ∀ (T3 : Zt), (fr_ [(284, [])] T T3) → (((-1 ≤ v ∧ v ≤ 5) → SA_ T3 300000000) ∧ (¬ (-1 ≤ v ∧ v ≤ 5) → SN_ T3)) → (i < 12) → J_ zX11_say T (po_X11_say T c d k) 0 0 285 [some (vR 111 0), some (vI c), some (vI d), some (vI k), some (vI v), some (vI i), none] [] T3 := by
          intro T3 hf_285 w3 i3
          refine j_blx (F := fX11) tb_X11 (by decide) bk_X11_say_285 bs_X11_say_285 hz (fun K hK => ?_)
          refine rg_i (by omega) ?_
          refine hK 59 [some (vR 111 0), some (vI c), some (vI d), some (vI k), some (vI v), some (vI (i + 1)), none] [] T3 ?_
          refine ih_59 _ ?_ (i + 1) T3 (Nat.le_refl _) ?_ ?_ ?_
          · omega
          · exact fr_t (fr_0 _ _) (fr_s hf_285 rfl)
          · exact w3
          · omega
        refine j_blx (F := fX11) tb_X11 (by decide) bk_X11_say_59 bs_X11_say_59 hz (fun K hK => ?_)
        intro b1 b1b
        have e2 : T2 111 0 12 = T 111 0 12 := hf_59 111 0 12 rfl
        rw [e2] at b1 b1b ⊢
        refine And.intro (fun c3 => ?_) (fun c3 => ?_)
        · refine hK 291 [some (vR 111 0), some (vI c), some (vI d), some (vI k), some (vI v), some (vI i), none] [] T2 ?_
          refine j_blx (F := fX11) tb_X11 (by decide) bk_X11_say_291 bs_X11_say_291 hz (fun K hK => ?_)
          refine (show po_X11_say T c d k T2 (none) from ?_)
          refine ⟨rfl, fr_t (fr_0 _ _) (fr_s hf_59 rfl), ?_⟩
          by_cases z : (-1 ≤ v ∧ v ≤ 5)
          · exact sb_a (w2.1 z) (by decide)
          · exact sb_n (w2.2 z)
        · have t1 := htb (9 * i + 1) (by omega) (by omega)
          have t4 := htb (9 * i + 4) (by omega) (by omega)
          have t5 := htb (9 * i + 5) (by omega) (by omega)
          have t6 := htb (9 * i + 6) (by omega) (by omega)
          have t7 := htb (9 * i + 7) (by omega) (by omega)
          have t8 := htb (9 * i + 8) (by omega) (by omega)
          refine rg_i (by omega) ?_
          refine hK 77 [some (vR 111 0), some (vI c), some (vI d), some (vI k), some (vI v), some (vI i), some (vI (9 * i))] [vI v] T2 ?_
          by_cases z4_0 : v = (-1)
          · refine j_tsI (pc := 77) 0 (off := 43) (tgt := 120) (by decide) ds_X11_say_77 (by omega) (by decide) rfl (by decide) (by decide) ?_
            refine j_blx (F := fX11) tb_X11 (by decide) bk_X11_say_120 bs_X11_say_120 hz (fun K hK => ?_)
            refine rg_i (by omega) ?_
            refine rg_i (by omega) ?_
            refine ix_i (by omega) ?_
            intro b5 b5b
            have e6 : T2 276 0 ((9 * i) + 6) = T 276 0 ((9 * i) + 6) := hf_59 276 0 ((9 * i) + 6) rfl
            rw [e6] at b5 b5b ⊢
            refine iy_i (by omega) (by omega) ?_
            refine x_nm (fun U7 hU7 => ?_)
            have e8 := up_f hU7
            refine hK 285 [some (vR 111 0), some (vI c), some (vI d), some (vI k), some (vI v), some (vI i), some (vI (9 * i))] [] U7 ?_
            refine j_drop [some (vR 111 0), some (vI c), some (vI d), some (vI k), some (vI v), some (vI i), none] (fun k v hk => ?_) rfl ?_
            · match k, hk with
              | 0, hk => exact hk
              | 1, hk => exact hk
              | 2, hk => exact hk
              | 3, hk => exact hk
              | 4, hk => exact hk
              | 5, hk => exact hk
              | 6, hk => cases hk
              | k + 7, hk => cases hk
            refine c_285 U7 ?_ ?_ ?_
            · exact fr_u (fr_t (fr_0 _ _) (fr_s hf_59 rfl)) hU7 rfl
            · exact ⟨fun z => sa_v (w2.1 z) hU7 (by omega), fun z => sn_v (w2.2 z) hU7 (by omega)⟩
            · omega
          by_cases z4_1 : v = 0
          · refine j_tsI (pc := 77) 1 (off := 65) (tgt := 142) (by decide) ds_X11_say_77 (by omega) (by decide) rfl (by decide) (by decide) ?_
            refine j_blx (F := fX11) tb_X11 (by decide) bk_X11_say_142 bs_X11_say_142 hz (fun K hK => ?_)
            refine rg_i (by omega) ?_
            refine rg_i (by omega) ?_
            refine ix_i (by omega) ?_
            intro b9 b9b
            have e10 : T2 276 0 ((9 * i) + 4) = T 276 0 ((9 * i) + 4) := hf_59 276 0 ((9 * i) + 4) rfl
            rw [e10] at b9 b9b ⊢
            refine rg_i (by omega) ?_
            refine ix_i (by omega) ?_
            intro b11 b11b
            have e12 : T2 276 0 ((9 * i) + 5) = T 276 0 ((9 * i) + 5) := hf_59 276 0 ((9 * i) + 5) rfl
            rw [e12] at b11 b11b ⊢
            refine rg_i (by omega) ?_
            refine iy_i (by omega) (by omega) ?_
            refine x_nm (fun U13 hU13 => ?_)
            have e14 := up_f hU13
            refine hK 285 [some (vR 111 0), some (vI c), some (vI d), some (vI k), some (vI v), some (vI i), some (vI (9 * i))] [] U13 ?_
            refine j_drop [some (vR 111 0), some (vI c), some (vI d), some (vI k), some (vI v), some (vI i), none] (fun k v hk => ?_) rfl ?_
            · match k, hk with
              | 0, hk => exact hk
              | 1, hk => exact hk
              | 2, hk => exact hk
              | 3, hk => exact hk
              | 4, hk => exact hk
              | 5, hk => exact hk
              | 6, hk => cases hk
              | k + 7, hk => cases hk
            refine c_285 U13 ?_ ?_ ?_
            · exact fr_u (fr_t (fr_0 _ _) (fr_s hf_59 rfl)) hU13 rfl
            · exact ⟨fun z => sa_v (w2.1 z) hU13 (by omega), fun z => sn_v (w2.2 z) hU13 (by omega)⟩
            · omega
          by_cases z4_2 : v = 1
          · refine j_tsI (pc := 77) 2 (off := 96) (tgt := 173) (by decide) ds_X11_say_77 (by omega) (by decide) rfl (by decide) (by decide) ?_
            refine j_blx (F := fX11) tb_X11 (by decide) bk_X11_say_173 bs_X11_say_173 hz (fun K hK => ?_)
            refine rg_i (by omega) ?_
            refine rg_i (by omega) ?_
            refine ix_i (by omega) ?_
            intro b15 b15b
            have e16 : T2 276 0 ((9 * i) + 4) = T 276 0 ((9 * i) + 4) := hf_59 276 0 ((9 * i) + 4) rfl
            rw [e16] at b15 b15b ⊢
            refine iy_i (by omega) (by omega) ?_
            refine x_nm (fun U17 hU17 => ?_)
            have e18 := up_f hU17
            refine hK 285 [some (vR 111 0), some (vI c), some (vI d), some (vI k), some (vI v), some (vI i), some (vI (9 * i))] [] U17 ?_
            refine j_drop [some (vR 111 0), some (vI c), some (vI d), some (vI k), some (vI v), some (vI i), none] (fun k v hk => ?_) rfl ?_
            · match k, hk with
              | 0, hk => exact hk
              | 1, hk => exact hk
              | 2, hk => exact hk
              | 3, hk => exact hk
              | 4, hk => exact hk
              | 5, hk => exact hk
              | 6, hk => cases hk
              | k + 7, hk => cases hk
            refine c_285 U17 ?_ ?_ ?_
            · exact fr_u (fr_t (fr_0 _ _) (fr_s hf_59 rfl)) hU17 rfl
            · exact ⟨fun z => sa_v (w2.1 z) hU17 (by omega), fun z => sn_v (w2.2 z) hU17 (by omega)⟩
            · omega
          by_cases z4_3 : v = 2
          · refine j_tsI (pc := 77) 3 (off := 117) (tgt := 194) (by decide) ds_X11_say_77 (by omega) (by decide) rfl (by decide) (by decide) ?_
            refine j_blx (F := fX11) tb_X11 (by decide) bk_X11_say_194 bs_X11_say_194 hz (fun K hK => ?_)
            refine rg_i (by omega) ?_
            refine rg_i (by omega) ?_
            refine ix_i (by omega) ?_
            intro b19 b19b
            have e20 : T2 276 0 ((9 * i) + 1) = T 276 0 ((9 * i) + 1) := hf_59 276 0 ((9 * i) + 1) rfl
            rw [e20] at b19 b19b ⊢
            refine iy_i (by omega) (by omega) ?_
            refine x_nm (fun U21 hU21 => ?_)
            have e22 := up_f hU21
            refine hK 285 [some (vR 111 0), some (vI c), some (vI d), some (vI k), some (vI v), some (vI i), some (vI (9 * i))] [] U21 ?_
            refine j_drop [some (vR 111 0), some (vI c), some (vI d), some (vI k), some (vI v), some (vI i), none] (fun k v hk => ?_) rfl ?_
            · match k, hk with
              | 0, hk => exact hk
              | 1, hk => exact hk
              | 2, hk => exact hk
              | 3, hk => exact hk
              | 4, hk => exact hk
              | 5, hk => exact hk
              | 6, hk => cases hk
              | k + 7, hk => cases hk
            refine c_285 U21 ?_ ?_ ?_
            · exact fr_u (fr_t (fr_0 _ _) (fr_s hf_59 rfl)) hU21 rfl
            · exact ⟨fun z => sa_v (w2.1 z) hU21 (by omega), fun z => sn_v (w2.2 z) hU21 (by omega)⟩
            · omega
          by_cases z4_4 : v = 3
          · refine j_tsI (pc := 77) 4 (off := 138) (tgt := 215) (by decide) ds_X11_say_77 (by omega) (by decide) rfl (by decide) (by decide) ?_
            refine j_blx (F := fX11) tb_X11 (by decide) bk_X11_say_215 bs_X11_say_215 hz (fun K hK => ?_)
            refine rg_i (by omega) ?_
            refine rg_i (by omega) ?_
            refine ix_i (by omega) ?_
            intro b23 b23b
            have e24 : T2 276 0 ((9 * i) + 7) = T 276 0 ((9 * i) + 7) := hf_59 276 0 ((9 * i) + 7) rfl
            rw [e24] at b23 b23b ⊢
            refine iy_i (by omega) (by omega) ?_
            refine x_nm (fun U25 hU25 => ?_)
            have e26 := up_f hU25
            refine hK 285 [some (vR 111 0), some (vI c), some (vI d), some (vI k), some (vI v), some (vI i), some (vI (9 * i))] [] U25 ?_
            refine j_drop [some (vR 111 0), some (vI c), some (vI d), some (vI k), some (vI v), some (vI i), none] (fun k v hk => ?_) rfl ?_
            · match k, hk with
              | 0, hk => exact hk
              | 1, hk => exact hk
              | 2, hk => exact hk
              | 3, hk => exact hk
              | 4, hk => exact hk
              | 5, hk => exact hk
              | 6, hk => cases hk
              | k + 7, hk => cases hk
            refine c_285 U25 ?_ ?_ ?_
            · exact fr_u (fr_t (fr_0 _ _) (fr_s hf_59 rfl)) hU25 rfl
            · exact ⟨fun z => sa_v (w2.1 z) hU25 (by omega), fun z => sn_v (w2.2 z) hU25 (by omega)⟩
            · omega
          by_cases z4_5 : v = 4
          · refine j_tsI (pc := 77) 5 (off := 183) (tgt := 260) (by decide) ds_X11_say_77 (by omega) (by decide) rfl (by decide) (by decide) ?_
            refine j_blx (F := fX11) tb_X11 (by decide) bk_X11_say_260 bs_X11_say_260 hz (fun K hK => ?_)
            refine rg_i (by omega) ?_
            refine hK 272 [some (vR 111 0), some (vI c), some (vI d), some (vI k), some (vI v), some (vI i), some (vI (9 * i))] [vI 15, vI c, vR 111 0, vI (3 * i), vR 284 0] T2 ?_
            refine j_callV (y := yX11_rule0) (Yc := zX11_rule0) (rest := [vI (3 * i), vR 284 0]) [vI c, vI 15] (ct_X11_rule0 (T := T2) (by omega) (by omega)) cl_X11_321 (qd_c (by decide +kernel)) (by decide) rfl (by decide +kernel) (Nat.le_of_ble_eq_true rfl) (by decide) (by decide) rfl ?_
            rintro _ _ ⟨rfl, rfl⟩
            have e27 : T2 205 0 (23 * c + 15) = T 205 0 (23 * c + 15) := hf_59 205 0 (23 * c + 15) rfl
            show J_ zX11_say T (po_X11_say T c d k) 0 0 275 [some (vR 111 0), some (vI c), some (vI d), some (vI k), some (vI v), some (vI i), some (vI (9 * i))] [vI (T2 205 0 (23 * c + 15)), vI (3 * i), vR 284 0] T2
            refine j_blx (F := fX11) tb_X11 (by decide) bk_X11_say_275 bs_X11_say_275 hz (fun K hK => ?_)
            intro b28 b28b
            have e29 : T2 111 0 85 = T 111 0 85 := hf_59 111 0 85 rfl
            rw [e29] at b28 b28b ⊢
            refine hK 281 [some (vR 111 0), some (vI c), some (vI d), some (vI k), some (vI v), some (vI i), some (vI (9 * i))] [vI i, vI (T 111 0 85), vI (T2 205 0 (23 * c + 15)), vI (3 * i), vR 284 0] T2 ?_
            refine j_callS (y := yX11_lot) (Yc := zX11_lot) (rest := [vI (3 * i), vR 284 0]) [vI (T2 205 0 (23 * c + 15)), vI (T 111 0 85), vI i] (ct_X11_lot (T := T2)) cl_X11_505 (qd_c (by decide +kernel)) (by decide) rfl (by decide +kernel) (Nat.le_of_ble_eq_true rfl) (by decide) (by decide) rfl ?_
            rintro _ _ ⟨rfl, x30, rfl, hx30⟩
            show J_ zX11_say T (po_X11_say T c d k) 0 0 284 [some (vR 111 0), some (vI c), some (vI d), some (vI k), some (vI v), some (vI i), some (vI (9 * i))] [vI x30, vI (3 * i), vR 284 0] T2
            refine j_blx (F := fX11) tb_X11 (by decide) bk_X11_say_284 bs_X11_say_284 hz (fun K hK => ?_)
            refine iy_i (by omega) (by omega) ?_
            refine x_nm (fun U31 hU31 => ?_)
            have e32 := up_f hU31
            refine hK 285 [some (vR 111 0), some (vI c), some (vI d), some (vI k), some (vI v), some (vI i), some (vI (9 * i))] [] U31 ?_
            refine j_drop [some (vR 111 0), some (vI c), some (vI d), some (vI k), some (vI v), some (vI i), none] (fun k v hk => ?_) rfl ?_
            · match k, hk with
              | 0, hk => exact hk
              | 1, hk => exact hk
              | 2, hk => exact hk
              | 3, hk => exact hk
              | 4, hk => exact hk
              | 5, hk => exact hk
              | 6, hk => cases hk
              | k + 7, hk => cases hk
            refine c_285 U31 ?_ ?_ ?_
            · exact fr_u (fr_t (fr_0 _ _) (fr_s hf_59 rfl)) hU31 rfl
            · exact ⟨fun z => sa_v (w2.1 z) hU31 (by omega), fun z => sn_v (w2.2 z) hU31 (by omega)⟩
            · omega
          by_cases z4_6 : v = 5
          · refine j_tsI (pc := 77) 6 (off := 160) (tgt := 237) (by decide) ds_X11_say_77 (by omega) (by decide) rfl (by decide) (by decide) ?_
            refine j_blx (F := fX11) tb_X11 (by decide) bk_X11_say_237 bs_X11_say_237 hz (fun K hK => ?_)
            refine rg_i (by omega) ?_
            refine rg_i (by omega) ?_
            refine ix_i (by omega) ?_
            intro b33 b33b
            have e34 : T2 276 0 ((9 * i) + 8) = T 276 0 ((9 * i) + 8) := hf_59 276 0 ((9 * i) + 8) rfl
            rw [e34] at b33 b33b ⊢
            refine rg_i (by omega) ?_
            refine iy_i (by omega) (by omega) ?_
            refine x_nm (fun U35 hU35 => ?_)
            have e36 := up_f hU35
            refine hK 285 [some (vR 111 0), some (vI c), some (vI d), some (vI k), some (vI v), some (vI i), some (vI (9 * i))] [] U35 ?_
            refine j_drop [some (vR 111 0), some (vI c), some (vI d), some (vI k), some (vI v), some (vI i), none] (fun k v hk => ?_) rfl ?_
            · match k, hk with
              | 0, hk => exact hk
              | 1, hk => exact hk
              | 2, hk => exact hk
              | 3, hk => exact hk
              | 4, hk => exact hk
              | 5, hk => exact hk
              | 6, hk => cases hk
              | k + 7, hk => cases hk
            refine c_285 U35 ?_ ?_ ?_
            · exact fr_u (fr_t (fr_0 _ _) (fr_s hf_59 rfl)) hU35 rfl
            · exact ⟨fun z => sa_v (w2.1 z) hU35 (by omega), fun z => sn_v (w2.2 z) hU35 (by omega)⟩
            · omega
          refine j_tsO (pc := 77) (tgt := 260) (by decide) ds_X11_say_77 (by omega) (by decide) (by decide) ?_
          refine j_blx (F := fX11) tb_X11 (by decide) bk_X11_say_260 bs_X11_say_260 hz (fun K hK => ?_)
          refine rg_i (by omega) ?_
          refine hK 272 [some (vR 111 0), some (vI c), some (vI d), some (vI k), some (vI v), some (vI i), some (vI (9 * i))] [vI 15, vI c, vR 111 0, vI (3 * i), vR 284 0] T2 ?_
          refine j_callV (y := yX11_rule0) (Yc := zX11_rule0) (rest := [vI (3 * i), vR 284 0]) [vI c, vI 15] (ct_X11_rule0 (T := T2) (by omega) (by omega)) cl_X11_321 (qd_c (by decide +kernel)) (by decide) rfl (by decide +kernel) (Nat.le_of_ble_eq_true rfl) (by decide) (by decide) rfl ?_
          rintro _ _ ⟨rfl, rfl⟩
          have e37 : T2 205 0 (23 * c + 15) = T 205 0 (23 * c + 15) := hf_59 205 0 (23 * c + 15) rfl
          show J_ zX11_say T (po_X11_say T c d k) 0 0 275 [some (vR 111 0), some (vI c), some (vI d), some (vI k), some (vI v), some (vI i), some (vI (9 * i))] [vI (T2 205 0 (23 * c + 15)), vI (3 * i), vR 284 0] T2
          refine j_blx (F := fX11) tb_X11 (by decide) bk_X11_say_275 bs_X11_say_275 hz (fun K hK => ?_)
          intro b38 b38b
          have e39 : T2 111 0 85 = T 111 0 85 := hf_59 111 0 85 rfl
          rw [e39] at b38 b38b ⊢
          refine hK 281 [some (vR 111 0), some (vI c), some (vI d), some (vI k), some (vI v), some (vI i), some (vI (9 * i))] [vI i, vI (T 111 0 85), vI (T2 205 0 (23 * c + 15)), vI (3 * i), vR 284 0] T2 ?_
          refine j_callS (y := yX11_lot) (Yc := zX11_lot) (rest := [vI (3 * i), vR 284 0]) [vI (T2 205 0 (23 * c + 15)), vI (T 111 0 85), vI i] (ct_X11_lot (T := T2)) cl_X11_505 (qd_c (by decide +kernel)) (by decide) rfl (by decide +kernel) (Nat.le_of_ble_eq_true rfl) (by decide) (by decide) rfl ?_
          rintro _ _ ⟨rfl, x40, rfl, hx40⟩
          show J_ zX11_say T (po_X11_say T c d k) 0 0 284 [some (vR 111 0), some (vI c), some (vI d), some (vI k), some (vI v), some (vI i), some (vI (9 * i))] [vI x40, vI (3 * i), vR 284 0] T2
          refine j_blx (F := fX11) tb_X11 (by decide) bk_X11_say_284 bs_X11_say_284 hz (fun K hK => ?_)
          refine iy_i (by omega) (by omega) ?_
          refine x_nm (fun U41 hU41 => ?_)
          have e42 := up_f hU41
          refine hK 285 [some (vR 111 0), some (vI c), some (vI d), some (vI k), some (vI v), some (vI i), some (vI (9 * i))] [] U41 ?_
          refine j_drop [some (vR 111 0), some (vI c), some (vI d), some (vI k), some (vI v), some (vI i), none] (fun k v hk => ?_) rfl ?_
          · match k, hk with
            | 0, hk => exact hk
            | 1, hk => exact hk
            | 2, hk => exact hk
            | 3, hk => exact hk
            | 4, hk => exact hk
            | 5, hk => exact hk
            | 6, hk => cases hk
            | k + 7, hk => cases hk
          refine c_285 U41 ?_ ?_ ?_
          · exact fr_u (fr_t (fr_0 _ _) (fr_s hf_59 rfl)) hU41 rfl
          · exact ⟨fun z => sa_v (w2.1 z) hU41 (by omega), fun z => sn_v (w2.2 z) hU41 (by omega)⟩
          · omega
    have c_22 : ∀ (nn : Nat) (i : Int) (T1 : Zt), ((36 - i).toNat) ≤ nn → (fr_ [(284, [])] T T1) → (∀ j, 0 ≤ j → j < i → T1 284 0 j = 0) → (0 ≤ i ∧ i ≤ 36) → J_ zX11_say T (po_X11_say T c d k) 0 0 22 [some (vR 111 0), some (vI c), some (vI d), some (vI k), some (vI v), some (vI i), none] [] T1 := by
      intro nn
      induction nn using Nat.strongRecOn with
      | _ nn ih_22 =>
        intro i T1 hm_22 hf_22 z1 i1
        refine j_blx (F := fX11) tb_X11 (by decide) bk_X11_say_22 bs_X11_say_22 hz (fun K hK => ?_)
        refine And.intro (fun c43 => ?_) (fun c43 => ?_)
        · refine hK 43 [some (vR 111 0), some (vI c), some (vI d), some (vI k), some (vI v), some (vI i), none] [] T1 ?_
          refine j_blx (F := fX11) tb_X11 (by decide) bk_X11_say_43 bs_X11_say_43 hz (fun K hK => ?_)
          refine And.intro (fun c44 => ?_) (fun c44 => ?_)
          · refine hK 56 [some (vR 111 0), some (vI c), some (vI d), some (vI k), some (vI v), some (vI i), none] [] T1 ?_
            refine j_blx (F := fX11) tb_X11 (by decide) bk_X11_say_56 bs_X11_say_56 hz (fun K hK => ?_)
            refine hK 59 [some (vR 111 0), some (vI c), some (vI d), some (vI k), some (vI v), some (vI 0), none] [] T1 ?_
            refine c_59 _ 0 T1 (Nat.le_refl _) ?_ ?_ ?_
            · exact fr_t (fr_0 _ _) (fr_s hf_22 rfl)
            · exact ⟨fun _ j a b => by have := z1 j a (by omega); omega, fun _ j a b => by have := z1 j a (by omega); omega⟩
            · omega
          · refine hK 52 [some (vR 111 0), some (vI c), some (vI d), some (vI k), some (vI v), some (vI i), none] [vI d, vI c, vR 111 0] T1 ?_
            refine j_callV (y := yX11_sayHead) (Yc := zX11_sayHead) (rest := []) [vI c, vI d] (ct_X11_sayHead (T := T1) (bb := 0) (by omega) (ML__f (ws := [(284, [])]) hml (fr_t (fr_0 _ _) (fr_s hf_22 rfl)) ⟨fun _ => rfl, fun _ => rfl, rfl, trivial⟩) (SC__f (ws := [(284, [])]) hsc (fr_t (fr_0 _ _) (fr_s hf_22 rfl)) ⟨fun _ => rfl, fun _ => rfl, trivial⟩) (by omega) (fun j a b => by have := z1 j a (by omega); omega)) cl_X11_502 (qd_c (by decide +kernel)) (by decide) rfl (by decide +kernel) (Nat.le_of_ble_eq_true rfl) (by decide) (by decide) rfl ?_
            rintro U45 _ ⟨rfl, fU45, qU45⟩
            show J_ zX11_say T (po_X11_say T c d k) 0 0 55 [some (vR 111 0), some (vI c), some (vI d), some (vI k), some (vI v), some (vI i), none] [] U45
            refine j_blx (F := fX11) tb_X11 (by decide) bk_X11_say_55 bs_X11_say_55 hz (fun K hK => ?_)
            refine (show po_X11_say T c d k U45 (none) from ?_)
            exact ⟨rfl, fr_t (fr_t (fr_0 _ _) (fr_s hf_22 rfl)) (fr_s fU45 rfl), sb_a qU45 (by decide)⟩
        · refine iy_i (by omega) (by omega) ?_
          refine x_nm (fun U46 hU46 => ?_)
          have e47 := up_f hU46
          refine rg_i (by omega) ?_
          refine hK 22 [some (vR 111 0), some (vI c), some (vI d), some (vI k), some (vI v), some (vI (i + 1)), none] [] U46 ?_
          refine ih_22 _ ?_ (i + 1) U46 (Nat.le_refl _) ?_ ?_ ?_
          · omega
          · exact fr_u (fr_t (fr_0 _ _) (fr_s hf_22 rfl)) hU46 rfl
          · intro j a b
            by_cases z : j = i
            · rw [z]; exact up_f hU46
            · rw [up_g hU46 (fun q => z q.2.2)]; exact z1 j a (by omega)
          · omega
    refine j_blx (F := fX11) tb_X11 (by decide) bk_X11_say_17 bs_X11_say_17 hz (fun K hK => ?_)
    refine hK 22 [some (vR 111 0), some (vI c), some (vI d), some (vI k), some (vI v), some (vI 0), none] [] T ?_
    refine c_22 _ 0 T (Nat.le_refl _) ?_ ?_ ?_
    · exact fr_0 _ _
    · intro j a b; omega
    · omega
  refine j_blx (F := fX11) tb_X11 (by decide) bk_X11_say_0 bs_X11_say_0 hz (fun K hK => ?_)
  refine And.intro (fun c48 => ?_) (fun c48 => ?_)
  · refine hK 8 [some (vR 111 0), some (vI c), some (vI d), some (vI k), none, none, none] [] T ?_
    refine j_blx (F := fX11) tb_X11 (by decide) bk_X11_say_8 bs_X11_say_8 hz (fun K hK => ?_)
    refine rg_i (by omega) ?_
    refine hK 14 [some (vR 111 0), some (vI c), some (vI d), some (vI k), none, none, none] [vI (15 + k), vI c, vR 111 0] T ?_
    refine j_callV (y := yX11_rule0) (Yc := zX11_rule0) (rest := []) [vI c, vI (15 + k)] (ct_X11_rule0 (T := T) (by omega) (by omega)) cl_X11_321 (qd_c (by decide +kernel)) (by decide) rfl (by decide +kernel) (Nat.le_of_ble_eq_true rfl) (by decide) (by decide) rfl ?_
    rintro _ _ ⟨rfl, rfl⟩
    show J_ zX11_say T (po_X11_say T c d k) 0 0 17 [some (vR 111 0), some (vI c), some (vI d), some (vI k), none, none, none] [vI (T 205 0 (23 * c + (15 + k)))] T
    exact c_17 (T 205 0 (23 * c + (15 + k)))
  · refine hK 17 [some (vR 111 0), some (vI c), some (vI d), some (vI k), none, none, none] [vI (-1)] T ?_
    exact c_17 (-1)

