def SN_ (T : Zt) : Prop := ∀ j, 0 ≤ j → j < 36 → 0 ≤ T 284 0 j ∧ T 284 0 j ≤ 2147483647
theorem sb_a {T : Zt} {b : Int} (h : SA_ T b) (hb : b ≤ 1000000000) : SB_ T := fun x y i a1 a2 a3 a4 a5 a6 => by
  have p := h (3 * x + i) (by omega) (by omega)
  have q := h (3 * y + i) (by omega) (by omega)
  omega
theorem sb_n {T : Zt} (h : SN_ T) : SB_ T := fun x y i a1 a2 a3 a4 a5 a6 => by
  have p := h (3 * x + i) (by omega) (by omega)
  have q := h (3 * y + i) (by omega) (by omega)
  omega
theorem sa_v {T T1 : Zt} {b i v : Int} (h : SA_ T b) (e : T1 = up_ T 284 0 i v) (hv : -b ≤ v ∧ v ≤ b) : SA_ T1 b := fun j a c => by
  by_cases z : j = i
  · rw [z, up_f e]; exact hv
  · rw [up_g e (fun q => z q.2.2)]; exact h j a c
theorem sn_v {T T1 : Zt} {i v : Int} (h : SN_ T) (e : T1 = up_ T 284 0 i v) (hv : 0 ≤ v ∧ v ≤ 2147483647) : SN_ T1 := fun j a c => by
  by_cases z : j = i
  · rw [z, up_f e]; exact hv
  · rw [up_g e (fun q => z q.2.2)]; exact h j a c
abbrev cX11_say : ByteArray := prog_13_method_87_code
def yX11_say : MethodName := ⟨RX11, "say", "(III)V"⟩
def zX11_say : Zm := (RX11, cX11_say, 7, none, { frames := 2, cells := 0, slots := 0, locals := 48 })
theorem bk_X11_say_285 : ck_ fX11 none cX11_say 285 [.iinc 5 1, .goto 59] 291 = true := qck_r (nn_ _) (by decide +kernel)
theorem bs_X11_say_285 {P : Zt → Option Zv → Prop} (K : Int → Zl → List Zv → Zt → Prop) : sx_ K P [.iinc 5 1, .goto 59] 291 = x_iinc 5 1 (x_goto 59 K) := ((xe_iinc 5 1).trans (congrArg (x_iinc 5 1) (xe_goto 59)))
theorem bk_X11_say_59 : ck_ fX11 none cX11_say 59 [.iload 5, .aload 0, .tableswitch 0 11 12 #[], .if_icmp .ge 291, .iconst 9, .iload 5, .imul, .istore 6, .iload 4] 77 = true := qck_r (nn_ _) (by decide +kernel)
theorem bs_X11_say_59 {P : Zt → Option Zv → Prop} (K : Int → Zl → List Zv → Zt → Prop) : sx_ K P [.iload 5, .aload 0, .tableswitch 0 11 12 #[], .if_icmp .ge 291, .iconst 9, .iload 5, .imul, .istore 6, .iload 4] 77 = x_iload 5 (x_aload 0 (x_g0 111 12 0 12 (x_if_icmp .ge 291 K (x_iconst 9 (x_iload 5 (x_imul (x_istore 6 (x_iload 4 (K 77))))))))) := ((xe_iload 5).trans (congrArg (x_iload 5) ((xe_aload 0).trans (congrArg (x_aload 0) ((xe_g0 (kk := 111) rfl tl_11_12).trans (congrArg (x_g0 111 12 0 12) ((xe_if_icmp .ge 291).trans (congrArg (x_if_icmp .ge 291 K) ((xe_iconst 9).trans (congrArg (x_iconst 9) ((xe_iload 5).trans (congrArg (x_iload 5) ((xe_imul).trans (congrArg (x_imul) ((xe_istore 6).trans (congrArg (x_istore 6) ((xe_iload 4).trans (congrArg (x_iload 4) xe_nil))))))))))))))))))
theorem bk_X11_say_291 : ck_ fX11 none cX11_say 291 [.return_] 292 = true := qck_r (nn_ _) (by decide +kernel)
theorem bs_X11_say_291 {P : Zt → Option Zv → Prop} (K : Int → Zl → List Zv → Zt → Prop) : sx_ K P [.return_] 292 = x_return_ P := (xe_return_)
theorem ds_X11_say_77 : decode cX11_say 77 = .ok (.tableswitch 183 (-1) 5 #[43, 65, 96, 117, 138, 183, 160], 43) := by decide +kernel
theorem bk_X11_say_120 : ck_ fX11 none cX11_say 120 [.aload 0, .tableswitch 0 11 84 #[], .iconst 3, .iload 5, .imul, .aload 0, .tableswitch 0 11 76 #[], .iload 6, .iconst 6, .iadd, .iaload, .iastore, .goto 285] 142 = true := qck_r (nn_ _) (by decide +kernel)
theorem bs_X11_say_120 {P : Zt → Option Zv → Prop} (K : Int → Zl → List Zv → Zt → Prop) : sx_ K P [.aload 0, .tableswitch 0 11 84 #[], .iconst 3, .iload 5, .imul, .aload 0, .tableswitch 0 11 76 #[], .iload 6, .iconst 6, .iadd, .iaload, .iastore, .goto 285] 142 = x_aload 0 (x_g1 111 284 (x_iconst 3 (x_iload 5 (x_imul (x_aload 0 (x_g1 111 276 (x_iload 6 (x_iconst 6 (x_iadd (x_iaload (x_iastore (x_goto 285 K)))))))))))) := ((xe_aload 0).trans (congrArg (x_aload 0) ((xe_g1 (kk := 111) rfl tl_11_84).trans (congrArg (x_g1 111 284) ((xe_iconst 3).trans (congrArg (x_iconst 3) ((xe_iload 5).trans (congrArg (x_iload 5) ((xe_imul).trans (congrArg (x_imul) ((xe_aload 0).trans (congrArg (x_aload 0) ((xe_g1 (kk := 111) rfl tl_11_76).trans (congrArg (x_g1 111 276) ((xe_iload 6).trans (congrArg (x_iload 6) ((xe_iconst 6).trans (congrArg (x_iconst 6) ((xe_iadd).trans (congrArg (x_iadd) ((xe_iaload).trans (congrArg (x_iaload) ((xe_iastore).trans (congrArg (x_iastore) (xe_goto 285)))))))))))))))))))))))))
theorem bk_X11_say_142 : ck_ fX11 none cX11_say 142 [.aload 0, .tableswitch 0 11 84 #[], .iconst 3, .iload 5, .imul, .aload 0, .tableswitch 0 11 76 #[], .iload 6, .iconst 4, .iadd, .iaload, .aload 0, .tableswitch 0 11 76 #[], .iload 6, .iconst 5, .iadd, .iaload, .isub, .iastore, .goto 285] 173 = true := qck_r (nn_ _) (by decide +kernel)
theorem bs_X11_say_142 {P : Zt → Option Zv → Prop} (K : Int → Zl → List Zv → Zt → Prop) : sx_ K P [.aload 0, .tableswitch 0 11 84 #[], .iconst 3, .iload 5, .imul, .aload 0, .tableswitch 0 11 76 #[], .iload 6, .iconst 4, .iadd, .iaload, .aload 0, .tableswitch 0 11 76 #[], .iload 6, .iconst 5, .iadd, .iaload, .isub, .iastore, .goto 285] 173 = x_aload 0 (x_g1 111 284 (x_iconst 3 (x_iload 5 (x_imul (x_aload 0 (x_g1 111 276 (x_iload 6 (x_iconst 4 (x_iadd (x_iaload (x_aload 0 (x_g1 111 276 (x_iload 6 (x_iconst 5 (x_iadd (x_iaload (x_isub (x_iastore (x_goto 285 K))))))))))))))))))) := ((xe_aload 0).trans (congrArg (x_aload 0) ((xe_g1 (kk := 111) rfl tl_11_84).trans (congrArg (x_g1 111 284) ((xe_iconst 3).trans (congrArg (x_iconst 3) ((xe_iload 5).trans (congrArg (x_iload 5) ((xe_imul).trans (congrArg (x_imul) ((xe_aload 0).trans (congrArg (x_aload 0) ((xe_g1 (kk := 111) rfl tl_11_76).trans (congrArg (x_g1 111 276) ((xe_iload 6).trans (congrArg (x_iload 6) ((xe_iconst 4).trans (congrArg (x_iconst 4) ((xe_iadd).trans (congrArg (x_iadd) ((xe_iaload).trans (congrArg (x_iaload) ((xe_aload 0).trans (congrArg (x_aload 0) ((xe_g1 (kk := 111) rfl tl_11_76).trans (congrArg (x_g1 111 276) ((xe_iload 6).trans (congrArg (x_iload 6) ((xe_iconst 5).trans (congrArg (x_iconst 5) ((xe_iadd).trans (congrArg (x_iadd) ((xe_iaload).trans (congrArg (x_iaload) ((xe_isub).trans (congrArg (x_isub) ((xe_iastore).trans (congrArg (x_iastore) (xe_goto 285)))))))))))))))))))))))))))))))))))))))
theorem bk_X11_say_173 : ck_ fX11 none cX11_say 173 [.aload 0, .tableswitch 0 11 84 #[], .iconst 3, .iload 5, .imul, .aload 0, .tableswitch 0 11 76 #[], .iload 6, .iconst 4, .iadd, .iaload, .iastore, .goto 285] 194 = true := qck_r (nn_ _) (by decide +kernel)
theorem bs_X11_say_173 {P : Zt → Option Zv → Prop} (K : Int → Zl → List Zv → Zt → Prop) : sx_ K P [.aload 0, .tableswitch 0 11 84 #[], .iconst 3, .iload 5, .imul, .aload 0, .tableswitch 0 11 76 #[], .iload 6, .iconst 4, .iadd, .iaload, .iastore, .goto 285] 194 = x_aload 0 (x_g1 111 284 (x_iconst 3 (x_iload 5 (x_imul (x_aload 0 (x_g1 111 276 (x_iload 6 (x_iconst 4 (x_iadd (x_iaload (x_iastore (x_goto 285 K)))))))))))) := ((xe_aload 0).trans (congrArg (x_aload 0) ((xe_g1 (kk := 111) rfl tl_11_84).trans (congrArg (x_g1 111 284) ((xe_iconst 3).trans (congrArg (x_iconst 3) ((xe_iload 5).trans (congrArg (x_iload 5) ((xe_imul).trans (congrArg (x_imul) ((xe_aload 0).trans (congrArg (x_aload 0) ((xe_g1 (kk := 111) rfl tl_11_76).trans (congrArg (x_g1 111 276) ((xe_iload 6).trans (congrArg (x_iload 6) ((xe_iconst 4).trans (congrArg (x_iconst 4) ((xe_iadd).trans (congrArg (x_iadd) ((xe_iaload).trans (congrArg (x_iaload) ((xe_iastore).trans (congrArg (x_iastore) (xe_goto 285)))))))))))))))))))))))))
theorem bk_X11_say_194 : ck_ fX11 none cX11_say 194 [.aload 0, .tableswitch 0 11 84 #[], .iconst 3, .iload 5, .imul, .aload 0, .tableswitch 0 11 76 #[], .iload 6, .iconst 1, .iadd, .iaload, .iastore, .goto 285] 215 = true := qck_r (nn_ _) (by decide +kernel)
theorem bs_X11_say_194 {P : Zt → Option Zv → Prop} (K : Int → Zl → List Zv → Zt → Prop) : sx_ K P [.aload 0, .tableswitch 0 11 84 #[], .iconst 3, .iload 5, .imul, .aload 0, .tableswitch 0 11 76 #[], .iload 6, .iconst 1, .iadd, .iaload, .iastore, .goto 285] 215 = x_aload 0 (x_g1 111 284 (x_iconst 3 (x_iload 5 (x_imul (x_aload 0 (x_g1 111 276 (x_iload 6 (x_iconst 1 (x_iadd (x_iaload (x_iastore (x_goto 285 K)))))))))))) := ((xe_aload 0).trans (congrArg (x_aload 0) ((xe_g1 (kk := 111) rfl tl_11_84).trans (congrArg (x_g1 111 284) ((xe_iconst 3).trans (congrArg (x_iconst 3) ((xe_iload 5).trans (congrArg (x_iload 5) ((xe_imul).trans (congrArg (x_imul) ((xe_aload 0).trans (congrArg (x_aload 0) ((xe_g1 (kk := 111) rfl tl_11_76).trans (congrArg (x_g1 111 276) ((xe_iload 6).trans (congrArg (x_iload 6) ((xe_iconst 1).trans (congrArg (x_iconst 1) ((xe_iadd).trans (congrArg (x_iadd) ((xe_iaload).trans (congrArg (x_iaload) ((xe_iastore).trans (congrArg (x_iastore) (xe_goto 285)))))))))))))))))))))))))
theorem bk_X11_say_215 : ck_ fX11 none cX11_say 215 [.aload 0, .tableswitch 0 11 84 #[], .iconst 3, .iload 5, .imul, .aload 0, .tableswitch 0 11 76 #[], .iload 6, .iconst 7, .iadd, .iaload, .iastore, .goto 285] 237 = true := qck_r (nn_ _) (by decide +kernel)
theorem bs_X11_say_215 {P : Zt → Option Zv → Prop} (K : Int → Zl → List Zv → Zt → Prop) : sx_ K P [.aload 0, .tableswitch 0 11 84 #[], .iconst 3, .iload 5, .imul, .aload 0, .tableswitch 0 11 76 #[], .iload 6, .iconst 7, .iadd, .iaload, .iastore, .goto 285] 237 = x_aload 0 (x_g1 111 284 (x_iconst 3 (x_iload 5 (x_imul (x_aload 0 (x_g1 111 276 (x_iload 6 (x_iconst 7 (x_iadd (x_iaload (x_iastore (x_goto 285 K)))))))))))) := ((xe_aload 0).trans (congrArg (x_aload 0) ((xe_g1 (kk := 111) rfl tl_11_84).trans (congrArg (x_g1 111 284) ((xe_iconst 3).trans (congrArg (x_iconst 3) ((xe_iload 5).trans (congrArg (x_iload 5) ((xe_imul).trans (congrArg (x_imul) ((xe_aload 0).trans (congrArg (x_aload 0) ((xe_g1 (kk := 111) rfl tl_11_76).trans (congrArg (x_g1 111 276) ((xe_iload 6).trans (congrArg (x_iload 6) ((xe_iconst 7).trans (congrArg (x_iconst 7) ((xe_iadd).trans (congrArg (x_iadd) ((xe_iaload).trans (congrArg (x_iaload) ((xe_iastore).trans (congrArg (x_iastore) (xe_goto 285)))))))))))))))))))))))))
theorem bk_X11_say_260 : ck_ fX11 none cX11_say 260 [.aload 0, .tableswitch 0 11 84 #[], .iconst 3, .iload 5, .imul, .aload 0, .iload 1, .iconst 15] 272 = true := qck_r (nn_ _) (by decide +kernel)
theorem bs_X11_say_260 {P : Zt → Option Zv → Prop} (K : Int → Zl → List Zv → Zt → Prop) : sx_ K P [.aload 0, .tableswitch 0 11 84 #[], .iconst 3, .iload 5, .imul, .aload 0, .iload 1, .iconst 15] 272 = x_aload 0 (x_g1 111 284 (x_iconst 3 (x_iload 5 (x_imul (x_aload 0 (x_iload 1 (x_iconst 15 (K 272)))))))) := ((xe_aload 0).trans (congrArg (x_aload 0) ((xe_g1 (kk := 111) rfl tl_11_84).trans (congrArg (x_g1 111 284) ((xe_iconst 3).trans (congrArg (x_iconst 3) ((xe_iload 5).trans (congrArg (x_iload 5) ((xe_imul).trans (congrArg (x_imul) ((xe_aload 0).trans (congrArg (x_aload 0) ((xe_iload 1).trans (congrArg (x_iload 1) ((xe_iconst 15).trans (congrArg (x_iconst 15) xe_nil))))))))))))))))
theorem bk_X11_say_275 : ck_ fX11 none cX11_say 275 [.aload 0, .tableswitch 0 11 85 #[], .iload 5] 281 = true := qck_r (nn_ _) (by decide +kernel)
theorem bs_X11_say_275 {P : Zt → Option Zv → Prop} (K : Int → Zl → List Zv → Zt → Prop) : sx_ K P [.aload 0, .tableswitch 0 11 85 #[], .iload 5] 281 = x_aload 0 (x_g0 111 85 0 4095 (x_iload 5 (K 281))) := ((xe_aload 0).trans (congrArg (x_aload 0) ((xe_g0 (kk := 111) rfl tl_11_85).trans (congrArg (x_g0 111 85 0 4095) ((xe_iload 5).trans (congrArg (x_iload 5) xe_nil))))))
set_option maxRecDepth 100000 in
theorem cl_X11_505 : cs_ RX11 505 yX11_lot zX11_lot 3 := ⟨gi_S (lwq_9 (dqc_m (dqc_m (dqc_m (dqc_m (dqc_m (dqc_m (List.mem_of_getElem? (i := 6) rfl))))))) rfl : Cond.methodLink RX11 505 yX11_lot ∈ lw_g) (lwq_9 (dqc_m (dqc_m (dqc_m (dqc_m (dqc_m (dqc_m (List.mem_of_getElem? (i := 7) rfl))))))) rfl : Cond.static yX11_lot ∈ lw_g) (lwq_1 (dqa_m (List.mem_of_getElem? (i := 2) rfl)) rfl : Cond.initialized yX11_lot.cls ∈ lw_g) (lwq_9 (dqc_m (dqc_m (dqc_m (dqc_m (dqc_m (dqc_m (dqa_m (List.mem_of_getElem? (i := 0) rfl)))))))) rfl : Cond.code yX11_lot cX11_lot 5 (some .int) ∈ lw_g), ⟨by decide, by decide, by decide +kernel⟩⟩
theorem bk_X11_say_284 : ck_ fX11 none cX11_say 284 [.iastore] 285 = true := qck_r (nn_ _) (by decide +kernel)
theorem bs_X11_say_284 {P : Zt → Option Zv → Prop} (K : Int → Zl → List Zv → Zt → Prop) : sx_ K P [.iastore] 285 = x_iastore (K 285) := ((xe_iastore).trans (congrArg (x_iastore) xe_nil))
theorem bk_X11_say_237 : ck_ fX11 none cX11_say 237 [.aload 0, .tableswitch 0 11 84 #[], .iconst 3, .iload 5, .imul, .aload 0, .tableswitch 0 11 76 #[], .iload 6, .iconst 8, .iadd, .iaload, .ineg, .iastore, .goto 285] 260 = true := qck_r (nn_ _) (by decide +kernel)
theorem bs_X11_say_237 {P : Zt → Option Zv → Prop} (K : Int → Zl → List Zv → Zt → Prop) : sx_ K P [.aload 0, .tableswitch 0 11 84 #[], .iconst 3, .iload 5, .imul, .aload 0, .tableswitch 0 11 76 #[], .iload 6, .iconst 8, .iadd, .iaload, .ineg, .iastore, .goto 285] 260 = x_aload 0 (x_g1 111 284 (x_iconst 3 (x_iload 5 (x_imul (x_aload 0 (x_g1 111 276 (x_iload 6 (x_iconst 8 (x_iadd (x_iaload (x_ineg (x_iastore (x_goto 285 K))))))))))))) := ((xe_aload 0).trans (congrArg (x_aload 0) ((xe_g1 (kk := 111) rfl tl_11_84).trans (congrArg (x_g1 111 284) ((xe_iconst 3).trans (congrArg (x_iconst 3) ((xe_iload 5).trans (congrArg (x_iload 5) ((xe_imul).trans (congrArg (x_imul) ((xe_aload 0).trans (congrArg (x_aload 0) ((xe_g1 (kk := 111) rfl tl_11_76).trans (congrArg (x_g1 111 276) ((xe_iload 6).trans (congrArg (x_iload 6) ((xe_iconst 8).trans (congrArg (x_iconst 8) ((xe_iadd).trans (congrArg (x_iadd) ((xe_iaload).trans (congrArg (x_iaload) ((xe_ineg).trans (congrArg (x_ineg) ((xe_iastore).trans (congrArg (x_iastore) (xe_goto 285)))))))))))))))))))))))))))
theorem bk_X11_say_22 : ck_ fX11 none cX11_say 22 [.iload 5, .iconst 36, .if_icmp .ge 43, .aload 0, .tableswitch 0 11 84 #[], .iload 5, .iconst 0, .iastore, .iinc 5 1, .goto 22] 43 = true := qck_r (nn_ _) (by decide +kernel)
theorem bs_X11_say_22 {P : Zt → Option Zv → Prop} (K : Int → Zl → List Zv → Zt → Prop) : sx_ K P [.iload 5, .iconst 36, .if_icmp .ge 43, .aload 0, .tableswitch 0 11 84 #[], .iload 5, .iconst 0, .iastore, .iinc 5 1, .goto 22] 43 = x_iload 5 (x_iconst 36 (x_if_icmp .ge 43 K (x_aload 0 (x_g1 111 284 (x_iload 5 (x_iconst 0 (x_iastore (x_iinc 5 1 (x_goto 22 K))))))))) := ((xe_iload 5).trans (congrArg (x_iload 5) ((xe_iconst 36).trans (congrArg (x_iconst 36) ((xe_if_icmp .ge 43).trans (congrArg (x_if_icmp .ge 43 K) ((xe_aload 0).trans (congrArg (x_aload 0) ((xe_g1 (kk := 111) rfl tl_11_84).trans (congrArg (x_g1 111 284) ((xe_iload 5).trans (congrArg (x_iload 5) ((xe_iconst 0).trans (congrArg (x_iconst 0) ((xe_iastore).trans (congrArg (x_iastore) ((xe_iinc 5 1).trans (congrArg (x_iinc 5 1) (xe_goto 22)))))))))))))))))))
theorem bk_X11_say_43 : ck_ fX11 none cX11_say 43 [.iload 4, .iconst 4, .if_icmp .ne 56, .aload 0, .iload 1, .iload 2] 52 = true := qck_r (nn_ _) (by decide +kernel)
theorem bs_X11_say_43 {P : Zt → Option Zv → Prop} (K : Int → Zl → List Zv → Zt → Prop) : sx_ K P [.iload 4, .iconst 4, .if_icmp .ne 56, .aload 0, .iload 1, .iload 2] 52 = x_iload 4 (x_iconst 4 (x_if_icmp .ne 56 K (x_aload 0 (x_iload 1 (x_iload 2 (K 52)))))) := ((xe_iload 4).trans (congrArg (x_iload 4) ((xe_iconst 4).trans (congrArg (x_iconst 4) ((xe_if_icmp .ne 56).trans (congrArg (x_if_icmp .ne 56 K) ((xe_aload 0).trans (congrArg (x_aload 0) ((xe_iload 1).trans (congrArg (x_iload 1) ((xe_iload 2).trans (congrArg (x_iload 2) xe_nil))))))))))))
theorem bk_X11_say_56 : ck_ fX11 none cX11_say 56 [.iconst 0, .istore 5] 59 = true := qck_r (nn_ _) (by decide +kernel)
theorem bs_X11_say_56 {P : Zt → Option Zv → Prop} (K : Int → Zl → List Zv → Zt → Prop) : sx_ K P [.iconst 0, .istore 5] 59 = x_iconst 0 (x_istore 5 (K 59)) := ((xe_iconst 0).trans (congrArg (x_iconst 0) ((xe_istore 5).trans (congrArg (x_istore 5) xe_nil))))
set_option maxRecDepth 100000 in
theorem cl_X11_502 : cv_ RX11 502 yX11_sayHead zX11_sayHead 11 2 := ⟨gi_V (lwq_9 (dqc_m (dqc_m (dqc_m (dqc_m (dqc_m (dqc_m (List.mem_of_getElem? (i := 2) rfl))))))) rfl : Cond.methodLink RX11 502 yX11_sayHead ∈ lw_g) (lwq_9 (dqc_m (dqc_m (dqc_m (dqc_m (dqc_m (dqc_m (List.mem_of_getElem? (i := 4) rfl))))))) rfl : Cond.instanceMethod yX11_sayHead ∈ lw_g) (lw_sel 61 rfl : Cond.selects yX11_sayHead.cls yX11_sayHead yX11_sayHead ∈ lw_g) (lwq_1 (dqa_m (List.mem_of_getElem? (i := 2) rfl)) rfl : Cond.initialized yX11_sayHead.cls ∈ lw_g) (lwq_9 (dqc_m (dqc_m (dqc_m (dqc_m (dqc_m (dqc_m (List.mem_of_getElem? (i := 5) rfl))))))) rfl : Cond.code yX11_sayHead cX11_sayHead 7 none ∈ lw_g), ⟨nmh_1.1, nmh_1.2, pdq_0⟩, ⟨_, _, rfl⟩⟩
theorem bk_X11_say_55 : ck_ fX11 none cX11_say 55 [.return_] 56 = true := qck_r (nn_ _) (by decide +kernel)
theorem bs_X11_say_55 {P : Zt → Option Zv → Prop} (K : Int → Zl → List Zv → Zt → Prop) : sx_ K P [.return_] 56 = x_return_ P := (xe_return_)
theorem bk_X11_say_17 : ck_ fX11 none cX11_say 17 [.istore 4, .iconst 0, .istore 5] 22 = true := qck_r (nn_ _) (by decide +kernel)
theorem bs_X11_say_17 {P : Zt → Option Zv → Prop} (K : Int → Zl → List Zv → Zt → Prop) : sx_ K P [.istore 4, .iconst 0, .istore 5] 22 = x_istore 4 (x_iconst 0 (x_istore 5 (K 22))) := ((xe_istore 4).trans (congrArg (x_istore 4) ((xe_iconst 0).trans (congrArg (x_iconst 0) ((xe_istore 5).trans (congrArg (x_istore 5) xe_nil))))))
theorem bk_X11_say_0 : ck_ fX11 none cX11_say 0 [.iload 3, .ifCond .ne 8, .iconst (-1), .goto 17] 8 = true := qck_r (nn_ _) (by decide +kernel)
theorem bs_X11_say_0 {P : Zt → Option Zv → Prop} (K : Int → Zl → List Zv → Zt → Prop) : sx_ K P [.iload 3, .ifCond .ne 8, .iconst (-1), .goto 17] 8 = x_iload 3 (x_ifCond .ne 8 K (x_iconst (-1) (x_goto 17 K))) := ((xe_iload 3).trans (congrArg (x_iload 3) ((xe_ifCond .ne 8).trans (congrArg (x_ifCond .ne 8 K) ((xe_iconst (-1)).trans (congrArg (x_iconst (-1)) (xe_goto 17)))))))
theorem bk_X11_say_8 : ck_ fX11 none cX11_say 8 [.aload 0, .iload 1, .iconst 15, .iload 3, .iadd] 14 = true := qck_r (nn_ _) (by decide +kernel)
theorem bs_X11_say_8 {P : Zt → Option Zv → Prop} (K : Int → Zl → List Zv → Zt → Prop) : sx_ K P [.aload 0, .iload 1, .iconst 15, .iload 3, .iadd] 14 = x_aload 0 (x_iload 1 (x_iconst 15 (x_iload 3 (x_iadd (K 14))))) := ((xe_aload 0).trans (congrArg (x_aload 0) ((xe_iload 1).trans (congrArg (x_iload 1) ((xe_iconst 15).trans (congrArg (x_iconst 15) ((xe_iload 3).trans (congrArg (x_iload 3) ((xe_iadd).trans (congrArg (x_iadd) xe_nil))))))))))
abbrev po_X11_say (T : Zt) (c d k : Int) : Zt → Option Zv → Prop := fun T' r => r = none ∧ fr_ [(284, []), (111, [82, 83])] T T' ∧ (SB_ T')
set_option maxHeartbeats 4000000 in
theorem ct_X11_say {T : Zt} {c d k : Int} (h1 : 0 ≤ c ∧ c < 4) (hml : ML_ T) (hsc : SC_ T) (hk : 0 ≤ k ∧ k ≤ 7) (htb : TB_ T 150000000) : Ct_ yX11_say zX11_say T [vR 111 0, vI c, vI d, vI k] (po_X11_say T c d k) := by
  refine ct_of pn_11 rfl rfl (Nat.le_of_ble_eq_true rfl) (fun hT hav => ?_)
  have hr_c : -2147483648 ≤ c ∧ c ≤ 2147483647 := hav (vI c) (List.mem_cons_of_mem _ List.mem_cons_self)
  have hr_d : -2147483648 ≤ d ∧ d ≤ 2147483647 := hav (vI d) (List.mem_cons_of_mem _ (List.mem_cons_of_mem _ List.mem_cons_self))
  have hr_k : -2147483648 ≤ k ∧ k ≤ 2147483647 := hav (vI k) (List.mem_cons_of_mem _ (List.mem_cons_of_mem _ (List.mem_cons_of_mem _ List.mem_cons_self)))
  have hz : zX11_say.2.2.2.1 = some .boolean → ∀ (T' : Zt) (x : Int), po_X11_say T c d k T' (some (vI x)) → 0 ≤ x ∧ x ≤ 1 := fun h => by cases h
  have hb_12 : 0 ≤ T 111 0 12 ∧ T 111 0 12 ≤ 12 := bd_f hT 111 12 tl_11_12 0
  show J_ zX11_say T (po_X11_say T c d k) 0 0 0 [some (vR 111 0), some (vI c), some (vI d), some (vI k), none, none, none] [] T
  have c_17 : ∀ (v : Int), J_ zX11_say T (po_X11_say T c d k) 0 0 17 [some (vR 111 0), some (vI c), some (vI d), some (vI k), none, none, none] [vI v] T := by
    intro v 
    have c_59 : ∀ (nn : Nat) (i : Int) (T2 : Zt), ((12 - i).toNat) ≤ nn → (fr_ [(284, [])] T T2) → (((-1 ≤ v ∧ v ≤ 5) → SA_ T2 300000000) ∧ (¬ (-1 ≤ v ∧ v ≤ 5) → SN_ T2)) → (0 ≤ i ∧ v ≠ 4) → J_ zX11_say T (po_X11_say T c d k) 0 0 59 [some (vR 111 0), some (vI c), some (vI d), some (vI k), some (vI v), some (vI i), none] [] T2 := by
      intro nn
      induction nn using Nat.strongRecOn with
      | _ nn ih_59 =>
        intro i T2 hm_59 hf_59 w2 i2
        replace hm_59 := fun (_ : Unit) => hm_59
        have c_285 : ∀ (T3 : Zt), (fr_ [(284, [])] T T3) → (((-1 ≤ v ∧ v ≤ 5) → SA_ T3 300000000) ∧ (¬ (-1 ≤ v ∧ v ≤ 5) → SN_ T3)) → (i < 12) → J_ zX11_say T (po_X11_say T c d k) 0 0 285 [some (vR 111 0), some (vI c), some (vI d), some (vI k), some (vI v), some (vI i), none] [] T3 := by
          intro T3 hf_285 w3 i3
          refine j_blx (F := fX11) tb_X11 (nn_ _) bk_X11_say_285 bs_X11_say_285 hz (fun K hK => ?_)
          refine rg_i (by omega) ?_
          refine hK 59 [some (vR 111 0), some (vI c), some (vI d), some (vI k), some (vI v), some (vI (i + 1)), none] [] T3 ?_
          refine ih_59 _ ?_ (i + 1) T3 (Nat.le_refl _) ?_ ?_ ?_
          · have hm_59 := hm_59 (); omega
          · exact fr_t (fr_0 _ _) (fr_s hf_285 rfl)
          · exact w3
          · omega
        refine j_blx (F := fX11) tb_X11 (nn_ _) bk_X11_say_59 bs_X11_say_59 hz (fun K hK => ?_)
        intro b1 b1b
        have e2 : T2 111 0 12 = T 111 0 12 := hf_59 111 0 12 rfl
        rw [e2] at b1 b1b ⊢
        refine And.intro (fun c3 => ?_) (fun c3 => ?_)
        · refine hK 291 _ [] T2 ?_
          refine j_blx (F := fX11) tb_X11 (nn_ _) bk_X11_say_291 bs_X11_say_291 hz (fun K hK => ?_)
          refine (show po_X11_say T c d k T2 (none) from ?_)
          refine ⟨rfl, fr_t (fr_0 _ _) (fr_s hf_59 rfl), ?_⟩
          by_cases z : (-1 ≤ v ∧ v ≤ 5)
          · exact sb_a (w2.1 z) (by decide)
          · exact sb_n (w2.2 z)
        · have t1 := htb (9 * i + 1) (by omega) (by omega)
          have t4 := htb (9 * i + 4) (by omega) (by omega)
          have t5 := htb (9 * i + 5) (by omega) (by omega)
          have t6 := htb (9 * i + 6) (by omega) (by omega)
          have t7 := htb (9 * i + 7) (by omega) (by omega)
          have t8 := htb (9 * i + 8) (by omega) (by omega)
          refine rg_i (by omega) ?_
          refine hK 77 [some (vR 111 0), some (vI c), some (vI d), some (vI k), some (vI v), some (vI i), some (vI (9 * i))] [vI v] T2 ?_
          by_cases z4_0 : v = (-1)
          · refine j_tsI (pc := 77) 0 (off := 43) (tgt := 120) (by decide) ds_X11_say_77 (by omega) (by decide) rfl (by decide) (by decide) ?_
            refine j_blx (F := fX11) tb_X11 (nn_ _) bk_X11_say_120 bs_X11_say_120 hz (fun K hK => ?_)
            refine rg_i (by omega) ?_
            refine rg_i (by omega) ?_
            refine ix_i (by omega) ?_
            intro b5 b5b
            have e6 : T2 276 0 ((9 * i) + 6) = T 276 0 ((9 * i) + 6) := hf_59 276 0 ((9 * i) + 6) rfl
            rw [e6] at b5 b5b ⊢
            refine iy_i (by omega) (by omega) ?_
            refine x_nm (fun U7 hU7 => ?_)
            have e8 := up_f hU7
            refine hK 285 _ [] U7 ?_
            refine j_drop [some (vR 111 0), some (vI c), some (vI d), some (vI k), some (vI v), some (vI i), none] (fun k v hk => ?_) rfl ?_
            · match k, hk with
              | 0, hk => exact hk
              | 1, hk => exact hk
              | 2, hk => exact hk
              | 3, hk => exact hk
              | 4, hk => exact hk
              | 5, hk => exact hk
              | 6, hk => cases hk
              | k + 7, hk => cases hk
            refine c_285 U7 ?_ ?_ ?_
            · exact fr_u (fr_t (fr_0 _ _) (fr_s hf_59 rfl)) hU7 rfl
            · exact ⟨fun z => sa_v (w2.1 z) hU7 (by omega), fun z => sn_v (w2.2 z) hU7 (by omega)⟩
            · omega
          by_cases z4_1 : v = 0
          · refine j_tsI (pc := 77) 1 (off := 65) (tgt := 142) (by decide) ds_X11_say_77 (by omega) (by decide) rfl (by decide) (by decide) ?_
            refine j_blx (F := fX11) tb_X11 (nn_ _) bk_X11_say_142 bs_X11_say_142 hz (fun K hK => ?_)
            refine rg_i (by omega) ?_
            refine rg_i (by omega) ?_
            refine ix_i (by omega) ?_
            intro b9 b9b
            have e10 : T2 276 0 ((9 * i) + 4) = T 276 0 ((9 * i) + 4) := hf_59 276 0 ((9 * i) + 4) rfl
            rw [e10] at b9 b9b ⊢
            refine rg_i (by omega) ?_
            refine ix_i (by omega) ?_
            intro b11 b11b
            have e12 : T2 276 0 ((9 * i) + 5) = T 276 0 ((9 * i) + 5) := hf_59 276 0 ((9 * i) + 5) rfl
            rw [e12] at b11 b11b ⊢
            refine rg_i (by omega) ?_
            refine iy_i (by omega) (by omega) ?_
            refine x_nm (fun U13 hU13 => ?_)
            have e14 := up_f hU13
            refine hK 285 _ [] U13 ?_
            refine j_drop [some (vR 111 0), some (vI c), some (vI d), some (vI k), some (vI v), some (vI i), none] (fun k v hk => ?_) rfl ?_
            · match k, hk with
              | 0, hk => exact hk
              | 1, hk => exact hk
              | 2, hk => exact hk
              | 3, hk => exact hk
              | 4, hk => exact hk
              | 5, hk => exact hk
              | 6, hk => cases hk
              | k + 7, hk => cases hk
            refine c_285 U13 ?_ ?_ ?_
            · exact fr_u (fr_t (fr_0 _ _) (fr_s hf_59 rfl)) hU13 rfl
            · exact ⟨fun z => sa_v (w2.1 z) hU13 (by omega), fun z => sn_v (w2.2 z) hU13 (by omega)⟩
            · omega
          by_cases z4_2 : v = 1
          · refine j_tsI (pc := 77) 2 (off := 96) (tgt := 173) (by decide) ds_X11_say_77 (by omega) (by decide) rfl (by decide) (by decide) ?_
            refine j_blx (F := fX11) tb_X11 (nn_ _) bk_X11_say_173 bs_X11_say_173 hz (fun K hK => ?_)
            refine rg_i (by omega) ?_
            refine rg_i (by omega) ?_
            refine ix_i (by omega) ?_
            intro b15 b15b
            have e16 : T2 276 0 ((9 * i) + 4) = T 276 0 ((9 * i) + 4) := hf_59 276 0 ((9 * i) + 4) rfl
            rw [e16] at b15 b15b ⊢
            refine iy_i (by omega) (by omega) ?_
            refine x_nm (fun U17 hU17 => ?_)
            have e18 := up_f hU17
            refine hK 285 _ [] U17 ?_
            refine j_drop [some (vR 111 0), some (vI c), some (vI d), some (vI k), some (vI v), some (vI i), none] (fun k v hk => ?_) rfl ?_
            · match k, hk with
              | 0, hk => exact hk
              | 1, hk => exact hk
              | 2, hk => exact hk
              | 3, hk => exact hk
              | 4, hk => exact hk
              | 5, hk => exact hk
              | 6, hk => cases hk
              | k + 7, hk => cases hk
            refine c_285 U17 ?_ ?_ ?_
            · exact fr_u (fr_t (fr_0 _ _) (fr_s hf_59 rfl)) hU17 rfl
            · exact ⟨fun z => sa_v (w2.1 z) hU17 (by omega), fun z => sn_v (w2.2 z) hU17 (by omega)⟩
            · omega
          by_cases z4_3 : v = 2
          · refine j_tsI (pc := 77) 3 (off := 117) (tgt := 194) (by decide) ds_X11_say_77 (by omega) (by decide) rfl (by decide) (by decide) ?_
            refine j_blx (F := fX11) tb_X11 (nn_ _) bk_X11_say_194 bs_X11_say_194 hz (fun K hK => ?_)
            refine rg_i (by omega) ?_
            refine rg_i (by omega) ?_
            refine ix_i (by omega) ?_
            intro b19 b19b
            have e20 : T2 276 0 ((9 * i) + 1) = T 276 0 ((9 * i) + 1) := hf_59 276 0 ((9 * i) + 1) rfl
            rw [e20] at b19 b19b ⊢
            refine iy_i (by omega) (by omega) ?_
            refine x_nm (fun U21 hU21 => ?_)
            have e22 := up_f hU21
            refine hK 285 _ [] U21 ?_
            refine j_drop [some (vR 111 0), some (vI c), some (vI d), some (vI k), some (vI v), some (vI i), none] (fun k v hk => ?_) rfl ?_
            · match k, hk with
              | 0, hk => exact hk
              | 1, hk => exact hk
              | 2, hk => exact hk
              | 3, hk => exact hk
              | 4, hk => exact hk
              | 5, hk => exact hk
              | 6, hk => cases hk
              | k + 7, hk => cases hk
            refine c_285 U21 ?_ ?_ ?_
            · exact fr_u (fr_t (fr_0 _ _) (fr_s hf_59 rfl)) hU21 rfl
            · exact ⟨fun z => sa_v (w2.1 z) hU21 (by omega), fun z => sn_v (w2.2 z) hU21 (by omega)⟩
            · omega
          by_cases z4_4 : v = 3
          · refine j_tsI (pc := 77) 4 (off := 138) (tgt := 215) (by decide) ds_X11_say_77 (by omega) (by decide) rfl (by decide) (by decide) ?_
            refine j_blx (F := fX11) tb_X11 (nn_ _) bk_X11_say_215 bs_X11_say_215 hz (fun K hK => ?_)
            refine rg_i (by omega) ?_
            refine rg_i (by omega) ?_
            refine ix_i (by omega) ?_
            intro b23 b23b
            have e24 : T2 276 0 ((9 * i) + 7) = T 276 0 ((9 * i) + 7) := hf_59 276 0 ((9 * i) + 7) rfl
            rw [e24] at b23 b23b ⊢
            refine iy_i (by omega) (by omega) ?_
            refine x_nm (fun U25 hU25 => ?_)
            have e26 := up_f hU25
            refine hK 285 _ [] U25 ?_
            refine j_drop [some (vR 111 0), some (vI c), some (vI d), some (vI k), some (vI v), some (vI i), none] (fun k v hk => ?_) rfl ?_
            · match k, hk with
              | 0, hk => exact hk
              | 1, hk => exact hk
              | 2, hk => exact hk
              | 3, hk => exact hk
              | 4, hk => exact hk
              | 5, hk => exact hk
              | 6, hk => cases hk
              | k + 7, hk => cases hk
            refine c_285 U25 ?_ ?_ ?_
            · exact fr_u (fr_t (fr_0 _ _) (fr_s hf_59 rfl)) hU25 rfl
            · exact ⟨fun z => sa_v (w2.1 z) hU25 (by omega), fun z => sn_v (w2.2 z) hU25 (by omega)⟩
            · omega
          by_cases z4_5 : v = 4
          · refine j_tsI (pc := 77) 5 (off := 183) (tgt := 260) (by decide) ds_X11_say_77 (by omega) (by decide) rfl (by decide) (by decide) ?_
            refine j_blx (F := fX11) tb_X11 (nn_ _) bk_X11_say_260 bs_X11_say_260 hz (fun K hK => ?_)
            refine rg_i (by omega) ?_
            refine hK 272 _ [vI 15, vI c, vR 111 0, vI (3 * i), vR 284 0] T2 ?_
            refine j_callV (y := yX11_rule0) (Yc := zX11_rule0) (rest := [vI (3 * i), vR 284 0]) [vI c, vI 15] (ct_X11_rule0 (T := T2) (by omega) (by omega)) cl_X11_321 (qd_c (by decide +kernel)) (nn_ _) rfl (rf_of rfl) (Nat.le_of_ble_eq_true rfl) (Nat.le_of_ble_eq_true rfl) (Nat.le_of_ble_eq_true rfl) rfl ?_
            rintro _ _ ⟨rfl, rfl⟩
            have e27 : T2 205 0 (23 * c + 15) = T 205 0 (23 * c + 15) := hf_59 205 0 (23 * c + 15) rfl
            show J_ zX11_say T (po_X11_say T c d k) 0 0 275 _ [vI (T2 205 0 (23 * c + 15)), vI (3 * i), vR 284 0] T2
            refine j_blx (F := fX11) tb_X11 (nn_ _) bk_X11_say_275 bs_X11_say_275 hz (fun K hK => ?_)
            intro b28 b28b
            have e29 : T2 111 0 85 = T 111 0 85 := hf_59 111 0 85 rfl
            rw [e29] at b28 b28b ⊢
            refine hK 281 _ [vI i, vI (T 111 0 85), vI (T2 205 0 (23 * c + 15)), vI (3 * i), vR 284 0] T2 ?_
            refine j_callS (y := yX11_lot) (Yc := zX11_lot) (rest := [vI (3 * i), vR 284 0]) [vI (T2 205 0 (23 * c + 15)), vI (T 111 0 85), vI i] (ct_X11_lot (T := T2)) cl_X11_505 (qd_c (by decide +kernel)) (nn_ _) rfl (rf_of rfl) (Nat.le_of_ble_eq_true rfl) (Nat.le_of_ble_eq_true rfl) (Nat.le_of_ble_eq_true rfl) rfl ?_
            rintro _ _ ⟨rfl, x30, rfl, hx30⟩
            show J_ zX11_say T (po_X11_say T c d k) 0 0 284 _ [vI x30, vI (3 * i), vR 284 0] T2
            refine j_blx (F := fX11) tb_X11 (nn_ _) bk_X11_say_284 bs_X11_say_284 hz (fun K hK => ?_)
            refine iy_i (by omega) (by omega) ?_
            refine x_nm (fun U31 hU31 => ?_)
            have e32 := up_f hU31
            refine hK 285 _ [] U31 ?_
            refine j_drop [some (vR 111 0), some (vI c), some (vI d), some (vI k), some (vI v), some (vI i), none] (fun k v hk => ?_) rfl ?_
            · match k, hk with
              | 0, hk => exact hk
              | 1, hk => exact hk
              | 2, hk => exact hk
              | 3, hk => exact hk
              | 4, hk => exact hk
              | 5, hk => exact hk
              | 6, hk => cases hk
              | k + 7, hk => cases hk
            refine c_285 U31 ?_ ?_ ?_
            · exact fr_u (fr_t (fr_0 _ _) (fr_s hf_59 rfl)) hU31 rfl
            · exact ⟨fun z => sa_v (w2.1 z) hU31 (by omega), fun z => sn_v (w2.2 z) hU31 (by omega)⟩
            · omega
          by_cases z4_6 : v = 5
          · refine j_tsI (pc := 77) 6 (off := 160) (tgt := 237) (by decide) ds_X11_say_77 (by omega) (by decide) rfl (by decide) (by decide) ?_
            refine j_blx (F := fX11) tb_X11 (nn_ _) bk_X11_say_237 bs_X11_say_237 hz (fun K hK => ?_)
            refine rg_i (by omega) ?_
            refine rg_i (by omega) ?_
            refine ix_i (by omega) ?_
            intro b33 b33b
            have e34 : T2 276 0 ((9 * i) + 8) = T 276 0 ((9 * i) + 8) := hf_59 276 0 ((9 * i) + 8) rfl
            rw [e34] at b33 b33b ⊢
            refine rg_i (by omega) ?_
            refine iy_i (by omega) (by omega) ?_
            refine x_nm (fun U35 hU35 => ?_)
            have e36 := up_f hU35
            refine hK 285 _ [] U35 ?_
            refine j_drop [some (vR 111 0), some (vI c), some (vI d), some (vI k), some (vI v), some (vI i), none] (fun k v hk => ?_) rfl ?_
            · match k, hk with
              | 0, hk => exact hk
              | 1, hk => exact hk
              | 2, hk => exact hk
              | 3, hk => exact hk
              | 4, hk => exact hk
              | 5, hk => exact hk
              | 6, hk => cases hk
              | k + 7, hk => cases hk
            refine c_285 U35 ?_ ?_ ?_
            · exact fr_u (fr_t (fr_0 _ _) (fr_s hf_59 rfl)) hU35 rfl
            · exact ⟨fun z => sa_v (w2.1 z) hU35 (by omega), fun z => sn_v (w2.2 z) hU35 (by omega)⟩
            · omega
          refine j_tsO (pc := 77) (tgt := 260) (by decide) ds_X11_say_77 (by omega) (by decide) (by decide) ?_
          refine j_blx (F := fX11) tb_X11 (nn_ _) bk_X11_say_260 bs_X11_say_260 hz (fun K hK => ?_)
          refine rg_i (by omega) ?_
          refine hK 272 _ [vI 15, vI c, vR 111 0, vI (3 * i), vR 284 0] T2 ?_
          refine j_callV (y := yX11_rule0) (Yc := zX11_rule0) (rest := [vI (3 * i), vR 284 0]) [vI c, vI 15] (ct_X11_rule0 (T := T2) (by omega) (by omega)) cl_X11_321 (qd_c (by decide +kernel)) (nn_ _) rfl (rf_of rfl) (Nat.le_of_ble_eq_true rfl) (Nat.le_of_ble_eq_true rfl) (Nat.le_of_ble_eq_true rfl) rfl ?_
          rintro _ _ ⟨rfl, rfl⟩
          have e37 : T2 205 0 (23 * c + 15) = T 205 0 (23 * c + 15) := hf_59 205 0 (23 * c + 15) rfl
          show J_ zX11_say T (po_X11_say T c d k) 0 0 275 _ [vI (T2 205 0 (23 * c + 15)), vI (3 * i), vR 284 0] T2
          refine j_blx (F := fX11) tb_X11 (nn_ _) bk_X11_say_275 bs_X11_say_275 hz (fun K hK => ?_)
          intro b38 b38b
          have e39 : T2 111 0 85 = T 111 0 85 := hf_59 111 0 85 rfl
          rw [e39] at b38 b38b ⊢
          refine hK 281 _ [vI i, vI (T 111 0 85), vI (T2 205 0 (23 * c + 15)), vI (3 * i), vR 284 0] T2 ?_
          refine j_callS (y := yX11_lot) (Yc := zX11_lot) (rest := [vI (3 * i), vR 284 0]) [vI (T2 205 0 (23 * c + 15)), vI (T 111 0 85), vI i] (ct_X11_lot (T := T2)) cl_X11_505 (qd_c (by decide +kernel)) (nn_ _) rfl (rf_of rfl) (Nat.le_of_ble_eq_true rfl) (Nat.le_of_ble_eq_true rfl) (Nat.le_of_ble_eq_true rfl) rfl ?_
          rintro _ _ ⟨rfl, x40, rfl, hx40⟩
          show J_ zX11_say T (po_X11_say T c d k) 0 0 284 _ [vI x40, vI (3 * i), vR 284 0] T2
          refine j_blx (F := fX11) tb_X11 (nn_ _) bk_X11_say_284 bs_X11_say_284 hz (fun K hK => ?_)
          refine iy_i (by omega) (by omega) ?_
          refine x_nm (fun U41 hU41 => ?_)
          have e42 := up_f hU41
          refine hK 285 _ [] U41 ?_
          refine j_drop [some (vR 111 0), some (vI c), some (vI d), some (vI k), some (vI v), some (vI i), none] (fun k v hk => ?_) rfl ?_
          · match k, hk with
            | 0, hk => exact hk
            | 1, hk => exact hk
            | 2, hk => exact hk
            | 3, hk => exact hk
            | 4, hk => exact hk
            | 5, hk => exact hk
            | 6, hk => cases hk
            | k + 7, hk => cases hk
          refine c_285 U41 ?_ ?_ ?_
          · exact fr_u (fr_t (fr_0 _ _) (fr_s hf_59 rfl)) hU41 rfl
          · exact ⟨fun z => sa_v (w2.1 z) hU41 (by omega), fun z => sn_v (w2.2 z) hU41 (by omega)⟩
          · omega
    have c_22 : ∀ (nn : Nat) (i : Int) (T1 : Zt), ((36 - i).toNat) ≤ nn → (fr_ [(284, [])] T T1) → (∀ j, 0 ≤ j → j < i → T1 284 0 j = 0) → (0 ≤ i ∧ i ≤ 36) → J_ zX11_say T (po_X11_say T c d k) 0 0 22 [some (vR 111 0), some (vI c), some (vI d), some (vI k), some (vI v), some (vI i), none] [] T1 := by
      intro nn
      induction nn using Nat.strongRecOn with
      | _ nn ih_22 =>
        intro i T1 hm_22 hf_22 z1 i1
        replace hm_22 := fun (_ : Unit) => hm_22
        refine j_blx (F := fX11) tb_X11 (nn_ _) bk_X11_say_22 bs_X11_say_22 hz (fun K hK => ?_)
        refine And.intro (fun c43 => ?_) (fun c43 => ?_)
        · refine hK 43 _ [] T1 ?_
          refine j_blx (F := fX11) tb_X11 (nn_ _) bk_X11_say_43 bs_X11_say_43 hz (fun K hK => ?_)
          refine And.intro (fun c44 => ?_) (fun c44 => ?_)
          · refine hK 56 _ [] T1 ?_
            refine j_blx (F := fX11) tb_X11 (nn_ _) bk_X11_say_56 bs_X11_say_56 hz (fun K hK => ?_)
            refine hK 59 [some (vR 111 0), some (vI c), some (vI d), some (vI k), some (vI v), some (vI 0), none] [] T1 ?_
            refine c_59 _ 0 T1 (Nat.le_refl _) ?_ ?_ ?_
            · exact fr_t (fr_0 _ _) (fr_s hf_22 rfl)
            · exact ⟨fun _ j a b => by have := z1 j a (by omega); omega, fun _ j a b => by have := z1 j a (by omega); omega⟩
            · omega
          · refine hK 52 [some (vR 111 0), some (vI c), some (vI d), some (vI k), some (vI v), some (vI i), none] [vI d, vI c, vR 111 0] T1 ?_
            refine j_callV (y := yX11_sayHead) (Yc := zX11_sayHead) (rest := []) [vI c, vI d] (ct_X11_sayHead (T := T1) (bb := 0) (by omega) (ML__f (ws := [(284, [])]) hml (fr_t (fr_0 _ _) (fr_s hf_22 rfl)) ⟨fun _ => rfl, fun _ => rfl, rfl, trivial⟩) (SC__f (ws := [(284, [])]) hsc (fr_t (fr_0 _ _) (fr_s hf_22 rfl)) ⟨fun _ => rfl, fun _ => rfl, trivial⟩) (by omega) (fun j a b => by have := z1 j a (by omega); omega)) cl_X11_502 (qd_c (by decide +kernel)) (nn_ _) rfl (rf_of rfl) (Nat.le_of_ble_eq_true rfl) (Nat.le_of_ble_eq_true rfl) (Nat.le_of_ble_eq_true rfl) rfl ?_
            rintro U45 _ ⟨rfl, fU45, qU45⟩
            show J_ zX11_say T (po_X11_say T c d k) 0 0 55 _ [] U45
            refine j_blx (F := fX11) tb_X11 (nn_ _) bk_X11_say_55 bs_X11_say_55 hz (fun K hK => ?_)
            refine (show po_X11_say T c d k U45 (none) from ?_)
            exact ⟨rfl, fr_t (fr_t (fr_0 _ _) (fr_s hf_22 rfl)) (fr_s fU45 rfl), sb_a qU45 (by decide)⟩
        · refine iy_i (by omega) (by omega) ?_
          refine x_nm (fun U46 hU46 => ?_)
          have e47 := up_f hU46
          refine rg_i (by omega) ?_
          refine hK 22 [some (vR 111 0), some (vI c), some (vI d), some (vI k), some (vI v), some (vI (i + 1)), none] [] U46 ?_
          refine ih_22 _ ?_ (i + 1) U46 (Nat.le_refl _) ?_ ?_ ?_
          · have hm_22 := hm_22 (); omega
          · exact fr_u (fr_t (fr_0 _ _) (fr_s hf_22 rfl)) hU46 rfl
          · intro j a b
            by_cases z : j = i
            · rw [z]; exact up_f hU46
            · rw [up_g hU46 (fun q => z q.2.2)]; exact z1 j a (by omega)
          · omega
    refine j_blx (F := fX11) tb_X11 (nn_ _) bk_X11_say_17 bs_X11_say_17 hz (fun K hK => ?_)
    refine hK 22 [some (vR 111 0), some (vI c), some (vI d), some (vI k), some (vI v), some (vI 0), none] [] T ?_
    refine c_22 _ 0 T (Nat.le_refl _) ?_ ?_ ?_
    · exact fr_0 _ _
    · intro j a b; omega
    · omega
  refine j_blx (F := fX11) tb_X11 (nn_ _) bk_X11_say_0 bs_X11_say_0 hz (fun K hK => ?_)
  refine And.intro (fun c48 => ?_) (fun c48 => ?_)
  · refine hK 8 _ [] T ?_
    refine j_blx (F := fX11) tb_X11 (nn_ _) bk_X11_say_8 bs_X11_say_8 hz (fun K hK => ?_)
    refine rg_i (by omega) ?_
    refine hK 14 _ [vI (15 + k), vI c, vR 111 0] T ?_
    refine j_callV (y := yX11_rule0) (Yc := zX11_rule0) (rest := []) [vI c, vI (15 + k)] (ct_X11_rule0 (T := T) (by omega) (by omega)) cl_X11_321 (qd_c (by decide +kernel)) (nn_ _) rfl (rf_of rfl) (Nat.le_of_ble_eq_true rfl) (Nat.le_of_ble_eq_true rfl) (Nat.le_of_ble_eq_true rfl) rfl ?_
    rintro _ _ ⟨rfl, rfl⟩
    show J_ zX11_say T (po_X11_say T c d k) 0 0 17 _ [vI (T 205 0 (23 * c + (15 + k)))] T
    exact c_17 (T 205 0 (23 * c + (15 + k)))
  · refine hK 17 _ [vI (-1)] T ?_
    exact c_17 (-1)
/-- the weight of a part still to be ordered -/
def wt_ (s k : Int) : Int := 10 * (s * s) + 9 - k
/-- the pile: p parts, their sizes together s, their weights together w -/
def pp_ (T : Zt) (n : Int) : Nat → Int → Int → Prop
  | 0, s, w => s = 0 ∧ w = 0
  | p + 1, s, w => pp_ T n p (s - (T 286 0 (3 * (p : Int) + 1) - T 286 0 (3 * (p : Int)))) (w - wt_ (T 286 0 (3 * (p : Int) + 1) - T 286 0 (3 * (p : Int))) (T 286 0 (3 * (p : Int) + 2))) ∧
      (0 ≤ T 286 0 (3 * (p : Int)) ∧ T 286 0 (3 * (p : Int)) ≤ T 286 0 (3 * (p : Int) + 1) ∧ (T 286 0 (3 * (p : Int)) < T 286 0 (3 * (p : Int) + 1) ∨ p = 0) ∧ T 286 0 (3 * (p : Int) + 1) ≤ n ∧ 0 ≤ T 286 0 (3 * (p : Int) + 2) ∧ T 286 0 (3 * (p : Int) + 2) ≤ 8)
theorem pp_e {T T' : Zt} {n : Int} : ∀ {p : Nat} {s w : Int}, pp_ T n p s w → (∀ j, j < 3 * (p : Int) → T' 286 0 j = T 286 0 j) → pp_ T' n p s w
  | 0, _, _, h, _ => h
  | p + 1, _, _, h, e => by
      unfold pp_
      rw [e (3 * (p : Int)) (by omega), e (3 * (p : Int) + 1) (by omega), e (3 * (p : Int) + 2) (by omega)]
      exact ⟨pp_e h.1 (fun j hj => e j (by omega)), h.2⟩
theorem pp_s {T T' : Zt} {n a b c : Int} {p : Nat} {s w : Int} (h : pp_ T n p s w) (e : ∀ j, j < 3 * (p : Int) → T' 286 0 j = T 286 0 j) (e1 : T' 286 0 (3 * (p : Int)) = a) (e2 : T' 286 0 (3 * (p : Int) + 1) = b) (e3 : T' 286 0 (3 * (p : Int) + 2) = c) (hb : 0 ≤ a ∧ a ≤ b ∧ (a < b ∨ p = 0) ∧ b ≤ n ∧ 0 ≤ c ∧ c ≤ 8) : pp_ T' n (p + 1) (s + (b - a)) (w + wt_ (b - a) c) := by
  unfold pp_
  rw [e1, e2, e3]
  refine ⟨?_, hb⟩
  rw [show s + (b - a) - (b - a) = s by omega, show w + wt_ (b - a) c - wt_ (b - a) c = w by omega]
  exact pp_e h e
theorem wt_1 {s k : Int} (h : k ≤ 8) : 1 ≤ wt_ s k := by
  have : 0 ≤ s * s := by
    rcases Int.le_total 0 s with z | z
    · exact Int.mul_nonneg z z
    · exact Int.mul_nonneg_of_nonpos_of_nonpos z z
  unfold wt_; omega
theorem pp_n {T : Zt} {n : Int} : ∀ {p : Nat} {s w : Int}, pp_ T n p s w → 0 ≤ s ∧ (p : Int) ≤ w ∧ (p : Int) ≤ s + 1
  | 0, _, _, h => by obtain ⟨rfl, rfl⟩ := h; exact ⟨by decide, by decide, by decide⟩
  | p + 1, s, w, h => by
      have i := pp_n h.1
      have k := wt_1 (s := T 286 0 (3 * (p : Int) + 1) - T 286 0 (3 * (p : Int))) h.2.2.2.2.2.2
      have g := h.2
      omega
/-- two parts weigh less than one -/
theorem wt_2 {x s : Int} (hx : 1 ≤ x) (hs : 1 ≤ s) : 10 * (x * x) + 10 * (s * s) + 20 ≤ 10 * ((x + s) * (x + s)) := by
  have p : 1 ≤ x * s := Int.mul_pos hx hs
  have e : (x + s) * (x + s) = x * x + x * s + (x * s + s * s) := by
    rw [Int.add_mul, Int.mul_add, Int.mul_add, Int.mul_comm s x]
  omega
theorem or_b {x y : Int} (hx : 0 ≤ x ∧ x ≤ 4095) (hy : 0 ≤ y ∧ y ≤ 4095) : 0 ≤ or_ x y ∧ or_ x y ≤ 4095 := by
  have ex : (Int32.ofInt x).toBitVec.toNat = x.toNat := by
    show (BitVec.ofInt 32 x).toNat = x.toNat
    rw [BitVec.toNat_ofInt]; omega
  have ey : (Int32.ofInt y).toBitVec.toNat = y.toNat := by
    show (BitVec.ofInt 32 y).toNat = y.toNat
    rw [BitVec.toNat_ofInt]; omega
  have h : ((Int32.ofInt x).toBitVec ||| (Int32.ofInt y).toBitVec).toNat < 2 ^ 12 := by
    rw [BitVec.toNat_or, ex, ey]
    exact Nat.or_lt_two_pow (by omega) (by omega)
  show 0 ≤ ((Int32.ofInt x).toBitVec ||| (Int32.ofInt y).toBitVec).toInt ∧ ((Int32.ofInt x).toBitVec ||| (Int32.ofInt y).toBitVec).toInt ≤ 4095
  rw [BitVec.toInt_eq_toNat_cond]
  split <;> omega
theorem sl_b {c : Int} (h : 0 ≤ c ∧ c ≤ 11) : 0 ≤ sl_ 1 c ∧ sl_ 1 c ≤ 4095 := by
  rcases (by omega : c = 0 ∨ c = 1 ∨ c = 2 ∨ c = 3 ∨ c = 4 ∨ c = 5 ∨ c = 6 ∨ c = 7 ∨ c = 8 ∨ c = 9 ∨ c = 10 ∨ c = 11) with rfl | rfl | rfl | rfl | rfl | rfl | rfl | rfl | rfl | rfl | rfl | rfl <;> decide
/-- the pile with its bottom hidden -/
def PQ_ (T : Zt) (n s w : Int) : Prop := ∃ (p : Nat) (w' : Int), T 111 0 87 = 3 * (p : Int) ∧ pp_ T n p s w' ∧ w' ≤ w
/-- one part is taken from the pile -/
theorem pq_p {T U : Zt} {n s w : Int} (h : PQ_ T n s w) (g : 0 < T 111 0 87) (e : ∀ j, U 286 0 j = T 286 0 j) (e2 : U 111 0 87 = T 111 0 87 - 3) :
    PQ_ U n (s - (T 286 0 (T 111 0 87 - 3 + 1) - T 286 0 (T 111 0 87 - 3))) (w - wt_ (T 286 0 (T 111 0 87 - 3 + 1) - T 286 0 (T 111 0 87 - 3)) (T 286 0 (T 111 0 87 - 3 + 2))) ∧
    (0 ≤ T 286 0 (T 111 0 87 - 3) ∧ T 286 0 (T 111 0 87 - 3) ≤ T 286 0 (T 111 0 87 - 3 + 1) ∧ T 286 0 (T 111 0 87 - 3 + 1) ≤ n ∧ 0 ≤ T 286 0 (T 111 0 87 - 3 + 2) ∧ T 286 0 (T 111 0 87 - 3 + 2) ≤ 8) ∧
    1 ≤ wt_ (T 286 0 (T 111 0 87 - 3 + 1) - T 286 0 (T 111 0 87 - 3)) (T 286 0 (T 111 0 87 - 3 + 2)) ∧ 0 ≤ w - wt_ (T 286 0 (T 111 0 87 - 3 + 1) - T 286 0 (T 111 0 87 - 3)) (T 286 0 (T 111 0 87 - 3 + 2)) ∧ 0 ≤ s - (T 286 0 (T 111 0 87 - 3 + 1) - T 286 0 (T 111 0 87 - 3)) ∧ 3 ≤ T 111 0 87 ∧ T 111 0 87 ≤ 3 * (s + 1) := by
  obtain ⟨p, w', a, b, c⟩ := h
  cases p with
  | zero => omega
  | succ p =>
    have q0 := pp_n b
    rw [show T 111 0 87 - 3 = 3 * (p : Int) by omega]
    have q := pp_n b.1
    have hb := b.2
    have k1 := wt_1 (s := T 286 0 (3 * (p : Int) + 1) - T 286 0 (3 * (p : Int))) hb.2.2.2.2.2
    exact ⟨⟨p, _, by omega, pp_e b.1 (fun j _ => e j), by omega⟩, ⟨hb.1, hb.2.1, hb.2.2.2.1, hb.2.2.2.2.1, hb.2.2.2.2.2⟩, k1, by omega, by omega, by omega, by omega⟩
theorem pp_l {T T3 U : Zt} {n a b q s w2 : Int} {p : Nat} (h : pp_ T n p s w2) (h87 : T 111 0 87 = 3 * (p : Int)) (g : ∀ j, T3 286 0 j = T 286 0 j) (g87 : T3 111 0 87 = T 111 0 87)
    (po : U 111 0 87 = T3 111 0 87 + 3 ∧ U 286 0 (T3 111 0 87) = a ∧ U 286 0 (T3 111 0 87 + 1) = b ∧ U 286 0 (T3 111 0 87 + 2) = q ∧ ∀ j, j < T3 111 0 87 → U 286 0 j = T3 286 0 j)
    (hb : 0 ≤ a ∧ a ≤ b ∧ (a < b ∨ p = 0) ∧ b ≤ n ∧ 0 ≤ q ∧ q ≤ 8) : pp_ U n (p + 1) (s + (b - a)) (w2 + wt_ (b - a) q) := by
  rw [g87, h87] at po
  exact pp_s h (fun j hj => (po.2.2.2.2 j hj).trans (g j)) po.2.1 po.2.2.1 po.2.2.2.1 hb
/-- how far the laying of the parts of [f, t) is -/
def ST_ (A : Prop) (f t k w st w2 : Int) : Prop := (st = f ∧ w2 ≤ w ∧ A) ∨ (f < st ∧ st < t ∧ w2 ≤ w + 10 * ((st - f) * (st - f)) + 9) ∨ (st = t ∧ f < t ∧ w2 ≤ w + wt_ (t - f) k - 1)
theorem st_l {A A' : Prop} {f t k w st w2 i q : Int} (h : ST_ A f t k w st w2) (hk : 0 ≤ k ∧ k ≤ 7) (hq : 0 ≤ q) (hi : f ≤ st ∧ st < i ∧ i ≤ t) (ha : A → i = t → q = k + 1) : ST_ A' f t k w i (w2 + wt_ (i - st) q) := by
  rcases h with ⟨rfl, h2, hA⟩ | ⟨h1, h2, h3⟩ | ⟨h1, _⟩
  · by_cases z : i = t
    · subst z
      have := ha hA rfl
      subst this
      exact Or.inr (Or.inr ⟨rfl, hi.2.1, by unfold wt_; omega⟩)
    · exact Or.inr (Or.inl ⟨hi.2.1, by omega, by unfold wt_; omega⟩)
  · have p := wt_2 (x := st - f) (s := i - st) (by omega) (by omega)
    rw [show st - f + (i - st) = i - f by omega] at p
    by_cases z : i = t
    · subst z
      exact Or.inr (Or.inr ⟨rfl, by omega, by unfold wt_; omega⟩)
    · exact Or.inr (Or.inl ⟨by omega, by omega, by unfold wt_; omega⟩)
  · omega
theorem st_a {A A' : Prop} {f t k w st w2 : Int} (h : ST_ A f t k w st w2) (g : A → A') : ST_ A' f t k w st w2 := by
  rcases h with ⟨a, b, c⟩ | h | h
  · exact Or.inl ⟨a, b, g c⟩
  · exact Or.inr (Or.inl h)
  · exact Or.inr (Or.inr h)
theorem st_z {A : Prop} {f t k w w2 : Int} (h : ST_ A f t k w t w2) (z : f < t) : w2 ≤ w + wt_ (t - f) k - 1 := by
  rcases h with ⟨a, _⟩ | ⟨_, a, _⟩ | ⟨_, _, a⟩
  · omega
  · omega
  · exact a

theorem EQ_e {T T1 : Zt} {a b i : Int} (e : ∀ j, T1 284 0 j = T 284 0 j) (h : EQ_ T1 a b i) : EQ_ T a b i := fun j p q => by
  have := h j p q
  rw [e, e] at this
  exact this
theorem oc_f {T T1 : Zt} {n v : Int} (h : OC_ T n v) (e : ∀ j, T1 277 0 j = T 277 0 j) : OC_ T1 n v := by
  obtain ⟨j, a, b, c⟩ := h
  exact ⟨j, a, b, (e j).trans c⟩
abbrev cX11_orderPart : ByteArray := prog_13_method_92_code
def yX11_orderPart : MethodName := ⟨RX11, "orderPart", "(IIIII)V"⟩
def zX11_orderPart : Zm := (RX11, cX11_orderPart, 10, none, { frames := 3, cells := 0, slots := 0, locals := 74 })
set_option maxRecDepth 100000 in
theorem cl_X11_520 : cv_ RX11 520 yX11_lay zX11_lay 11 3 := ⟨gi_V (lwq_9 (dqc_m (dqc_m (dqc_m (dqc_m (dqc_m (dqa_m (dqa_m (List.mem_of_getElem? (i := 6) rfl)))))))) rfl : Cond.methodLink RX11 520 yX11_lay ∈ lw_g) (lwq_9 (dqc_m (dqc_m (dqc_m (dqc_m (dqc_m (dqa_m (dqa_m (dqa_m (List.mem_of_getElem? (i := 0) rfl))))))))) rfl : Cond.instanceMethod yX11_lay ∈ lw_g) (lw_sel 30 rfl : Cond.selects yX11_lay.cls yX11_lay yX11_lay ∈ lw_g) (lwq_1 (dqa_m (List.mem_of_getElem? (i := 2) rfl)) rfl : Cond.initialized yX11_lay.cls ∈ lw_g) (lwq_9 (dqc_m (dqc_m (dqc_m (dqc_m (dqc_m (dqa_m (dqa_m (dqa_m (List.mem_of_getElem? (i := 1) rfl))))))))) rfl : Cond.code yX11_lay cX11_lay 4 none ∈ lw_g), ⟨nmh_1.1, nmh_1.2, pdq_3⟩, ⟨_, _, rfl⟩⟩
theorem bk_X11_orderPart_193 : ck_ fX11 none cX11_orderPart 193 [.iload 8, .istore 6, .iinc 8 1, .goto 91] 203 = true := qck_r (nn_ _) (by decide +kernel)
theorem bs_X11_orderPart_193 {P : Zt → Option Zv → Prop} (K : Int → Zl → List Zv → Zt → Prop) : sx_ K P [.iload 8, .istore 6, .iinc 8 1, .goto 91] 203 = x_iload 8 (x_istore 6 (x_iinc 8 1 (x_goto 91 K))) := ((xe_iload 8).trans (congrArg (x_iload 8) ((xe_istore 6).trans (congrArg (x_istore 6) ((xe_iinc 8 1).trans (congrArg (x_iinc 8 1) (xe_goto 91)))))))
theorem bk_X11_orderPart_158 : ck_ fX11 none cX11_orderPart 158 [.iload 9, .ifCond .eq 197, .aload 0, .iload 6, .iload 8, .iload 7, .ifCond .ne 182, .aload 0, .iload 1, .iconst 5] 176 = true := qck_r (nn_ _) (by decide +kernel)
theorem bs_X11_orderPart_158 {P : Zt → Option Zv → Prop} (K : Int → Zl → List Zv → Zt → Prop) : sx_ K P [.iload 9, .ifCond .eq 197, .aload 0, .iload 6, .iload 8, .iload 7, .ifCond .ne 182, .aload 0, .iload 1, .iconst 5] 176 = x_iload 9 (x_ifCond .eq 197 K (x_aload 0 (x_iload 6 (x_iload 8 (x_iload 7 (x_ifCond .ne 182 K (x_aload 0 (x_iload 1 (x_iconst 5 (K 176)))))))))) := ((xe_iload 9).trans (congrArg (x_iload 9) ((xe_ifCond .eq 197).trans (congrArg (x_ifCond .eq 197 K) ((xe_aload 0).trans (congrArg (x_aload 0) ((xe_iload 6).trans (congrArg (x_iload 6) ((xe_iload 8).trans (congrArg (x_iload 8) ((xe_iload 7).trans (congrArg (x_iload 7) ((xe_ifCond .ne 182).trans (congrArg (x_ifCond .ne 182 K) ((xe_aload 0).trans (congrArg (x_aload 0) ((xe_iload 1).trans (congrArg (x_iload 1) ((xe_iconst 5).trans (congrArg (x_iconst 5) xe_nil))))))))))))))))))))
theorem bk_X11_orderPart_197 : ck_ fX11 none cX11_orderPart 197 [.iinc 8 1, .goto 91] 203 = true := qck_r (nn_ _) (by decide +kernel)
theorem bs_X11_orderPart_197 {P : Zt → Option Zv → Prop} (K : Int → Zl → List Zv → Zt → Prop) : sx_ K P [.iinc 8 1, .goto 91] 203 = x_iinc 8 1 (x_goto 91 K) := ((xe_iinc 8 1).trans (congrArg (x_iinc 8 1) (xe_goto 91)))
theorem bk_X11_orderPart_182 : ck_ fX11 none cX11_orderPart 182 [.iload 5, .iconst 1, .iadd, .goto 190] 189 = true := qck_r (nn_ _) (by decide +kernel)
theorem bs_X11_orderPart_182 {P : Zt → Option Zv → Prop} (K : Int → Zl → List Zv → Zt → Prop) : sx_ K P [.iload 5, .iconst 1, .iadd, .goto 190] 189 = x_iload 5 (x_iconst 1 (x_iadd (x_goto 190 K))) := ((xe_iload 5).trans (congrArg (x_iload 5) ((xe_iconst 1).trans (congrArg (x_iconst 1) ((xe_iadd).trans (congrArg (x_iadd) (xe_goto 190)))))))
theorem bk_X11_orderPart_179 : ck_ fX11 none cX11_orderPart 179 [.ifCond .ne 189, .iload 5, .iconst 1, .iadd, .goto 190] 189 = true := qck_r (nn_ _) (by decide +kernel)
theorem bs_X11_orderPart_179 {P : Zt → Option Zv → Prop} (K : Int → Zl → List Zv → Zt → Prop) : sx_ K P [.ifCond .ne 189, .iload 5, .iconst 1, .iadd, .goto 190] 189 = x_ifCond .ne 189 K (x_iload 5 (x_iconst 1 (x_iadd (x_goto 190 K)))) := ((xe_ifCond .ne 189).trans (congrArg (x_ifCond .ne 189 K) ((xe_iload 5).trans (congrArg (x_iload 5) ((xe_iconst 1).trans (congrArg (x_iconst 1) ((xe_iadd).trans (congrArg (x_iadd) (xe_goto 190)))))))))
theorem bk_X11_orderPart_189 : ck_ fX11 none cX11_orderPart 189 [.iconst 0] 190 = true := qck_r (nn_ _) (by decide +kernel)
theorem bs_X11_orderPart_189 {P : Zt → Option Zv → Prop} (K : Int → Zl → List Zv → Zt → Prop) : sx_ K P [.iconst 0] 190 = x_iconst 0 (K 190) := ((xe_iconst 0).trans (congrArg (x_iconst 0) xe_nil))
theorem bk_X11_orderPart_91 : ck_ fX11 none cX11_orderPart 91 [.iload 8, .iload 4, .if_icmp .gt 203, .iload 8, .iload 4, .if_icmp .eq 128, .aload 0, .aload 0, .tableswitch 0 11 77 #[], .iload 8, .iconst 1, .isub, .iaload, .aload 0, .tableswitch 0 11 77 #[], .iload 8, .iaload] 122 = true := qck_r (nn_ _) (by decide +kernel)
theorem bs_X11_orderPart_91 {P : Zt → Option Zv → Prop} (K : Int → Zl → List Zv → Zt → Prop) : sx_ K P [.iload 8, .iload 4, .if_icmp .gt 203, .iload 8, .iload 4, .if_icmp .eq 128, .aload 0, .aload 0, .tableswitch 0 11 77 #[], .iload 8, .iconst 1, .isub, .iaload, .aload 0, .tableswitch 0 11 77 #[], .iload 8, .iaload] 122 = x_iload 8 (x_iload 4 (x_if_icmp .gt 203 K (x_iload 8 (x_iload 4 (x_if_icmp .eq 128 K (x_aload 0 (x_aload 0 (x_g1 111 277 (x_iload 8 (x_iconst 1 (x_isub (x_iaload (x_aload 0 (x_g1 111 277 (x_iload 8 (x_iaload (K 122))))))))))))))))) := ((xe_iload 8).trans (congrArg (x_iload 8) ((xe_iload 4).trans (congrArg (x_iload 4) ((xe_if_icmp .gt 203).trans (congrArg (x_if_icmp .gt 203 K) ((xe_iload 8).trans (congrArg (x_iload 8) ((xe_iload 4).trans (congrArg (x_iload 4) ((xe_if_icmp .eq 128).trans (congrArg (x_if_icmp .eq 128 K) ((xe_aload 0).trans (congrArg (x_aload 0) ((xe_aload 0).trans (congrArg (x_aload 0) ((xe_g1 (kk := 111) rfl tl_11_77).trans (congrArg (x_g1 111 277) ((xe_iload 8).trans (congrArg (x_iload 8) ((xe_iconst 1).trans (congrArg (x_iconst 1) ((xe_isub).trans (congrArg (x_isub) ((xe_iaload).trans (congrArg (x_iaload) ((xe_aload 0).trans (congrArg (x_aload 0) ((xe_g1 (kk := 111) rfl tl_11_77).trans (congrArg (x_g1 111 277) ((xe_iload 8).trans (congrArg (x_iload 8) ((xe_iaload).trans (congrArg (x_iaload) xe_nil))))))))))))))))))))))))))))))))))
theorem bk_X11_orderPart_203 : ck_ fX11 none cX11_orderPart 203 [.return_] 204 = true := qck_r (nn_ _) (by decide +kernel)
theorem bs_X11_orderPart_203 {P : Zt → Option Zv → Prop} (K : Int → Zl → List Zv → Zt → Prop) : sx_ K P [.return_] 204 = x_return_ P := (xe_return_)
theorem bk_X11_orderPart_128 : ck_ fX11 none cX11_orderPart 128 [.iconst 1, .goto 133] 132 = true := qck_r (nn_ _) (by decide +kernel)
theorem bs_X11_orderPart_128 {P : Zt → Option Zv → Prop} (K : Int → Zl → List Zv → Zt → Prop) : sx_ K P [.iconst 1, .goto 133] 132 = x_iconst 1 (x_goto 133 K) := ((xe_iconst 1).trans (congrArg (x_iconst 1) (xe_goto 133)))
theorem bk_X11_orderPart_133 : ck_ fX11 none cX11_orderPart 133 [.istore 9, .iload 9, .ifCond .eq 158, .iload 8, .iload 4, .if_icmp .ge 158, .aload 0, .tableswitch 0 11 78 #[], .iload 8, .iconst 1, .isub, .iload 5, .iastore] 158 = true := qck_r (nn_ _) (by decide +kernel)
theorem bs_X11_orderPart_133 {P : Zt → Option Zv → Prop} (K : Int → Zl → List Zv → Zt → Prop) : sx_ K P [.istore 9, .iload 9, .ifCond .eq 158, .iload 8, .iload 4, .if_icmp .ge 158, .aload 0, .tableswitch 0 11 78 #[], .iload 8, .iconst 1, .isub, .iload 5, .iastore] 158 = x_istore 9 (x_iload 9 (x_ifCond .eq 158 K (x_iload 8 (x_iload 4 (x_if_icmp .ge 158 K (x_aload 0 (x_g1 111 278 (x_iload 8 (x_iconst 1 (x_isub (x_iload 5 (x_iastore (K 158))))))))))))) := ((xe_istore 9).trans (congrArg (x_istore 9) ((xe_iload 9).trans (congrArg (x_iload 9) ((xe_ifCond .eq 158).trans (congrArg (x_ifCond .eq 158 K) ((xe_iload 8).trans (congrArg (x_iload 8) ((xe_iload 4).trans (congrArg (x_iload 4) ((xe_if_icmp .ge 158).trans (congrArg (x_if_icmp .ge 158 K) ((xe_aload 0).trans (congrArg (x_aload 0) ((xe_g1 (kk := 111) rfl tl_11_78).trans (congrArg (x_g1 111 278) ((xe_iload 8).trans (congrArg (x_iload 8) ((xe_iconst 1).trans (congrArg (x_iconst 1) ((xe_isub).trans (congrArg (x_isub) ((xe_iload 5).trans (congrArg (x_iload 5) ((xe_iastore).trans (congrArg (x_iastore) xe_nil))))))))))))))))))))))))))
theorem bk_X11_orderPart_125 : ck_ fX11 none cX11_orderPart 125 [.ifCond .eq 132, .iconst 1, .goto 133] 132 = true := qck_r (nn_ _) (by decide +kernel)
theorem bs_X11_orderPart_125 {P : Zt → Option Zv → Prop} (K : Int → Zl → List Zv → Zt → Prop) : sx_ K P [.ifCond .eq 132, .iconst 1, .goto 133] 132 = x_ifCond .eq 132 K (x_iconst 1 (x_goto 133 K)) := ((xe_ifCond .eq 132).trans (congrArg (x_ifCond .eq 132 K) ((xe_iconst 1).trans (congrArg (x_iconst 1) (xe_goto 133)))))
theorem bk_X11_orderPart_132 : ck_ fX11 none cX11_orderPart 132 [.iconst 0, .istore 9, .iload 9, .ifCond .eq 158, .iload 8, .iload 4, .if_icmp .ge 158, .aload 0, .tableswitch 0 11 78 #[], .iload 8, .iconst 1, .isub, .iload 5, .iastore] 158 = true := qck_r (nn_ _) (by decide +kernel)
theorem bs_X11_orderPart_132 {P : Zt → Option Zv → Prop} (K : Int → Zl → List Zv → Zt → Prop) : sx_ K P [.iconst 0, .istore 9, .iload 9, .ifCond .eq 158, .iload 8, .iload 4, .if_icmp .ge 158, .aload 0, .tableswitch 0 11 78 #[], .iload 8, .iconst 1, .isub, .iload 5, .iastore] 158 = x_iconst 0 (x_istore 9 (x_iload 9 (x_ifCond .eq 158 K (x_iload 8 (x_iload 4 (x_if_icmp .ge 158 K (x_aload 0 (x_g1 111 278 (x_iload 8 (x_iconst 1 (x_isub (x_iload 5 (x_iastore (K 158)))))))))))))) := ((xe_iconst 0).trans (congrArg (x_iconst 0) ((xe_istore 9).trans (congrArg (x_istore 9) ((xe_iload 9).trans (congrArg (x_iload 9) ((xe_ifCond .eq 158).trans (congrArg (x_ifCond .eq 158 K) ((xe_iload 8).trans (congrArg (x_iload 8) ((xe_iload 4).trans (congrArg (x_iload 4) ((xe_if_icmp .ge 158).trans (congrArg (x_if_icmp .ge 158 K) ((xe_aload 0).trans (congrArg (x_aload 0) ((xe_g1 (kk := 111) rfl tl_11_78).trans (congrArg (x_g1 111 278) ((xe_iload 8).trans (congrArg (x_iload 8) ((xe_iconst 1).trans (congrArg (x_iconst 1) ((xe_isub).trans (congrArg (x_isub) ((xe_iload 5).trans (congrArg (x_iload 5) ((xe_iastore).trans (congrArg (x_iastore) xe_nil))))))))))))))))))))))))))))
theorem bk_X11_orderPart_84 : ck_ fX11 none cX11_orderPart 84 [.istore 7, .iload 3, .iconst 1, .iadd, .istore 8] 91 = true := qck_r (nn_ _) (by decide +kernel)
theorem bs_X11_orderPart_84 {P : Zt → Option Zv → Prop} (K : Int → Zl → List Zv → Zt → Prop) : sx_ K P [.istore 7, .iload 3, .iconst 1, .iadd, .istore 8] 91 = x_istore 7 (x_iload 3 (x_iconst 1 (x_iadd (x_istore 8 (K 91))))) := ((xe_istore 7).trans (congrArg (x_istore 7) ((xe_iload 3).trans (congrArg (x_iload 3) ((xe_iconst 1).trans (congrArg (x_iconst 1) ((xe_iadd).trans (congrArg (x_iadd) ((xe_istore 8).trans (congrArg (x_istore 8) xe_nil))))))))))
theorem bk_X11_orderPart_8 : ck_ fX11 none cX11_orderPart 8 [.iload 6, .iload 4, .if_icmp .ge 39, .aload 0, .aload 0, .tableswitch 0 11 85 #[], .iconst 1, .aload 0, .tableswitch 0 11 77 #[], .iload 6, .iaload, .ishl, .ior, .tableswitch 1 11 85 #[], .iinc 6 1, .goto 8] 39 = true := qck_r (nn_ _) (by decide +kernel)
theorem bs_X11_orderPart_8 {P : Zt → Option Zv → Prop} (K : Int → Zl → List Zv → Zt → Prop) : sx_ K P [.iload 6, .iload 4, .if_icmp .ge 39, .aload 0, .aload 0, .tableswitch 0 11 85 #[], .iconst 1, .aload 0, .tableswitch 0 11 77 #[], .iload 6, .iaload, .ishl, .ior, .tableswitch 1 11 85 #[], .iinc 6 1, .goto 8] 39 = x_iload 6 (x_iload 4 (x_if_icmp .ge 39 K (x_aload 0 (x_aload 0 (x_g0 111 85 0 4095 (x_iconst 1 (x_aload 0 (x_g1 111 277 (x_iload 6 (x_iaload (x_ishl (x_ior (x_p 111 85 0 4095 (x_iinc 6 1 (x_goto 8 K))))))))))))))) := ((xe_iload 6).trans (congrArg (x_iload 6) ((xe_iload 4).trans (congrArg (x_iload 4) ((xe_if_icmp .ge 39).trans (congrArg (x_if_icmp .ge 39 K) ((xe_aload 0).trans (congrArg (x_aload 0) ((xe_aload 0).trans (congrArg (x_aload 0) ((xe_g0 (kk := 111) rfl tl_11_85).trans (congrArg (x_g0 111 85 0 4095) ((xe_iconst 1).trans (congrArg (x_iconst 1) ((xe_aload 0).trans (congrArg (x_aload 0) ((xe_g1 (kk := 111) rfl tl_11_77).trans (congrArg (x_g1 111 277) ((xe_iload 6).trans (congrArg (x_iload 6) ((xe_iaload).trans (congrArg (x_iaload) ((xe_ishl).trans (congrArg (x_ishl) ((xe_ior).trans (congrArg (x_ior) ((xe_p (kk := 111) rfl tl_11_85).trans (congrArg (x_p 111 85 0 4095) ((xe_iinc 6 1).trans (congrArg (x_iinc 6 1) (xe_goto 8)))))))))))))))))))))))))))))))
theorem bk_X11_orderPart_39 : ck_ fX11 none cX11_orderPart 39 [.aload 0, .iload 1, .iload 2, .iload 5] 44 = true := qck_r (nn_ _) (by decide +kernel)
theorem bs_X11_orderPart_39 {P : Zt → Option Zv → Prop} (K : Int → Zl → List Zv → Zt → Prop) : sx_ K P [.aload 0, .iload 1, .iload 2, .iload 5] 44 = x_aload 0 (x_iload 1 (x_iload 2 (x_iload 5 (K 44)))) := ((xe_aload 0).trans (congrArg (x_aload 0) ((xe_iload 1).trans (congrArg (x_iload 1) ((xe_iload 2).trans (congrArg (x_iload 2) ((xe_iload 5).trans (congrArg (x_iload 5) xe_nil))))))))
set_option maxRecDepth 100000 in
theorem cl_X11_526 : cv_ RX11 526 yX11_say zX11_say 11 3 := ⟨gi_V (lwq_9 (dqc_m (dqc_m (dqc_m (dqc_m (dqc_m (dqa_m (dqa_m (dqa_m (List.mem_of_getElem? (i := 6) rfl))))))))) rfl : Cond.methodLink RX11 526 yX11_say ∈ lw_g) (lwq_9 (dqc_m (dqc_m (dqc_m (dqc_m (dqc_m (dqc_m (List.mem_of_getElem? (i := 0) rfl))))))) rfl : Cond.instanceMethod yX11_say ∈ lw_g) (lw_sel 60 rfl : Cond.selects yX11_say.cls yX11_say yX11_say ∈ lw_g) (lwq_1 (dqa_m (List.mem_of_getElem? (i := 2) rfl)) rfl : Cond.initialized yX11_say.cls ∈ lw_g) (lwq_9 (dqc_m (dqc_m (dqc_m (dqc_m (dqc_m (dqc_m (List.mem_of_getElem? (i := 1) rfl))))))) rfl : Cond.code yX11_say cX11_say 7 none ∈ lw_g), ⟨nmh_1.1, nmh_1.2, pdq_3⟩, ⟨_, _, rfl⟩⟩
theorem bk_X11_orderPart_47 : ck_ fX11 none cX11_orderPart 47 [.aload 0, .iload 3, .iload 4] 51 = true := qck_r (nn_ _) (by decide +kernel)
theorem bs_X11_orderPart_47 {P : Zt → Option Zv → Prop} (K : Int → Zl → List Zv → Zt → Prop) : sx_ K P [.aload 0, .iload 3, .iload 4] 51 = x_aload 0 (x_iload 3 (x_iload 4 (K 51))) := ((xe_aload 0).trans (congrArg (x_aload 0) ((xe_iload 3).trans (congrArg (x_iload 3) ((xe_iload 4).trans (congrArg (x_iload 4) xe_nil))))))
set_option maxRecDepth 100000 in
theorem cl_X11_529 : cv_ RX11 529 yX11_sortPart zX11_sortPart 11 2 := ⟨gi_V (lwq_9 (dqc_m (dqc_m (dqc_m (dqc_m (dqc_m (dqc_m (dqa_m (List.mem_of_getElem? (i := 4) rfl)))))))) rfl : Cond.methodLink RX11 529 yX11_sortPart ∈ lw_g) (lwq_9 (dqc_m (dqc_m (dqc_m (dqc_m (dqc_m (dqc_m (dqa_m (List.mem_of_getElem? (i := 6) rfl)))))))) rfl : Cond.instanceMethod yX11_sortPart ∈ lw_g) (lw_sel 68 rfl : Cond.selects yX11_sortPart.cls yX11_sortPart yX11_sortPart ∈ lw_g) (lwq_1 (dqa_m (List.mem_of_getElem? (i := 2) rfl)) rfl : Cond.initialized yX11_sortPart.cls ∈ lw_g) (lwq_9 (dqc_m (dqc_m (dqc_m (dqc_m (dqc_m (dqc_m (dqa_m (List.mem_of_getElem? (i := 7) rfl)))))))) rfl : Cond.code yX11_sortPart cX11_sortPart 6 none ∈ lw_g), ⟨nmh_1.1, nmh_1.2, pdq_0⟩, ⟨_, _, rfl⟩⟩
theorem bk_X11_orderPart_54 : ck_ fX11 none cX11_orderPart 54 [.iload 3, .istore 6, .aload 0, .aload 0, .tableswitch 0 11 77 #[], .iload 3, .iaload, .aload 0, .tableswitch 0 11 77 #[], .iload 4, .iconst 1, .isub, .iaload] 73 = true := qck_r (nn_ _) (by decide +kernel)
theorem bs_X11_orderPart_54 {P : Zt → Option Zv → Prop} (K : Int → Zl → List Zv → Zt → Prop) : sx_ K P [.iload 3, .istore 6, .aload 0, .aload 0, .tableswitch 0 11 77 #[], .iload 3, .iaload, .aload 0, .tableswitch 0 11 77 #[], .iload 4, .iconst 1, .isub, .iaload] 73 = x_iload 3 (x_istore 6 (x_aload 0 (x_aload 0 (x_g1 111 277 (x_iload 3 (x_iaload (x_aload 0 (x_g1 111 277 (x_iload 4 (x_iconst 1 (x_isub (x_iaload (K 73))))))))))))) := ((xe_iload 3).trans (congrArg (x_iload 3) ((xe_istore 6).trans (congrArg (x_istore 6) ((xe_aload 0).trans (congrArg (x_aload 0) ((xe_aload 0).trans (congrArg (x_aload 0) ((xe_g1 (kk := 111) rfl tl_11_77).trans (congrArg (x_g1 111 277) ((xe_iload 3).trans (congrArg (x_iload 3) ((xe_iaload).trans (congrArg (x_iaload) ((xe_aload 0).trans (congrArg (x_aload 0) ((xe_g1 (kk := 111) rfl tl_11_77).trans (congrArg (x_g1 111 277) ((xe_iload 4).trans (congrArg (x_iload 4) ((xe_iconst 1).trans (congrArg (x_iconst 1) ((xe_isub).trans (congrArg (x_isub) ((xe_iaload).trans (congrArg (x_iaload) xe_nil))))))))))))))))))))))))))
theorem bk_X11_orderPart_76 : ck_ fX11 none cX11_orderPart 76 [.ifCond .ne 83, .iconst 1, .goto 84] 83 = true := qck_r (nn_ _) (by decide +kernel)
theorem bs_X11_orderPart_76 {P : Zt → Option Zv → Prop} (K : Int → Zl → List Zv → Zt → Prop) : sx_ K P [.ifCond .ne 83, .iconst 1, .goto 84] 83 = x_ifCond .ne 83 K (x_iconst 1 (x_goto 84 K)) := ((xe_ifCond .ne 83).trans (congrArg (x_ifCond .ne 83 K) ((xe_iconst 1).trans (congrArg (x_iconst 1) (xe_goto 84)))))
theorem bk_X11_orderPart_83 : ck_ fX11 none cX11_orderPart 83 [.iconst 0] 84 = true := qck_r (nn_ _) (by decide +kernel)
theorem bs_X11_orderPart_83 {P : Zt → Option Zv → Prop} (K : Int → Zl → List Zv → Zt → Prop) : sx_ K P [.iconst 0] 84 = x_iconst 0 (K 84) := ((xe_iconst 0).trans (congrArg (x_iconst 0) xe_nil))
theorem bk_X11_orderPart_0 : ck_ fX11 none cX11_orderPart 0 [.aload 0, .iconst 0, .tableswitch 1 11 85 #[], .iload 3, .istore 6] 8 = true := qck_r (nn_ _) (by decide +kernel)
theorem bs_X11_orderPart_0 {P : Zt → Option Zv → Prop} (K : Int → Zl → List Zv → Zt → Prop) : sx_ K P [.aload 0, .iconst 0, .tableswitch 1 11 85 #[], .iload 3, .istore 6] 8 = x_aload 0 (x_iconst 0 (x_p 111 85 0 4095 (x_iload 3 (x_istore 6 (K 8))))) := ((xe_aload 0).trans (congrArg (x_aload 0) ((xe_iconst 0).trans (congrArg (x_iconst 0) ((xe_p (kk := 111) rfl tl_11_85).trans (congrArg (x_p 111 85 0 4095) ((xe_iload 3).trans (congrArg (x_iload 3) ((xe_istore 6).trans (congrArg (x_istore 6) xe_nil))))))))))
abbrev po_X11_orderPart (T : Zt) (n : Int) (s : Int) (w : Int) (c d f t k : Int) : Zt → Option Zv → Prop := fun T' r => r = none ∧ fr_ [(284, []), (277, []), (286, []), (278, []), (111, [82, 83, 85, 87])] T T' ∧ (PQ_ T' n (s + (t - f)) (w + wt_ (t - f) k - 1) ∧ ∀ v, OC_ T n v → OC_ T' n v)
set_option maxHeartbeats 4000000 in
theorem ct_X11_orderPart {T : Zt} {n : Int} {s : Int} {w : Int} {c d f t k : Int} (h1 : 0 ≤ c ∧ c < 4) (hml : ML_ T) (hsc : SC_ T) (hk : 0 ≤ k ∧ k ≤ 7) (htb : TB_ T 150000000) (hft : 0 ≤ f ∧ f + 2 ≤ t ∧ t ≤ n ∧ n ≤ 12 ∧ s + (t - f) ≤ n) (hpq : PQ_ T n s w) : Ct_ yX11_orderPart zX11_orderPart T [vR 111 0, vI c, vI d, vI f, vI t, vI k] (po_X11_orderPart T n s w c d f t k) := by
  refine ct_of pn_11 rfl rfl (Nat.le_of_ble_eq_true rfl) (fun hT hav => ?_)
  have hr_c : -2147483648 ≤ c ∧ c ≤ 2147483647 := hav (vI c) (List.mem_cons_of_mem _ List.mem_cons_self)
  have hr_d : -2147483648 ≤ d ∧ d ≤ 2147483647 := hav (vI d) (List.mem_cons_of_mem _ (List.mem_cons_of_mem _ List.mem_cons_self))
  have hr_f : -2147483648 ≤ f ∧ f ≤ 2147483647 := hav (vI f) (List.mem_cons_of_mem _ (List.mem_cons_of_mem _ (List.mem_cons_of_mem _ List.mem_cons_self)))
  have hr_t : -2147483648 ≤ t ∧ t ≤ 2147483647 := hav (vI t) (List.mem_cons_of_mem _ (List.mem_cons_of_mem _ (List.mem_cons_of_mem _ (List.mem_cons_of_mem _ List.mem_cons_self))))
  have hr_k : -2147483648 ≤ k ∧ k ≤ 2147483647 := hav (vI k) (List.mem_cons_of_mem _ (List.mem_cons_of_mem _ (List.mem_cons_of_mem _ (List.mem_cons_of_mem _ (List.mem_cons_of_mem _ List.mem_cons_self)))))
  have hz : zX11_orderPart.2.2.2.1 = some .boolean → ∀ (T' : Zt) (x : Int), po_X11_orderPart T n s w c d f t k T' (some (vI x)) → 0 ≤ x ∧ x ≤ 1 := fun h => by cases h
  obtain ⟨p0, w0, hp0, hpp0, hw0⟩ := hpq
  show J_ zX11_orderPart T (po_X11_orderPart T n s w c d f t k) 0 0 0 [some (vR 111 0), some (vI c), some (vI d), some (vI f), some (vI t), some (vI k), none, none, none, none] [] T
  have c_84 : ∀ (g : Int) (T1 : Zt), (fr_ [(284, []), (277, []), (111, [82, 83, 85])] T T1) → ((g = 1 ∧ EQ_ T1 (T1 277 0 f) (T1 277 0 (t - 1)) 3) ∨ (g = 0 ∧ ¬ EQ_ T1 (T1 277 0 f) (T1 277 0 (t - 1)) 3)) → (SB_ T1) → (∀ v, OC_ T n v → OC_ T1 n v) → J_ zX11_orderPart T (po_X11_orderPart T n s w c d f t k) 0 0 84 [some (vR 111 0), some (vI c), some (vI d), some (vI f), some (vI t), some (vI k), some (vI f), none, none, none] [vI g] T1 := by
    intro g T1 hf_84 hg hsb1 oc1
    have c_91 : ∀ (nn : Nat) (st : Int) (i : Int) (p2 : Nat) (w2 : Int) (T2 : Zt), ((t + 1 - i).toNat) ≤ nn → (fr_ [(286, []), (278, []), (111, [87])] T1 T2) → (f ≤ st ∧ st < i ∧ i ≤ t + 1 ∧ (i = t + 1 → st = t)) → (T2 111 0 87 = 3 * (p2 : Int)) → (pp_ T2 n p2 (s + (st - f)) w2) → (ST_ (EQ_ T1 (T1 277 0 f) (T1 277 0 (i - 1)) 3) f t k w st w2) → J_ zX11_orderPart T (po_X11_orderPart T n s w c d f t k) 0 0 91 [some (vR 111 0), some (vI c), some (vI d), some (vI f), some (vI t), some (vI k), some (vI st), some (vI g), some (vI i), none] [] T2 := by
      intro nn
      induction nn using Nat.strongRecOn with
      | _ nn ih_91 =>
        intro st i p2 w2 T2 hm_91 hf_91 i2 hp2 hpp2 hst
        replace hm_91 := fun (_ : Unit) => hm_91
        have hpn := pp_n hpp2
        have c_158 : ∀ (e : Int) (T3 : Zt), (fr_ [(278, [])] T2 T3) → (0 ≤ e ∧ e ≤ 1 ∧ i ≤ t ∧ (e = 0 → i < t)) → (e = 0 → EQ_ T1 (T1 277 0 (i - 1)) (T1 277 0 i) 3) → J_ zX11_orderPart T (po_X11_orderPart T n s w c d f t k) 0 0 158 [some (vR 111 0), some (vI c), some (vI d), some (vI f), some (vI t), some (vI k), some (vI st), some (vI g), some (vI i), some (vI e)] [] T3 := by
          intro e T3 hf_158 e1 e2
          have c_190 : ∀ (q : Int), (0 ≤ q ∧ q ≤ 8 ∧ e ≠ 0) → (g = 1 → q = k + 1) → J_ zX11_orderPart T (po_X11_orderPart T n s w c d f t k) 0 0 190 [some (vR 111 0), some (vI c), some (vI d), some (vI f), some (vI t), some (vI k), some (vI st), some (vI g), some (vI i), some (vI e)] [vI q, vI i, vI st, vR 111 0] T3 := by
            intro q hq1 hq2
            have e1 : T3 111 0 87 = T2 111 0 87 := hf_158 111 0 87 rfl
            refine j_callV (y := yX11_lay) (Yc := zX11_lay) (rest := []) [vI st, vI i, vI q] (ct_X11_lay (T := T3) (by omega) (by omega) (by omega) (by omega)) cl_X11_520 (qd_c (by decide +kernel)) (nn_ _) rfl (rf_of rfl) (Nat.le_of_ble_eq_true rfl) (Nat.le_of_ble_eq_true rfl) (Nat.le_of_ble_eq_true rfl) rfl ?_
            rintro U2 _ ⟨rfl, fU2, qU2⟩
            show J_ zX11_orderPart T (po_X11_orderPart T n s w c d f t k) 0 0 193 _ [] U2
            refine j_blx (F := fX11) tb_X11 (nn_ _) bk_X11_orderPart_193 bs_X11_orderPart_193 hz (fun K hK => ?_)
            refine rg_i (by omega) ?_
            refine hK 91 [some (vR 111 0), some (vI c), some (vI d), some (vI f), some (vI t), some (vI k), some (vI i), some (vI g), some (vI (i + 1)), some (vI e)] [] U2 ?_
            refine j_drop [some (vR 111 0), some (vI c), some (vI d), some (vI f), some (vI t), some (vI k), some (vI i), some (vI g), some (vI (i + 1)), none] (fun k v hk => ?_) rfl ?_
            · match k, hk with
              | 0, hk => exact hk
              | 1, hk => exact hk
              | 2, hk => exact hk
              | 3, hk => exact hk
              | 4, hk => exact hk
              | 5, hk => exact hk
              | 6, hk => exact hk
              | 7, hk => exact hk
              | 8, hk => exact hk
              | 9, hk => cases hk
              | k + 10, hk => cases hk
            refine ih_91 _ ?_ i (i + 1) (p2 + 1) (w2 + wt_ (i - st) q) U2 (Nat.le_refl _) ?_ ?_ ?_ ?_ ?_
            · have hm_91 := hm_91 (); omega
            · exact fr_t (fr_t (fr_t (fr_0 _ _) (fr_s hf_91 rfl)) (fr_s hf_158 rfl)) (fr_s fU2 rfl)
            · omega
            · omega
            · rw [show s + (i - f) = s + (st - f) + (i - st) by omega]
              exact pp_l hpp2 hp2 (fun j => hf_158 286 0 j rfl) (hf_158 111 0 87 rfl) qU2 (by omega)
            · exact st_l hst hk (by omega) (by omega) (fun a b => hq2 (hg.elim (fun z => z.1) (fun z => absurd (b ▸ a) z.2)))
          refine j_blx (F := fX11) tb_X11 (nn_ _) bk_X11_orderPart_158 bs_X11_orderPart_158 hz (fun K hK => ?_)
          refine And.intro (fun c3 => ?_) (fun c3 => ?_)
          · refine hK 197 _ [] T3 ?_
            refine j_blx (F := fX11) tb_X11 (nn_ _) bk_X11_orderPart_197 bs_X11_orderPart_197 hz (fun K hK => ?_)
            refine rg_i (by omega) ?_
            refine hK 91 [some (vR 111 0), some (vI c), some (vI d), some (vI f), some (vI t), some (vI k), some (vI st), some (vI g), some (vI (i + 1)), some (vI e)] [] T3 ?_
            refine j_drop [some (vR 111 0), some (vI c), some (vI d), some (vI f), some (vI t), some (vI k), some (vI st), some (vI g), some (vI (i + 1)), none] (fun k v hk => ?_) rfl ?_
            · match k, hk with
              | 0, hk => exact hk
              | 1, hk => exact hk
              | 2, hk => exact hk
              | 3, hk => exact hk
              | 4, hk => exact hk
              | 5, hk => exact hk
              | 6, hk => exact hk
              | 7, hk => exact hk
              | 8, hk => exact hk
              | 9, hk => cases hk
              | k + 10, hk => cases hk
            have e4 : T3 111 0 87 = T2 111 0 87 := hf_158 111 0 87 rfl
            refine ih_91 _ ?_ st (i + 1) p2 w2 T3 (Nat.le_refl _) ?_ ?_ ?_ ?_ ?_
            · have hm_91 := hm_91 (); omega
            · exact fr_t (fr_t (fr_0 _ _) (fr_s hf_91 rfl)) (fr_s hf_158 rfl)
            · omega
            · omega
            · exact pp_e hpp2 (fun j _ => hf_158 286 0 j rfl)
            · exact st_a hst (fun a => by rw [show i + 1 - 1 = i by omega]; exact EQ_t a (e2 (by omega)))
          · refine And.intro (fun c5 => ?_) (fun c5 => ?_)
            · refine hK 182 [some (vR 111 0), some (vI c), some (vI d), some (vI f), some (vI t), some (vI k), some (vI st), some (vI g), some (vI i), some (vI e)] [vI i, vI st, vR 111 0] T3 ?_
              refine j_blx (F := fX11) tb_X11 (nn_ _) bk_X11_orderPart_182 bs_X11_orderPart_182 hz (fun K hK => ?_)
              refine rg_i (by omega) ?_
              refine hK 190 _ [vI (k + 1), vI i, vI st, vR 111 0] T3 ?_
              refine c_190 (k + 1) ?_ ?_
              · omega
              · omega
            · refine hK 176 _ [vI 5, vI c, vR 111 0, vI i, vI st, vR 111 0] T3 ?_
              refine j_callV (y := yX11_rule0) (Yc := zX11_rule0) (rest := [vI i, vI st, vR 111 0]) [vI c, vI 5] (ct_X11_rule0 (T := T3) (by omega) (by omega)) cl_X11_321 (qd_c (by decide +kernel)) (nn_ _) rfl (rf_of rfl) (Nat.le_of_ble_eq_true rfl) (Nat.le_of_ble_eq_true rfl) (Nat.le_of_ble_eq_true rfl) rfl ?_
              rintro _ _ ⟨rfl, rfl⟩
              have e6 : T3 205 0 (23 * c + 5) = T 205 0 (23 * c + 5) := (hf_158 205 0 (23 * c + 5) rfl).trans ((hf_91 205 0 (23 * c + 5) rfl).trans (hf_84 205 0 (23 * c + 5) rfl))
              show J_ zX11_orderPart T (po_X11_orderPart T n s w c d f t k) 0 0 179 _ [vI (T3 205 0 (23 * c + 5)), vI i, vI st, vR 111 0] T3
              refine j_blx (F := fX11) tb_X11 (nn_ _) bk_X11_orderPart_179 bs_X11_orderPart_179 hz (fun K hK => ?_)
              refine And.intro (fun c7 => ?_) (fun c7 => ?_)
              · refine hK 189 _ [vI i, vI st, vR 111 0] T3 ?_
                refine j_blx (F := fX11) tb_X11 (nn_ _) bk_X11_orderPart_189 bs_X11_orderPart_189 hz (fun K hK => ?_)
                refine hK 190 _ [vI 0, vI i, vI st, vR 111 0] T3 ?_
                refine c_190 0 ?_ ?_
                · omega
                · omega
              · refine rg_i (by omega) ?_
                refine hK 190 _ [vI (k + 1), vI i, vI st, vR 111 0] T3 ?_
                refine c_190 (k + 1) ?_ ?_
                · omega
                · omega
        refine j_blx (F := fX11) tb_X11 (nn_ _) bk_X11_orderPart_91 bs_X11_orderPart_91 hz (fun K hK => ?_)
        refine And.intro (fun c8 => ?_) (fun c8 => ?_)
        · refine hK 203 _ [] T2 ?_
          refine j_blx (F := fX11) tb_X11 (nn_ _) bk_X11_orderPart_203 bs_X11_orderPart_203 hz (fun K hK => ?_)
          refine (show po_X11_orderPart T n s w c d f t k T2 (none) from ?_)
          have ht : st = t := by omega
          subst ht
          refine ⟨rfl, fr_t (fr_t (fr_0 _ _) (fr_s hf_84 rfl)) (fr_s hf_91 rfl), ⟨p2, w2, hp2, hpp2, st_z hst (by omega)⟩, fun v h => oc_f (oc1 v h) (fun j => hf_91 277 0 j rfl)⟩
        · refine And.intro (fun c9 => ?_) (fun c9 => ?_)
          · refine hK 128 _ [] T2 ?_
            refine j_blx (F := fX11) tb_X11 (nn_ _) bk_X11_orderPart_128 bs_X11_orderPart_128 hz (fun K hK => ?_)
            refine hK 133 _ [vI 1] T2 ?_
            refine j_blx (F := fX11) tb_X11 (nn_ _) bk_X11_orderPart_133 bs_X11_orderPart_133 hz (fun K hK => ?_)
            refine And.intro (fun c10 => ?_) (fun c10 => ?_)
            · refine hK 158 [some (vR 111 0), some (vI c), some (vI d), some (vI f), some (vI t), some (vI k), some (vI st), some (vI g), some (vI i), some (vI 1)] [] T2 ?_
              refine c_158 1 T2 ?_ ?_ ?_
              · exact fr_0 _ _
              · omega
              · intro h9; exact absurd h9 (by decide)
            · refine And.intro (fun c11 => ?_) (fun c11 => ?_)
              · refine hK 158 _ [] T2 ?_
                refine c_158 1 T2 ?_ ?_ ?_
                · exact fr_0 _ _
                · omega
                · intro h9; exact absurd h9 (by decide)
              · refine rg_i (by omega) ?_
                refine iy_i (by omega) (by omega) ?_
                refine x_nm (fun U12 hU12 => ?_)
                have e13 := up_f hU12
                refine hK 158 _ [] U12 ?_
                refine c_158 1 U12 ?_ ?_ ?_
                · exact fr_u (fr_0 _ _) hU12 rfl
                · omega
                · intro h9; exact absurd h9 (by decide)
          · refine rg_i (by omega) ?_
            refine ix_i (by omega) ?_
            intro b14 b14b
            have e15 : T2 277 0 (i - 1) = T1 277 0 (i - 1) := hf_91 277 0 (i - 1) rfl
            rw [e15] at b14 b14b ⊢
            refine ix_i (by omega) ?_
            intro b16 b16b
            have e17 : T2 277 0 i = T1 277 0 i := hf_91 277 0 i rfl
            rw [e17] at b16 b16b ⊢
            refine hK 122 _ [vI (T1 277 0 i), vI (T1 277 0 (i - 1)), vR 111 0] T2 ?_
            refine j_callV (y := yX11_compareClubs) (Yc := zX11_compareClubs) (rest := []) [vI (T1 277 0 (i - 1)), vI (T1 277 0 i)] (ct_X11_compareClubs (T := T2) (by omega) (by omega) (by exact SB__f (ws := [(286, []), (278, []), (111, [87])]) hsb1 (fr_t (fr_0 _ _) (fr_s hf_91 rfl)) ⟨fun _ => rfl, trivial⟩)) cl_X11_511 (qd_c (by decide +kernel)) (nn_ _) rfl (rf_of rfl) (Nat.le_of_ble_eq_true rfl) (Nat.le_of_ble_eq_true rfl) (Nat.le_of_ble_eq_true rfl) rfl ?_
            rintro _ _ ⟨rfl, x18, rfl, hx18⟩
            show J_ zX11_orderPart T (po_X11_orderPart T n s w c d f t k) 0 0 125 _ [vI x18] T2
            refine j_blx (F := fX11) tb_X11 (nn_ _) bk_X11_orderPart_125 bs_X11_orderPart_125 hz (fun K hK => ?_)
            refine And.intro (fun c19 => ?_) (fun c19 => ?_)
            · refine hK 132 _ [] T2 ?_
              refine j_blx (F := fX11) tb_X11 (nn_ _) bk_X11_orderPart_132 bs_X11_orderPart_132 hz (fun K hK => ?_)
              refine And.intro (fun c20 => ?_) (fun c20 => ?_)
              · refine hK 158 [some (vR 111 0), some (vI c), some (vI d), some (vI f), some (vI t), some (vI k), some (vI st), some (vI g), some (vI i), some (vI 0)] [] T2 ?_
                refine c_158 0 T2 ?_ ?_ ?_
                · exact fr_0 _ _
                · omega
                · intro _; exact EQ_e (fun j => hf_91 284 0 j rfl) (hx18.2.resolve_right (fun z => z.1 (by omega))).2
              · refine And.intro (fun c21 => ?_) (fun c21 => ?_)
                · refine hK 158 _ [] T2 ?_
                  refine c_158 0 T2 ?_ ?_ ?_
                  · exact fr_0 _ _
                  · omega
                  · intro _; exact EQ_e (fun j => hf_91 284 0 j rfl) (hx18.2.resolve_right (fun z => z.1 (by omega))).2
                · refine rg_i (by omega) ?_
                  refine iy_i (by omega) (by omega) ?_
                  refine x_nm (fun U22 hU22 => ?_)
                  have e23 := up_f hU22
                  refine hK 158 _ [] U22 ?_
                  refine c_158 0 U22 ?_ ?_ ?_
                  · exact fr_u (fr_0 _ _) hU22 rfl
                  · omega
                  · intro _; exact EQ_e (fun j => hf_91 284 0 j rfl) (hx18.2.resolve_right (fun z => z.1 (by omega))).2
            · refine hK 133 _ [vI 1] T2 ?_
              refine j_blx (F := fX11) tb_X11 (nn_ _) bk_X11_orderPart_133 bs_X11_orderPart_133 hz (fun K hK => ?_)
              refine And.intro (fun c24 => ?_) (fun c24 => ?_)
              · refine hK 158 [some (vR 111 0), some (vI c), some (vI d), some (vI f), some (vI t), some (vI k), some (vI st), some (vI g), some (vI i), some (vI 1)] [] T2 ?_
                refine c_158 1 T2 ?_ ?_ ?_
                · exact fr_0 _ _
                · omega
                · intro h9; exact absurd h9 (by decide)
              · refine And.intro (fun c25 => ?_) (fun c25 => ?_)
                · refine hK 158 _ [] T2 ?_
                  refine c_158 1 T2 ?_ ?_ ?_
                  · exact fr_0 _ _
                  · omega
                  · intro h9; exact absurd h9 (by decide)
                · refine rg_i (by omega) ?_
                  refine iy_i (by omega) (by omega) ?_
                  refine x_nm (fun U26 hU26 => ?_)
                  have e27 := up_f hU26
                  refine hK 158 _ [] U26 ?_
                  refine c_158 1 U26 ?_ ?_ ?_
                  · exact fr_u (fr_0 _ _) hU26 rfl
                  · omega
                  · intro h9; exact absurd h9 (by decide)
    refine j_blx (F := fX11) tb_X11 (nn_ _) bk_X11_orderPart_84 bs_X11_orderPart_84 hz (fun K hK => ?_)
    refine rg_i (by omega) ?_
    refine hK 91 [some (vR 111 0), some (vI c), some (vI d), some (vI f), some (vI t), some (vI k), some (vI f), some (vI g), some (vI (f + 1)), none] [] T1 ?_
    have e28 : T1 111 0 87 = T 111 0 87 := hf_84 111 0 87 rfl
    refine c_91 _ f (f + 1) p0 w0 T1 (Nat.le_refl _) ?_ ?_ ?_ ?_ ?_
    · exact fr_0 _ _
    · omega
    · omega
    · rw [show s + (f - f) = s by omega]
      exact pp_e hpp0 (fun j _ => hf_84 286 0 j rfl)
    · exact Or.inl ⟨rfl, hw0, by rw [show f + 1 - 1 = f by omega]; exact fun _ _ _ => rfl⟩
  have c_8 : ∀ (nn : Nat) (i : Int) (T0 : Zt), ((12 - i).toNat) ≤ nn → (fr_ [(111, [85])] T T0) → (f ≤ i ∧ i ≤ t) → J_ zX11_orderPart T (po_X11_orderPart T n s w c d f t k) 0 0 8 [some (vR 111 0), some (vI c), some (vI d), some (vI f), some (vI t), some (vI k), some (vI i), none, none, none] [] T0 := by
    intro nn
    induction nn using Nat.strongRecOn with
    | _ nn ih_8 =>
      intro i T0 hm_8 hf_8 i0
      replace hm_8 := fun (_ : Unit) => hm_8
      refine j_blx (F := fX11) tb_X11 (nn_ _) bk_X11_orderPart_8 bs_X11_orderPart_8 hz (fun K hK => ?_)
      refine And.intro (fun c29 => ?_) (fun c29 => ?_)
      · refine hK 39 _ [] T0 ?_
        refine j_blx (F := fX11) tb_X11 (nn_ _) bk_X11_orderPart_39 bs_X11_orderPart_39 hz (fun K hK => ?_)
        refine hK 44 _ [vI k, vI d, vI c, vR 111 0] T0 ?_
        refine j_callV (y := yX11_say) (Yc := zX11_say) (rest := []) [vI c, vI d, vI k] (ct_X11_say (T := T0) (by omega) (by exact ML__f (ws := [(111, [85])]) hml (fr_t (fr_0 _ _) (fr_s hf_8 rfl)) ⟨fun _ => rfl, fun _ => rfl, rfl, trivial⟩) (by exact SC__f (ws := [(111, [85])]) hsc (fr_t (fr_0 _ _) (fr_s hf_8 rfl)) ⟨fun _ => rfl, fun _ => rfl, trivial⟩) (by omega) (by exact tb_f htb (fun j => hf_8 276 0 j rfl))) cl_X11_526 (qd_c (by decide +kernel)) (nn_ _) rfl (rf_of rfl) (Nat.le_of_ble_eq_true rfl) (Nat.le_of_ble_eq_true rfl) (Nat.le_of_ble_eq_true rfl) rfl ?_
        rintro U30 _ ⟨rfl, fU30, qU30⟩
        show J_ zX11_orderPart T (po_X11_orderPart T n s w c d f t k) 0 0 47 _ [] U30
        refine j_blx (F := fX11) tb_X11 (nn_ _) bk_X11_orderPart_47 bs_X11_orderPart_47 hz (fun K hK => ?_)
        refine hK 51 _ [vI t, vI f, vR 111 0] U30 ?_
        refine j_callV (y := yX11_sortPart) (Yc := zX11_sortPart) (rest := []) [vI f, vI t] (ct_X11_sortPart (T := U30) (n := n) (by omega) qU30) cl_X11_529 (qd_c (by decide +kernel)) (nn_ _) rfl (rf_of rfl) (Nat.le_of_ble_eq_true rfl) (Nat.le_of_ble_eq_true rfl) (Nat.le_of_ble_eq_true rfl) rfl ?_
        rintro U31 _ ⟨rfl, fU31, qU31⟩
        show J_ zX11_orderPart T (po_X11_orderPart T n s w c d f t k) 0 0 54 _ [] U31
        refine j_blx (F := fX11) tb_X11 (nn_ _) bk_X11_orderPart_54 bs_X11_orderPart_54 hz (fun K hK => ?_)
        refine ix_i (by omega) ?_
        intro b32 b32b
        refine rg_i (by omega) ?_
        refine ix_i (by omega) ?_
        intro b33 b33b
        refine hK 73 [some (vR 111 0), some (vI c), some (vI d), some (vI f), some (vI t), some (vI k), some (vI f), none, none, none] [vI (U31 277 0 (t - 1)), vI (U31 277 0 f), vR 111 0] U31 ?_
        refine j_callV (y := yX11_compareClubs) (Yc := zX11_compareClubs) (rest := []) [vI (U31 277 0 f), vI (U31 277 0 (t - 1))] (ct_X11_compareClubs (T := U31) (by omega) (by omega) (by exact SB__f (ws := [(277, [])]) qU30 fU31 ⟨fun _ => rfl, trivial⟩)) cl_X11_511 (qd_c (by decide +kernel)) (nn_ _) rfl (rf_of rfl) (Nat.le_of_ble_eq_true rfl) (Nat.le_of_ble_eq_true rfl) (Nat.le_of_ble_eq_true rfl) rfl ?_
        rintro _ _ ⟨rfl, x34, rfl, hx34⟩
        show J_ zX11_orderPart T (po_X11_orderPart T n s w c d f t k) 0 0 76 _ [vI x34] U31
        refine j_blx (F := fX11) tb_X11 (nn_ _) bk_X11_orderPart_76 bs_X11_orderPart_76 hz (fun K hK => ?_)
        refine And.intro (fun c35 => ?_) (fun c35 => ?_)
        · refine hK 83 _ [] U31 ?_
          refine j_blx (F := fX11) tb_X11 (nn_ _) bk_X11_orderPart_83 bs_X11_orderPart_83 hz (fun K hK => ?_)
          refine hK 84 _ [vI 0] U31 ?_
          refine c_84 0 U31 ?_ ?_ ?_ ?_
          · exact fr_t (fr_t (fr_t (fr_0 _ _) (fr_s hf_8 rfl)) (fr_s fU30 rfl)) (fr_s fU31 rfl)
          · exact Or.inr ⟨rfl, (hx34.2.resolve_left (fun z => absurd z.1 (by omega))).2⟩
          · exact SB__f (ws := [(277, [])]) qU30 fU31 ⟨fun _ => rfl, trivial⟩
          · exact fun v h => qU31 v (oc_f h (fun j => (fU30 277 0 j rfl).trans (hf_8 277 0 j rfl)))
        · refine hK 84 _ [vI 1] U31 ?_
          refine c_84 1 U31 ?_ ?_ ?_ ?_
          · exact fr_t (fr_t (fr_t (fr_0 _ _) (fr_s hf_8 rfl)) (fr_s fU30 rfl)) (fr_s fU31 rfl)
          · exact Or.inl ⟨rfl, (hx34.2.resolve_right (fun z => z.1 (by omega))).2⟩
          · exact SB__f (ws := [(277, [])]) qU30 fU31 ⟨fun _ => rfl, trivial⟩
          · exact fun v h => qU31 v (oc_f h (fun j => (fU30 277 0 j rfl).trans (hf_8 277 0 j rfl)))
      · intro b36 b36b
        refine ix_i (by omega) ?_
        intro b37 b37b
        have e38 : T0 277 0 i = T 277 0 i := hf_8 277 0 i rfl
        rw [e38] at b37 b37b ⊢
        intro w39 w39b
        intro w40 w40b
        have ob : 0 ≤ or_ (T0 111 0 85) (sl_ 1 (T 277 0 i)) ∧ or_ (T0 111 0 85) (sl_ 1 (T 277 0 i)) ≤ 4095 := or_b (by omega) (sl_b (by omega))
        refine bd_i (by omega) ?_
        refine x_nm (fun U41 hU41 => ?_)
        have e42 := up_f hU41
        refine rg_i (by omega) ?_
        refine hK 8 [some (vR 111 0), some (vI c), some (vI d), some (vI f), some (vI t), some (vI k), some (vI (i + 1)), none, none, none] [] U41 ?_
        refine ih_8 _ ?_ (i + 1) U41 (Nat.le_refl _) ?_ ?_
        · have hm_8 := hm_8 (); omega
        · exact fr_u (fr_t (fr_0 _ _) (fr_s hf_8 rfl)) hU41 rfl
        · omega
  refine j_blx (F := fX11) tb_X11 (nn_ _) bk_X11_orderPart_0 bs_X11_orderPart_0 hz (fun K hK => ?_)
  refine bd_i (by omega) ?_
  refine x_nm (fun U43 hU43 => ?_)
  have e44 := up_f hU43
  refine hK 8 [some (vR 111 0), some (vI c), some (vI d), some (vI f), some (vI t), some (vI k), some (vI f), none, none, none] [] U43 ?_
  refine c_8 _ f U43 (Nat.le_refl _) ?_ ?_
  · exact fr_u (fr_0 _ _) hU43 rfl
  · omega
theorem pq_3 {T : Zt} {n s w : Int} (h : PQ_ T n s w) (g : 0 < T 111 0 87) : 3 ≤ T 111 0 87 := by
  obtain ⟨p, w1, a, b, c⟩ := h
  omega
theorem oc_m {T : Zt} {n k v : Int} (h : OC_ T n v) (e : n ≤ k) : OC_ T k v := by
  obtain ⟨j, a, b, c⟩ := h
  exact ⟨j, a, by omega, c⟩
abbrev cX11_orderAll : ByteArray := prog_13_method_91_code
def yX11_orderAll : MethodName := ⟨RX11, "orderAll", "(II)V"⟩
def zX11_orderAll : Zm := (RX11, cX11_orderAll, 6, none, { frames := 4, cells := 0, slots := 0, locals := 103 })
theorem bk_X11_orderAll_71 : ck_ fX11 none cX11_orderAll 71 [.aload 0, .tableswitch 0 11 87 #[], .ifCond .le 157, .aload 0, .dup, .tableswitch 0 11 87 #[], .iconst 3, .isub, .tableswitch 1 11 87 #[], .aload 0, .tableswitch 0 11 86 #[], .aload 0, .tableswitch 0 11 87 #[], .iaload, .istore 3, .aload 0, .tableswitch 0 11 86 #[], .aload 0, .tableswitch 0 11 87 #[], .iconst 1, .iadd, .iaload, .istore 4, .aload 0, .tableswitch 0 11 86 #[], .aload 0, .tableswitch 0 11 87 #[], .iconst 2, .iadd, .iaload, .istore 5, .iload 4, .iload 3, .isub, .iconst 1, .if_icmp .le 154, .iload 5, .aload 0, .iload 1, .iconst 4] 137 = true := qck_r (nn_ _) (by decide +kernel)
theorem bs_X11_orderAll_71 {P : Zt → Option Zv → Prop} (K : Int → Zl → List Zv → Zt → Prop) : sx_ K P [.aload 0, .tableswitch 0 11 87 #[], .ifCond .le 157, .aload 0, .dup, .tableswitch 0 11 87 #[], .iconst 3, .isub, .tableswitch 1 11 87 #[], .aload 0, .tableswitch 0 11 86 #[], .aload 0, .tableswitch 0 11 87 #[], .iaload, .istore 3, .aload 0, .tableswitch 0 11 86 #[], .aload 0, .tableswitch 0 11 87 #[], .iconst 1, .iadd, .iaload, .istore 4, .aload 0, .tableswitch 0 11 86 #[], .aload 0, .tableswitch 0 11 87 #[], .iconst 2, .iadd, .iaload, .istore 5, .iload 4, .iload 3, .isub, .iconst 1, .if_icmp .le 154, .iload 5, .aload 0, .iload 1, .iconst 4] 137 = x_aload 0 (x_g0 111 87 0 120 (x_ifCond .le 157 K (x_aload 0 (x_dup (x_g0 111 87 0 120 (x_iconst 3 (x_isub (x_p 111 87 0 120 (x_aload 0 (x_g1 111 286 (x_aload 0 (x_g0 111 87 0 120 (x_iaload (x_istore 3 (x_aload 0 (x_g1 111 286 (x_aload 0 (x_g0 111 87 0 120 (x_iconst 1 (x_iadd (x_iaload (x_istore 4 (x_aload 0 (x_g1 111 286 (x_aload 0 (x_g0 111 87 0 120 (x_iconst 2 (x_iadd (x_iaload (x_istore 5 (x_iload 4 (x_iload 3 (x_isub (x_iconst 1 (x_if_icmp .le 154 K (x_iload 5 (x_aload 0 (x_iload 1 (x_iconst 4 (K 137)))))))))))))))))))))))))))))))))))))))) := ((xe_aload 0).trans (congrArg (x_aload 0) ((xe_g0 (kk := 111) rfl tl_11_87).trans (congrArg (x_g0 111 87 0 120) ((xe_ifCond .le 157).trans (congrArg (x_ifCond .le 157 K) ((xe_aload 0).trans (congrArg (x_aload 0) ((xe_dup).trans (congrArg (x_dup) ((xe_g0 (kk := 111) rfl tl_11_87).trans (congrArg (x_g0 111 87 0 120) ((xe_iconst 3).trans (congrArg (x_iconst 3) ((xe_isub).trans (congrArg (x_isub) ((xe_p (kk := 111) rfl tl_11_87).trans (congrArg (x_p 111 87 0 120) ((xe_aload 0).trans (congrArg (x_aload 0) ((xe_g1 (kk := 111) rfl tl_11_86).trans (congrArg (x_g1 111 286) ((xe_aload 0).trans (congrArg (x_aload 0) ((xe_g0 (kk := 111) rfl tl_11_87).trans (congrArg (x_g0 111 87 0 120) ((xe_iaload).trans (congrArg (x_iaload) ((xe_istore 3).trans (congrArg (x_istore 3) ((xe_aload 0).trans (congrArg (x_aload 0) ((xe_g1 (kk := 111) rfl tl_11_86).trans (congrArg (x_g1 111 286) ((xe_aload 0).trans (congrArg (x_aload 0) ((xe_g0 (kk := 111) rfl tl_11_87).trans (congrArg (x_g0 111 87 0 120) ((xe_iconst 1).trans (congrArg (x_iconst 1) ((xe_iadd).trans (congrArg (x_iadd) ((xe_iaload).trans (congrArg (x_iaload) ((xe_istore 4).trans (congrArg (x_istore 4) ((xe_aload 0).trans (congrArg (x_aload 0) ((xe_g1 (kk := 111) rfl tl_11_86).trans (congrArg (x_g1 111 286) ((xe_aload 0).trans (congrArg (x_aload 0) ((xe_g0 (kk := 111) rfl tl_11_87).trans (congrArg (x_g0 111 87 0 120) ((xe_iconst 2).trans (congrArg (x_iconst 2) ((xe_iadd).trans (congrArg (x_iadd) ((xe_iaload).trans (congrArg (x_iaload) ((xe_istore 5).trans (congrArg (x_istore 5) ((xe_iload 4).trans (congrArg (x_iload 4) ((xe_iload 3).trans (congrArg (x_iload 3) ((xe_isub).trans (congrArg (x_isub) ((xe_iconst 1).trans (congrArg (x_iconst 1) ((xe_if_icmp .le 154).trans (congrArg (x_if_icmp .le 154 K) ((xe_iload 5).trans (congrArg (x_iload 5) ((xe_aload 0).trans (congrArg (x_aload 0) ((xe_iload 1).trans (congrArg (x_iload 1) ((xe_iconst 4).trans (congrArg (x_iconst 4) xe_nil))))))))))))))))))))))))))))))))))))))))))))))))))))))))))))))))))))))))))))))))
theorem bk_X11_orderAll_157 : ck_ fX11 none cX11_orderAll 157 [.return_] 158 = true := qck_r (nn_ _) (by decide +kernel)
theorem bs_X11_orderAll_157 {P : Zt → Option Zv → Prop} (K : Int → Zl → List Zv → Zt → Prop) : sx_ K P [.return_] 158 = x_return_ P := (xe_return_)
theorem bk_X11_orderAll_154 : ck_ fX11 none cX11_orderAll 154 [.goto 71] 157 = true := qck_r (nn_ _) (by decide +kernel)
theorem bs_X11_orderAll_154 {P : Zt → Option Zv → Prop} (K : Int → Zl → List Zv → Zt → Prop) : sx_ K P [.goto 71] 157 = x_goto 71 K := (xe_goto 71)
theorem bk_X11_orderAll_140 : ck_ fX11 none cX11_orderAll 140 [.if_icmp .gt 154, .aload 0, .iload 1, .iload 2, .iload 3, .iload 4, .iload 5] 151 = true := qck_r (nn_ _) (by decide +kernel)
theorem bs_X11_orderAll_140 {P : Zt → Option Zv → Prop} (K : Int → Zl → List Zv → Zt → Prop) : sx_ K P [.if_icmp .gt 154, .aload 0, .iload 1, .iload 2, .iload 3, .iload 4, .iload 5] 151 = x_if_icmp .gt 154 K (x_aload 0 (x_iload 1 (x_iload 2 (x_iload 3 (x_iload 4 (x_iload 5 (K 151))))))) := ((xe_if_icmp .gt 154).trans (congrArg (x_if_icmp .gt 154 K) ((xe_aload 0).trans (congrArg (x_aload 0) ((xe_iload 1).trans (congrArg (x_iload 1) ((xe_iload 2).trans (congrArg (x_iload 2) ((xe_iload 3).trans (congrArg (x_iload 3) ((xe_iload 4).trans (congrArg (x_iload 4) ((xe_iload 5).trans (congrArg (x_iload 5) xe_nil))))))))))))))
set_option maxRecDepth 100000 in
theorem cl_X11_523 : cv_ RX11 523 yX11_orderPart zX11_orderPart 11 5 := ⟨gi_V (lwq_9 (dqc_m (dqc_m (dqc_m (dqc_m (dqc_m (dqa_m (dqa_m (dqa_m (List.mem_of_getElem? (i := 2) rfl))))))))) rfl : Cond.methodLink RX11 523 yX11_orderPart ∈ lw_g) (lwq_9 (dqc_m (dqc_m (dqc_m (dqc_m (dqc_m (dqa_m (dqa_m (dqa_m (List.mem_of_getElem? (i := 4) rfl))))))))) rfl : Cond.instanceMethod yX11_orderPart ∈ lw_g) (lw_sel 42 rfl : Cond.selects yX11_orderPart.cls yX11_orderPart yX11_orderPart ∈ lw_g) (lwq_1 (dqa_m (List.mem_of_getElem? (i := 2) rfl)) rfl : Cond.initialized yX11_orderPart.cls ∈ lw_g) (lwq_9 (dqc_m (dqc_m (dqc_m (dqc_m (dqc_m (dqa_m (dqa_m (dqa_m (List.mem_of_getElem? (i := 5) rfl))))))))) rfl : Cond.code yX11_orderPart cX11_orderPart 10 none ∈ lw_g), ⟨nmh_1.1, nmh_1.2, pdq_6⟩, ⟨_, _, rfl⟩⟩
theorem bk_X11_orderAll_18 : ck_ fX11 none cX11_orderAll 18 [.iload 3, .aload 0, .tableswitch 0 11 79 #[], .if_icmp .ge 56, .aload 0, .tableswitch 0 11 77 #[], .iload 3, .aload 0, .tableswitch 0 11 7 #[], .iconst 12, .iload 1, .imul, .iload 3, .iadd, .iaload, .iastore, .aload 0, .tableswitch 0 11 78 #[], .iload 3, .iconst (-1), .iastore, .iinc 3 1, .goto 18] 56 = true := qck_r (nn_ _) (by decide +kernel)
theorem bs_X11_orderAll_18 {P : Zt → Option Zv → Prop} (K : Int → Zl → List Zv → Zt → Prop) : sx_ K P [.iload 3, .aload 0, .tableswitch 0 11 79 #[], .if_icmp .ge 56, .aload 0, .tableswitch 0 11 77 #[], .iload 3, .aload 0, .tableswitch 0 11 7 #[], .iconst 12, .iload 1, .imul, .iload 3, .iadd, .iaload, .iastore, .aload 0, .tableswitch 0 11 78 #[], .iload 3, .iconst (-1), .iastore, .iinc 3 1, .goto 18] 56 = x_iload 3 (x_aload 0 (x_g0 111 79 0 12 (x_if_icmp .ge 56 K (x_aload 0 (x_g1 111 277 (x_iload 3 (x_aload 0 (x_g1 111 207 (x_iconst 12 (x_iload 1 (x_imul (x_iload 3 (x_iadd (x_iaload (x_iastore (x_aload 0 (x_g1 111 278 (x_iload 3 (x_iconst (-1) (x_iastore (x_iinc 3 1 (x_goto 18 K)))))))))))))))))))))) := ((xe_iload 3).trans (congrArg (x_iload 3) ((xe_aload 0).trans (congrArg (x_aload 0) ((xe_g0 (kk := 111) rfl tl_11_79).trans (congrArg (x_g0 111 79 0 12) ((xe_if_icmp .ge 56).trans (congrArg (x_if_icmp .ge 56 K) ((xe_aload 0).trans (congrArg (x_aload 0) ((xe_g1 (kk := 111) rfl tl_11_77).trans (congrArg (x_g1 111 277) ((xe_iload 3).trans (congrArg (x_iload 3) ((xe_aload 0).trans (congrArg (x_aload 0) ((xe_g1 (kk := 111) rfl tl_11_7).trans (congrArg (x_g1 111 207) ((xe_iconst 12).trans (congrArg (x_iconst 12) ((xe_iload 1).trans (congrArg (x_iload 1) ((xe_imul).trans (congrArg (x_imul) ((xe_iload 3).trans (congrArg (x_iload 3) ((xe_iadd).trans (congrArg (x_iadd) ((xe_iaload).trans (congrArg (x_iaload) ((xe_iastore).trans (congrArg (x_iastore) ((xe_aload 0).trans (congrArg (x_aload 0) ((xe_g1 (kk := 111) rfl tl_11_78).trans (congrArg (x_g1 111 278) ((xe_iload 3).trans (congrArg (x_iload 3) ((xe_iconst (-1)).trans (congrArg (x_iconst (-1)) ((xe_iastore).trans (congrArg (x_iastore) ((xe_iinc 3 1).trans (congrArg (x_iinc 3 1) (xe_goto 18)))))))))))))))))))))))))))))))))))))))))))))
theorem bk_X11_orderAll_56 : ck_ fX11 none cX11_orderAll 56 [.aload 0, .iconst 0, .tableswitch 1 11 87 #[], .aload 0, .iconst 0, .aload 0, .tableswitch 0 11 79 #[], .iconst 0] 68 = true := qck_r (nn_ _) (by decide +kernel)
theorem bs_X11_orderAll_56 {P : Zt → Option Zv → Prop} (K : Int → Zl → List Zv → Zt → Prop) : sx_ K P [.aload 0, .iconst 0, .tableswitch 1 11 87 #[], .aload 0, .iconst 0, .aload 0, .tableswitch 0 11 79 #[], .iconst 0] 68 = x_aload 0 (x_iconst 0 (x_p 111 87 0 120 (x_aload 0 (x_iconst 0 (x_aload 0 (x_g0 111 79 0 12 (x_iconst 0 (K 68)))))))) := ((xe_aload 0).trans (congrArg (x_aload 0) ((xe_iconst 0).trans (congrArg (x_iconst 0) ((xe_p (kk := 111) rfl tl_11_87).trans (congrArg (x_p 111 87 0 120) ((xe_aload 0).trans (congrArg (x_aload 0) ((xe_iconst 0).trans (congrArg (x_iconst 0) ((xe_aload 0).trans (congrArg (x_aload 0) ((xe_g0 (kk := 111) rfl tl_11_79).trans (congrArg (x_g0 111 79 0 12) ((xe_iconst 0).trans (congrArg (x_iconst 0) xe_nil))))))))))))))))
theorem bk_X11_orderAll_0 : ck_ fX11 none cX11_orderAll 0 [.aload 0, .iload 1, .iload 2] 3 = true := qck_r (nn_ _) (by decide +kernel)
theorem bs_X11_orderAll_0 {P : Zt → Option Zv → Prop} (K : Int → Zl → List Zv → Zt → Prop) : sx_ K P [.aload 0, .iload 1, .iload 2] 3 = x_aload 0 (x_iload 1 (x_iload 2 (K 3))) := ((xe_aload 0).trans (congrArg (x_aload 0) ((xe_iload 1).trans (congrArg (x_iload 1) ((xe_iload 2).trans (congrArg (x_iload 2) xe_nil))))))
set_option maxRecDepth 100000 in
theorem cl_X11_514 : cv_ RX11 514 yX11_tellAll zX11_tellAll 11 2 := ⟨gi_V (lwq_9 (dqc_m (dqc_m (dqc_m (dqc_m (dqc_m (List.mem_of_getElem? (i := 6) rfl)))))) rfl : Cond.methodLink RX11 514 yX11_tellAll ∈ lw_g) (lwq_9 (dqc_m (dqc_m (dqc_m (dqc_m (dqc_m (dqa_m (List.mem_of_getElem? (i := 0) rfl))))))) rfl : Cond.instanceMethod yX11_tellAll ∈ lw_g) (lw_sel 74 rfl : Cond.selects yX11_tellAll.cls yX11_tellAll yX11_tellAll ∈ lw_g) (lwq_1 (dqa_m (List.mem_of_getElem? (i := 2) rfl)) rfl : Cond.initialized yX11_tellAll.cls ∈ lw_g) (lwq_9 (dqc_m (dqc_m (dqc_m (dqc_m (dqc_m (dqa_m (List.mem_of_getElem? (i := 1) rfl))))))) rfl : Cond.code yX11_tellAll cX11_tellAll 4 none ∈ lw_g), ⟨nmh_1.1, nmh_1.2, pdq_0⟩, ⟨_, _, rfl⟩⟩
theorem bk_X11_orderAll_6 : ck_ fX11 none cX11_orderAll 6 [.aload 0, .aload 0, .tableswitch 0 11 8 #[], .iload 1, .iaload, .tableswitch 1 11 79 #[], .iconst 0, .istore 3] 18 = true := qck_r (nn_ _) (by decide +kernel)
theorem bs_X11_orderAll_6 {P : Zt → Option Zv → Prop} (K : Int → Zl → List Zv → Zt → Prop) : sx_ K P [.aload 0, .aload 0, .tableswitch 0 11 8 #[], .iload 1, .iaload, .tableswitch 1 11 79 #[], .iconst 0, .istore 3] 18 = x_aload 0 (x_aload 0 (x_g1 111 208 (x_iload 1 (x_iaload (x_p 111 79 0 12 (x_iconst 0 (x_istore 3 (K 18)))))))) := ((xe_aload 0).trans (congrArg (x_aload 0) ((xe_aload 0).trans (congrArg (x_aload 0) ((xe_g1 (kk := 111) rfl tl_11_8).trans (congrArg (x_g1 111 208) ((xe_iload 1).trans (congrArg (x_iload 1) ((xe_iaload).trans (congrArg (x_iaload) ((xe_p (kk := 111) rfl tl_11_79).trans (congrArg (x_p 111 79 0 12) ((xe_iconst 0).trans (congrArg (x_iconst 0) ((xe_istore 3).trans (congrArg (x_istore 3) xe_nil))))))))))))))))
abbrev po_X11_orderAll (T : Zt) (c d : Int) : Zt → Option Zv → Prop := fun T' r => r = none ∧ fr_ [(276, []), (284, []), (277, []), (286, []), (278, []), (111, [82, 83, 85, 87, 79])] T T' ∧ (TB_ T' 150000000 ∧ ∀ v, HE_ T c v → OC_ T' 12 v)
set_option maxHeartbeats 4000000 in
theorem ct_X11_orderAll {T : Zt} {c d : Int} (h1 : 0 ≤ c ∧ c < T 111 0 6) (hri : RI_ T) (hml : ML_ T) (hsc : SC_ T) (hyb : YB_ T) : Ct_ yX11_orderAll zX11_orderAll T [vR 111 0, vI c, vI d] (po_X11_orderAll T c d) := by
  refine ct_of pn_11 rfl rfl (Nat.le_of_ble_eq_true rfl) (fun hT hav => ?_)
  have hr_c : -2147483648 ≤ c ∧ c ≤ 2147483647 := hav (vI c) (List.mem_cons_of_mem _ List.mem_cons_self)
  have hr_d : -2147483648 ≤ d ∧ d ≤ 2147483647 := hav (vI d) (List.mem_cons_of_mem _ (List.mem_cons_of_mem _ List.mem_cons_self))
  have hz : zX11_orderAll.2.2.2.1 = some .boolean → ∀ (T' : Zt) (x : Int), po_X11_orderAll T c d T' (some (vI x)) → 0 ≤ x ∧ x ≤ 1 := fun h => by cases h
  have hb_6 : 0 ≤ T 111 0 6 ∧ T 111 0 6 ≤ 4 := bd_f hT 111 6 tl_11_6 0
  have hed : 0 ≤ T 208 0 c ∧ T 208 0 c ≤ 12 := bd_a hT 208 (by decide +kernel : ta_ 208 = some (1, some 4, 0, 12)) 0 (by omega)
  have hr4 : (0 : Int) ≤ T 205 0 (23 * c + 4) ∧ T 205 0 (23 * c + 4) ≤ (7 : Int) := hri c 4 (by omega) (by omega) (by omega) (by omega)
  show J_ zX11_orderAll T (po_X11_orderAll T c d) 0 0 0 [some (vR 111 0), some (vI c), some (vI d), none, none, none] [] T
  have c_71 : ∀ (nn : Nat) (s : Int) (w : Int) (T2 : Zt), ((w + 1).toNat) ≤ nn → (fr_ [(276, []), (284, []), (277, []), (286, []), (278, []), (111, [82, 83, 85, 87, 79])] T T2) → (PQ_ T2 (T 208 0 c) s w) → (s ≤ T 208 0 c ∧ 0 ≤ w) → (TB_ T2 150000000) → (∀ v, HE_ T c v → OC_ T2 (T 208 0 c) v) → J_ zX11_orderAll T (po_X11_orderAll T c d) 0 0 71 [some (vR 111 0), some (vI c), some (vI d), none, none, none] [] T2 := by
    intro nn
    induction nn using Nat.strongRecOn with
    | _ nn ih_71 =>
      intro s w T2 hm_71 hf_71 hpq hs2 tb2 oc2
      replace hm_71 := fun (_ : Unit) => hm_71
      refine j_blx (F := fX11) tb_X11 (nn_ _) bk_X11_orderAll_71 bs_X11_orderAll_71 hz (fun K hK => ?_)
      intro b1 b1b
      refine And.intro (fun c2 => ?_) (fun c2 => ?_)
      · refine hK 157 _ [] T2 ?_
        refine j_blx (F := fX11) tb_X11 (nn_ _) bk_X11_orderAll_157 bs_X11_orderAll_157 hz (fun K hK => ?_)
        refine (show po_X11_orderAll T c d T2 (none) from ?_)
        exact ⟨rfl, fr_t (fr_0 _ _) (fr_s hf_71 rfl), tb2, fun v hv => oc_m (oc2 v hv) (by omega)⟩
      · have hq0 := pq_3 hpq (by omega)
        intro b3 b3b
        refine rg_i (by omega) ?_
        refine bd_i (by omega) ?_
        refine x_nm (fun U4 hU4 => ?_)
        have e5 := up_f hU4
        obtain ⟨hq1, hq2, hq3, hq4, hq5, hq6⟩ := pq_p hpq (by omega) (fun j => up_k hU4 (by exact Nat.ne_of_beq_eq_false rfl) 0 j) (up_f hU4)
        intro b6 b6b
        have e7 : U4 111 0 87 = (T2 111 0 87) - 3 := up_f hU4
        rw [e7] at b6 b6b ⊢
        refine ix_i (by omega) ?_
        intro b8 b8b
        have e9 : U4 286 0 ((T2 111 0 87) - 3) = T2 286 0 ((T2 111 0 87) - 3) := up_k hU4 (by exact Nat.ne_of_beq_eq_false rfl) 0 ((T2 111 0 87) - 3)
        rw [e9] at b8 b8b ⊢
        intro b10 b10b
        have e11 : U4 111 0 87 = (T2 111 0 87) - 3 := up_f hU4
        rw [e11] at b10 b10b ⊢
        refine rg_i (by omega) ?_
        refine ix_i (by omega) ?_
        intro b12 b12b
        have e13 : U4 286 0 (((T2 111 0 87) - 3) + 1) = T2 286 0 (((T2 111 0 87) - 3) + 1) := up_k hU4 (by exact Nat.ne_of_beq_eq_false rfl) 0 (((T2 111 0 87) - 3) + 1)
        rw [e13] at b12 b12b ⊢
        intro b14 b14b
        have e15 : U4 111 0 87 = (T2 111 0 87) - 3 := up_f hU4
        rw [e15] at b14 b14b ⊢
        refine rg_i (by omega) ?_
        refine ix_i (by omega) ?_
        intro b16 b16b
        have e17 : U4 286 0 (((T2 111 0 87) - 3) + 2) = T2 286 0 (((T2 111 0 87) - 3) + 2) := up_k hU4 (by exact Nat.ne_of_beq_eq_false rfl) 0 (((T2 111 0 87) - 3) + 2)
        rw [e17] at b16 b16b ⊢
        refine rg_i (by omega) ?_
        refine And.intro (fun c18 => ?_) (fun c18 => ?_)
        · refine hK 154 [some (vR 111 0), some (vI c), some (vI d), some (vI (T2 286 0 ((T2 111 0 87) - 3))), some (vI (T2 286 0 (((T2 111 0 87) - 3) + 1))), some (vI (T2 286 0 (((T2 111 0 87) - 3) + 2)))] [] U4 ?_
          refine j_blx (F := fX11) tb_X11 (nn_ _) bk_X11_orderAll_154 bs_X11_orderAll_154 hz (fun K hK => ?_)
          refine hK 71 _ [] U4 ?_
          refine j_drop [some (vR 111 0), some (vI c), some (vI d), none, none, none] (fun k v hk => ?_) rfl ?_
          · match k, hk with
            | 0, hk => exact hk
            | 1, hk => exact hk
            | 2, hk => exact hk
            | 3, hk => cases hk
            | 4, hk => cases hk
            | 5, hk => cases hk
            | k + 6, hk => cases hk
          refine ih_71 _ ?_ (s - (T2 286 0 (T2 111 0 87 - 3 + 1) - T2 286 0 (T2 111 0 87 - 3))) (w - wt_ (T2 286 0 (T2 111 0 87 - 3 + 1) - T2 286 0 (T2 111 0 87 - 3)) (T2 286 0 (T2 111 0 87 - 3 + 2))) U4 (Nat.le_refl _) ?_ ?_ ?_ ?_ ?_
          · have hm_71 := hm_71 (); omega
          · exact fr_u (fr_t (fr_0 _ _) (fr_s hf_71 rfl)) hU4 rfl
          · exact hq1
          · omega
          · exact tb_f tb2 (fun j => up_k hU4 (by exact Nat.ne_of_beq_eq_false rfl) 0 j)
          · exact fun v hv => oc_f (oc2 v hv) (fun j => up_k hU4 (by exact Nat.ne_of_beq_eq_false rfl) 0 j)
        · refine hK 137 [some (vR 111 0), some (vI c), some (vI d), some (vI (T2 286 0 ((T2 111 0 87) - 3))), some (vI (T2 286 0 (((T2 111 0 87) - 3) + 1))), some (vI (T2 286 0 (((T2 111 0 87) - 3) + 2)))] [vI 4, vI c, vR 111 0, vI (T2 286 0 (((T2 111 0 87) - 3) + 2))] U4 ?_
          refine j_callV (y := yX11_rule0) (Yc := zX11_rule0) (rest := [vI (T2 286 0 (((T2 111 0 87) - 3) + 2))]) [vI c, vI 4] (ct_X11_rule0 (T := U4) (by omega) (by omega)) cl_X11_321 (qd_c (by decide +kernel)) (nn_ _) rfl (rf_of rfl) (Nat.le_of_ble_eq_true rfl) (Nat.le_of_ble_eq_true rfl) (Nat.le_of_ble_eq_true rfl) rfl ?_
          rintro _ _ ⟨rfl, rfl⟩
          have e19 : U4 205 0 (23 * c + 4) = T 205 0 (23 * c + 4) := (up_k hU4 (by exact Nat.ne_of_beq_eq_false rfl) 0 (23 * c + 4)).trans (hf_71 205 0 (23 * c + 4) rfl)
          show J_ zX11_orderAll T (po_X11_orderAll T c d) 0 0 140 _ [vI (U4 205 0 (23 * c + 4)), vI (T2 286 0 (((T2 111 0 87) - 3) + 2))] U4
          refine j_blx (F := fX11) tb_X11 (nn_ _) bk_X11_orderAll_140 bs_X11_orderAll_140 hz (fun K hK => ?_)
          refine And.intro (fun c20 => ?_) (fun c20 => ?_)
          · refine hK 154 _ [] U4 ?_
            refine j_blx (F := fX11) tb_X11 (nn_ _) bk_X11_orderAll_154 bs_X11_orderAll_154 hz (fun K hK => ?_)
            refine hK 71 _ [] U4 ?_
            refine j_drop [some (vR 111 0), some (vI c), some (vI d), none, none, none] (fun k v hk => ?_) rfl ?_
            · match k, hk with
              | 0, hk => exact hk
              | 1, hk => exact hk
              | 2, hk => exact hk
              | 3, hk => cases hk
              | 4, hk => cases hk
              | 5, hk => cases hk
              | k + 6, hk => cases hk
            refine ih_71 _ ?_ (s - (T2 286 0 (T2 111 0 87 - 3 + 1) - T2 286 0 (T2 111 0 87 - 3))) (w - wt_ (T2 286 0 (T2 111 0 87 - 3 + 1) - T2 286 0 (T2 111 0 87 - 3)) (T2 286 0 (T2 111 0 87 - 3 + 2))) U4 (Nat.le_refl _) ?_ ?_ ?_ ?_ ?_
            · have hm_71 := hm_71 (); omega
            · exact fr_u (fr_t (fr_0 _ _) (fr_s hf_71 rfl)) hU4 rfl
            · exact hq1
            · omega
            · exact tb_f tb2 (fun j => up_k hU4 (by exact Nat.ne_of_beq_eq_false rfl) 0 j)
            · exact fun v hv => oc_f (oc2 v hv) (fun j => up_k hU4 (by exact Nat.ne_of_beq_eq_false rfl) 0 j)
          · refine hK 151 [some (vR 111 0), some (vI c), some (vI d), some (vI (T2 286 0 ((T2 111 0 87) - 3))), some (vI (T2 286 0 (((T2 111 0 87) - 3) + 1))), some (vI (T2 286 0 (((T2 111 0 87) - 3) + 2)))] [vI (T2 286 0 (((T2 111 0 87) - 3) + 2)), vI (T2 286 0 (((T2 111 0 87) - 3) + 1)), vI (T2 286 0 ((T2 111 0 87) - 3)), vI d, vI c, vR 111 0] U4 ?_
            refine j_callV (y := yX11_orderPart) (Yc := zX11_orderPart) (rest := []) [vI c, vI d, vI (T2 286 0 ((T2 111 0 87) - 3)), vI (T2 286 0 (((T2 111 0 87) - 3) + 1)), vI (T2 286 0 (((T2 111 0 87) - 3) + 2))] (ct_X11_orderPart (T := U4) (n := T 208 0 c) (s := s - (T2 286 0 (T2 111 0 87 - 3 + 1) - T2 286 0 (T2 111 0 87 - 3))) (w := w - wt_ (T2 286 0 (T2 111 0 87 - 3 + 1) - T2 286 0 (T2 111 0 87 - 3)) (T2 286 0 (T2 111 0 87 - 3 + 2))) (by omega) (ML__f (ws := [(111, [87, 82, 83, 85, 87, 79]), (276, []), (284, []), (277, []), (286, []), (278, [])]) hml (fr_u (fr_t (fr_0 _ _) (fr_s hf_71 rfl)) hU4 rfl) ⟨fun _ => rfl, fun _ => rfl, rfl, trivial⟩) (SC__f (ws := [(111, [87, 82, 83, 85, 87, 79]), (276, []), (284, []), (277, []), (286, []), (278, [])]) hsc (fr_u (fr_t (fr_0 _ _) (fr_s hf_71 rfl)) hU4 rfl) ⟨fun _ => rfl, fun _ => rfl, trivial⟩) (by omega) (tb_f tb2 (fun j => up_k hU4 (by exact Nat.ne_of_beq_eq_false rfl) 0 j)) (by omega) hq1) cl_X11_523 (qd_c (by decide +kernel)) (nn_ _) rfl (rf_of rfl) (Nat.le_of_ble_eq_true rfl) (Nat.le_of_ble_eq_true rfl) (Nat.le_of_ble_eq_true rfl) rfl ?_
            rintro U21 _ ⟨rfl, fU21, qU21⟩
            show J_ zX11_orderAll T (po_X11_orderAll T c d) 0 0 154 _ [] U21
            refine j_blx (F := fX11) tb_X11 (nn_ _) bk_X11_orderAll_154 bs_X11_orderAll_154 hz (fun K hK => ?_)
            refine hK 71 _ [] U21 ?_
            refine j_drop [some (vR 111 0), some (vI c), some (vI d), none, none, none] (fun k v hk => ?_) rfl ?_
            · match k, hk with
              | 0, hk => exact hk
              | 1, hk => exact hk
              | 2, hk => exact hk
              | 3, hk => cases hk
              | 4, hk => cases hk
              | 5, hk => cases hk
              | k + 6, hk => cases hk
            refine ih_71 _ ?_ (s - (T2 286 0 (T2 111 0 87 - 3 + 1) - T2 286 0 (T2 111 0 87 - 3)) + (T2 286 0 (T2 111 0 87 - 3 + 1) - T2 286 0 (T2 111 0 87 - 3))) (w - wt_ (T2 286 0 (T2 111 0 87 - 3 + 1) - T2 286 0 (T2 111 0 87 - 3)) (T2 286 0 (T2 111 0 87 - 3 + 2)) + wt_ (T2 286 0 (T2 111 0 87 - 3 + 1) - T2 286 0 (T2 111 0 87 - 3)) (T2 286 0 (T2 111 0 87 - 3 + 2)) - 1) U21 (Nat.le_refl _) ?_ ?_ ?_ ?_ ?_
            · have hm_71 := hm_71 (); omega
            · exact fr_t (fr_u (fr_t (fr_0 _ _) (fr_s hf_71 rfl)) hU4 rfl) (fr_s fU21 rfl)
            · exact qU21.1
            · omega
            · exact tb_f tb2 (fun j => (fU21 276 0 j rfl).trans (up_k hU4 (by exact Nat.ne_of_beq_eq_false rfl) 0 j))
            · exact fun v hv => qU21.2 v (oc_f (oc2 v hv) (fun j => up_k hU4 (by exact Nat.ne_of_beq_eq_false rfl) 0 j))
  have c_18 : ∀ (nn : Nat) (i : Int) (T1 : Zt), ((12 - i).toNat) ≤ nn → (fr_ [(276, []), (277, []), (278, []), (111, [82, 83, 79])] T T1) → (0 ≤ i ∧ T1 111 0 79 = T 208 0 c ∧ i ≤ T 208 0 c) → (TB_ T1 150000000) → (∀ j, 0 ≤ j → j < i → T1 277 0 j = T 207 0 (12 * c + j)) → J_ zX11_orderAll T (po_X11_orderAll T c d) 0 0 18 [some (vR 111 0), some (vI c), some (vI d), some (vI i), none, none] [] T1 := by
    intro nn
    induction nn using Nat.strongRecOn with
    | _ nn ih_18 =>
      intro i T1 hm_18 hf_18 i1 tb1 sc1
      replace hm_18 := fun (_ : Unit) => hm_18
      refine j_blx (F := fX11) tb_X11 (nn_ _) bk_X11_orderAll_18 bs_X11_orderAll_18 hz (fun K hK => ?_)
      intro b22 b22b
      refine And.intro (fun c23 => ?_) (fun c23 => ?_)
      · refine hK 56 _ [] T1 ?_
        refine j_blx (F := fX11) tb_X11 (nn_ _) bk_X11_orderAll_56 bs_X11_orderAll_56 hz (fun K hK => ?_)
        refine bd_i (by omega) ?_
        refine x_nm (fun U24 hU24 => ?_)
        have e25 := up_f hU24
        intro b26 b26b
        have e27 : U24 111 0 79 = T1 111 0 79 := up_j hU24 (by exact ni_ rfl) 111 0
        rw [e27] at b26 b26b ⊢
        refine hK 68 _ [vI 0, vI (T1 111 0 79), vI 0, vR 111 0] U24 ?_
        have e28 : U24 111 0 87 = 0 := up_f hU24
        refine j_callV (y := yX11_lay) (Yc := zX11_lay) (rest := []) [vI 0, vI (T1 111 0 79), vI 0] (ct_X11_lay (T := U24) (by omega) (by omega) (by omega) (by omega)) cl_X11_520 (qd_c (by decide +kernel)) (nn_ _) rfl (rf_of rfl) (Nat.le_of_ble_eq_true rfl) (Nat.le_of_ble_eq_true rfl) (Nat.le_of_ble_eq_true rfl) rfl ?_
        rintro U29 _ ⟨rfl, fU29, qU29⟩
        show J_ zX11_orderAll T (po_X11_orderAll T c d) 0 0 71 _ [] U29
        refine j_drop [some (vR 111 0), some (vI c), some (vI d), none, none, none] (fun k v hk => ?_) rfl ?_
        · match k, hk with
          | 0, hk => exact hk
          | 1, hk => exact hk
          | 2, hk => exact hk
          | 3, hk => cases hk
          | 4, hk => cases hk
          | 5, hk => cases hk
          | k + 6, hk => cases hk
        refine c_71 _ (0 + (T1 111 0 79 - 0)) (0 + wt_ (T1 111 0 79 - 0) 0) U29 (Nat.le_refl _) ?_ ?_ ?_ ?_ ?_
        · exact fr_t (fr_u (fr_t (fr_0 _ _) (fr_s hf_18 rfl)) hU24 rfl) (fr_s fU29 rfl)
        · exact ⟨1, _, by omega, pp_l (p := 0) (T := U24) ⟨rfl, rfl⟩ (by omega) (fun _ => rfl) rfl qU29 (by omega), Int.le_refl _⟩
        · have := wt_1 (s := T1 111 0 79 - 0) (k := 0) (by decide); omega
        · exact tb_f tb1 (fun j => (fU29 276 0 j rfl).trans (up_k hU24 (by exact Nat.ne_of_beq_eq_false rfl) 0 j))
        · intro v hv
          obtain ⟨j, a, b, e9⟩ := hv
          exact oc_f ⟨j, a, b, (sc1 j a (by omega)).trans e9⟩ (fun j => (fU29 277 0 j rfl).trans (up_k hU24 (by exact Nat.ne_of_beq_eq_false rfl) 0 j))
      · refine rg_i (by omega) ?_
        refine rg_i (by omega) ?_
        refine ix_i (by omega) ?_
        intro b30 b30b
        have e31 : T1 207 0 ((12 * c) + i) = T 207 0 ((12 * c) + i) := hf_18 207 0 ((12 * c) + i) rfl
        rw [e31] at b30 b30b ⊢
        refine iy_i (by omega) (by omega) ?_
        refine x_nm (fun U32 hU32 => ?_)
        have e33 := up_f hU32
        refine iy_i (by omega) (by omega) ?_
        refine x_nm (fun U34 hU34 => ?_)
        have e35 := up_f hU34
        refine rg_i (by omega) ?_
        refine hK 18 [some (vR 111 0), some (vI c), some (vI d), some (vI (i + 1)), none, none] [] U34 ?_
        have e36 : U34 111 0 79 = T1 111 0 79 := (up_k hU34 (by exact Nat.ne_of_beq_eq_false rfl) 0 79).trans (up_k hU32 (by exact Nat.ne_of_beq_eq_false rfl) 0 79)
        refine ih_18 _ ?_ (i + 1) U34 (Nat.le_refl _) ?_ ?_ ?_ ?_
        · have hm_18 := hm_18 (); omega
        · exact fr_u (fr_u (fr_t (fr_0 _ _) (fr_s hf_18 rfl)) hU32 rfl) hU34 rfl
        · omega
        · exact tb_f tb1 (fun j => (up_k hU34 (by exact Nat.ne_of_beq_eq_false rfl) 0 j).trans (up_k hU32 (by exact Nat.ne_of_beq_eq_false rfl) 0 j))
        · intro j a b
          by_cases z : j = i
          · rw [z]; exact (up_k hU34 (by exact Nat.ne_of_beq_eq_false rfl) 0 i).trans (up_f hU32)
          · exact ((up_k hU34 (by exact Nat.ne_of_beq_eq_false rfl) 0 j).trans (up_g hU32 (by omega))).trans (sc1 j a (by omega))
  refine j_blx (F := fX11) tb_X11 (nn_ _) bk_X11_orderAll_0 bs_X11_orderAll_0 hz (fun K hK => ?_)
  refine hK 3 _ [vI d, vI c, vR 111 0] T ?_
  refine j_callV (y := yX11_tellAll) (Yc := zX11_tellAll) (rest := []) [vI c, vI d] (ct_X11_tellAll (T := T) (by omega) (hml) (hsc) (hyb)) cl_X11_514 (qd_c (by decide +kernel)) (nn_ _) rfl (rf_of rfl) (Nat.le_of_ble_eq_true rfl) (Nat.le_of_ble_eq_true rfl) (Nat.le_of_ble_eq_true rfl) rfl ?_
  rintro U37 _ ⟨rfl, fU37, qU37⟩
  show J_ zX11_orderAll T (po_X11_orderAll T c d) 0 0 6 _ [] U37
  refine j_blx (F := fX11) tb_X11 (nn_ _) bk_X11_orderAll_6 bs_X11_orderAll_6 hz (fun K hK => ?_)
  refine ix_i (by omega) ?_
  intro b38 b38b
  have e39 : U37 208 0 c = T 208 0 c := fU37 208 0 c rfl
  rw [e39] at b38 b38b ⊢
  refine bd_i (by omega) ?_
  refine x_nm (fun U40 hU40 => ?_)
  have e41 := up_f hU40
  refine hK 18 [some (vR 111 0), some (vI c), some (vI d), some (vI 0), none, none] [] U40 ?_
  have e42 : U40 111 0 79 = T 208 0 c := up_f hU40
  refine c_18 _ 0 U40 (Nat.le_refl _) ?_ ?_ ?_ ?_
  · exact fr_u (fr_t (fr_0 _ _) (fr_s fU37 rfl)) hU40 rfl
  · omega
  · exact tb_f qU37 (fun j => up_k hU40 (by exact Nat.ne_of_beq_eq_false rfl) 0 j)
  · intro j a b; omega
abbrev cX11_table : ByteArray := prog_13_method_94_code
def yX11_table : MethodName := ⟨RX11, "table", "(IIII)I"⟩
def zX11_table : Zm := (RX11, cX11_table, 5, (some .int), { frames := 5, cells := 0, slots := 0, locals := 128 })
theorem bk_X11_table_95 : ck_ fX11 (some .int) cX11_table 95 [.ireturn] 96 = true := qck_r (nn_ _) (by decide +kernel)
theorem bs_X11_table_95 {P : Zt → Option Zv → Prop} (K : Int → Zl → List Zv → Zt → Prop) : sx_ K P [.ireturn] 96 = x_ireturn P := (xe_ireturn)
theorem bk_X11_table_0 : ck_ fX11 (some .int) cX11_table 0 [.iload 1, .aload 0, .tableswitch 0 11 6 #[]] 5 = true := qck_r (nn_ _) (by decide +kernel)
theorem bs_X11_table_0 {P : Zt → Option Zv → Prop} (K : Int → Zl → List Zv → Zt → Prop) : sx_ K P [.iload 1, .aload 0, .tableswitch 0 11 6 #[]] 5 = x_iload 1 (x_aload 0 (x_g0 111 6 0 4 (K 5))) := ((xe_iload 1).trans (congrArg (x_iload 1) ((xe_aload 0).trans (congrArg (x_aload 0) ((xe_g0 (kk := 111) rfl tl_11_6).trans (congrArg (x_g0 111 6 0 4) xe_nil))))))
theorem bk_X11_table_8 : ck_ fX11 (some .int) cX11_table 8 [.ifCond .eq 22, .iload 3, .aload 0, .tableswitch 0 11 12 #[]] 16 = true := qck_r (nn_ _) (by decide +kernel)
theorem bs_X11_table_8 {P : Zt → Option Zv → Prop} (K : Int → Zl → List Zv → Zt → Prop) : sx_ K P [.ifCond .eq 22, .iload 3, .aload 0, .tableswitch 0 11 12 #[]] 16 = x_ifCond .eq 22 K (x_iload 3 (x_aload 0 (x_g0 111 12 0 12 (K 16)))) := ((xe_ifCond .eq 22).trans (congrArg (x_ifCond .eq 22 K) ((xe_iload 3).trans (congrArg (x_iload 3) ((xe_aload 0).trans (congrArg (x_aload 0) ((xe_g0 (kk := 111) rfl tl_11_12).trans (congrArg (x_g0 111 12 0 12) xe_nil))))))))
theorem bk_X11_table_22 : ck_ fX11 (some .int) cX11_table 22 [.iconst (-2), .ireturn] 25 = true := qck_r (nn_ _) (by decide +kernel)
theorem bs_X11_table_22 {P : Zt → Option Zv → Prop} (K : Int → Zl → List Zv → Zt → Prop) : sx_ K P [.iconst (-2), .ireturn] 25 = x_iconst (-2) (x_ireturn P) := ((xe_iconst (-2)).trans (congrArg (x_iconst (-2)) (xe_ireturn)))
theorem bk_X11_table_19 : ck_ fX11 (some .int) cX11_table 19 [.ifCond .ne 25, .iconst (-2), .ireturn] 25 = true := qck_r (nn_ _) (by decide +kernel)
theorem bs_X11_table_19 {P : Zt → Option Zv → Prop} (K : Int → Zl → List Zv → Zt → Prop) : sx_ K P [.ifCond .ne 25, .iconst (-2), .ireturn] 25 = x_ifCond .ne 25 K (x_iconst (-2) (x_ireturn P)) := ((xe_ifCond .ne 25).trans (congrArg (x_ifCond .ne 25 K) ((xe_iconst (-2)).trans (congrArg (x_iconst (-2)) (xe_ireturn)))))
theorem bk_X11_table_25 : ck_ fX11 (some .int) cX11_table 25 [.iload 2, .iconst 0, .iconst 999] 30 = true := qck_r (nn_ _) (by decide +kernel)
theorem bs_X11_table_25 {P : Zt → Option Zv → Prop} (K : Int → Zl → List Zv → Zt → Prop) : sx_ K P [.iload 2, .iconst 0, .iconst 999] 30 = x_iload 2 (x_iconst 0 (x_iconst 999 (K 30))) := ((xe_iload 2).trans (congrArg (x_iload 2) ((xe_iconst 0).trans (congrArg (x_iconst 0) ((xe_iconst 999).trans (congrArg (x_iconst 999) xe_nil))))))
theorem bk_X11_table_33 : ck_ fX11 (some .int) cX11_table 33 [.ifCond .eq 47, .iload 4, .iconst 0, .iconst 7] 41 = true := qck_r (nn_ _) (by decide +kernel)
theorem bs_X11_table_33 {P : Zt → Option Zv → Prop} (K : Int → Zl → List Zv → Zt → Prop) : sx_ K P [.ifCond .eq 47, .iload 4, .iconst 0, .iconst 7] 41 = x_ifCond .eq 47 K (x_iload 4 (x_iconst 0 (x_iconst 7 (K 41)))) := ((xe_ifCond .eq 47).trans (congrArg (x_ifCond .eq 47 K) ((xe_iload 4).trans (congrArg (x_iload 4) ((xe_iconst 0).trans (congrArg (x_iconst 0) ((xe_iconst 7).trans (congrArg (x_iconst 7) xe_nil))))))))
theorem bk_X11_table_47 : ck_ fX11 (some .int) cX11_table 47 [.iconst (-3), .ireturn] 50 = true := qck_r (nn_ _) (by decide +kernel)
theorem bs_X11_table_47 {P : Zt → Option Zv → Prop} (K : Int → Zl → List Zv → Zt → Prop) : sx_ K P [.iconst (-3), .ireturn] 50 = x_iconst (-3) (x_ireturn P) := ((xe_iconst (-3)).trans (congrArg (x_iconst (-3)) (xe_ireturn)))
theorem bk_X11_table_44 : ck_ fX11 (some .int) cX11_table 44 [.ifCond .ne 50, .iconst (-3), .ireturn] 50 = true := qck_r (nn_ _) (by decide +kernel)
theorem bs_X11_table_44 {P : Zt → Option Zv → Prop} (K : Int → Zl → List Zv → Zt → Prop) : sx_ K P [.ifCond .ne 50, .iconst (-3), .ireturn] 50 = x_ifCond .ne 50 K (x_iconst (-3) (x_ireturn P)) := ((xe_ifCond .ne 50).trans (congrArg (x_ifCond .ne 50 K) ((xe_iconst (-3)).trans (congrArg (x_iconst (-3)) (xe_ireturn)))))
theorem bk_X11_table_50 : ck_ fX11 (some .int) cX11_table 50 [.aload 0, .iload 1, .iload 3] 53 = true := qck_r (nn_ _) (by decide +kernel)
theorem bs_X11_table_50 {P : Zt → Option Zv → Prop} (K : Int → Zl → List Zv → Zt → Prop) : sx_ K P [.aload 0, .iload 1, .iload 3] 53 = x_aload 0 (x_iload 1 (x_iload 3 (K 53))) := ((xe_aload 0).trans (congrArg (x_aload 0) ((xe_iload 1).trans (congrArg (x_iload 1) ((xe_iload 3).trans (congrArg (x_iload 3) xe_nil))))))
theorem bk_X11_table_56 : ck_ fX11 (some .int) cX11_table 56 [.ifCond .ne 62, .iconst (-4), .ireturn] 62 = true := qck_r (nn_ _) (by decide +kernel)
theorem bs_X11_table_56 {P : Zt → Option Zv → Prop} (K : Int → Zl → List Zv → Zt → Prop) : sx_ K P [.ifCond .ne 62, .iconst (-4), .ireturn] 62 = x_ifCond .ne 62 K (x_iconst (-4) (x_ireturn P)) := ((xe_ifCond .ne 62).trans (congrArg (x_ifCond .ne 62 K) ((xe_iconst (-4)).trans (congrArg (x_iconst (-4)) (xe_ireturn)))))
theorem bk_X11_table_62 : ck_ fX11 (some .int) cX11_table 62 [.aload 0, .iload 1, .iload 2] 65 = true := qck_r (nn_ _) (by decide +kernel)
theorem bs_X11_table_62 {P : Zt → Option Zv → Prop} (K : Int → Zl → List Zv → Zt → Prop) : sx_ K P [.aload 0, .iload 1, .iload 2] 65 = x_aload 0 (x_iload 1 (x_iload 2 (K 65))) := ((xe_aload 0).trans (congrArg (x_aload 0) ((xe_iload 1).trans (congrArg (x_iload 1) ((xe_iload 2).trans (congrArg (x_iload 2) xe_nil))))))
set_option maxRecDepth 100000 in
theorem cl_X11_532 : cv_ RX11 532 yX11_orderAll zX11_orderAll 11 2 := ⟨gi_V (lwq_9 (dqc_m (dqc_m (dqc_m (dqc_m (dqc_m (List.mem_of_getElem? (i := 2) rfl)))))) rfl : Cond.methodLink RX11 532 yX11_orderAll ∈ lw_g) (lwq_9 (dqc_m (dqc_m (dqc_m (dqc_m (dqc_m (List.mem_of_getElem? (i := 4) rfl)))))) rfl : Cond.instanceMethod yX11_orderAll ∈ lw_g) (lw_sel 41 rfl : Cond.selects yX11_orderAll.cls yX11_orderAll yX11_orderAll ∈ lw_g) (lwq_1 (dqa_m (List.mem_of_getElem? (i := 2) rfl)) rfl : Cond.initialized yX11_orderAll.cls ∈ lw_g) (lwq_9 (dqc_m (dqc_m (dqc_m (dqc_m (dqc_m (List.mem_of_getElem? (i := 5) rfl)))))) rfl : Cond.code yX11_orderAll cX11_orderAll 6 none ∈ lw_g), ⟨nmh_1.1, nmh_1.2, pdq_0⟩, ⟨_, _, rfl⟩⟩
theorem bk_X11_table_68 : ck_ fX11 (some .int) cX11_table 68 [.iload 4, .iconst 7, .if_icmp .ne 83, .aload 0, .iload 3] 77 = true := qck_r (nn_ _) (by decide +kernel)
theorem bs_X11_table_68 {P : Zt → Option Zv → Prop} (K : Int → Zl → List Zv → Zt → Prop) : sx_ K P [.iload 4, .iconst 7, .if_icmp .ne 83, .aload 0, .iload 3] 77 = x_iload 4 (x_iconst 7 (x_if_icmp .ne 83 K (x_aload 0 (x_iload 3 (K 77))))) := ((xe_iload 4).trans (congrArg (x_iload 4) ((xe_iconst 7).trans (congrArg (x_iconst 7) ((xe_if_icmp .ne 83).trans (congrArg (x_if_icmp .ne 83 K) ((xe_aload 0).trans (congrArg (x_aload 0) ((xe_iload 3).trans (congrArg (x_iload 3) xe_nil))))))))))
theorem bk_X11_table_83 : ck_ fX11 (some .int) cX11_table 83 [.aload 0, .tableswitch 0 11 76 #[], .iconst 9, .iload 3, .imul, .iload 4, .iadd, .iaload] 95 = true := qck_r (nn_ _) (by decide +kernel)
theorem bs_X11_table_83 {P : Zt → Option Zv → Prop} (K : Int → Zl → List Zv → Zt → Prop) : sx_ K P [.aload 0, .tableswitch 0 11 76 #[], .iconst 9, .iload 3, .imul, .iload 4, .iadd, .iaload] 95 = x_aload 0 (x_g1 111 276 (x_iconst 9 (x_iload 3 (x_imul (x_iload 4 (x_iadd (x_iaload (K 95)))))))) := ((xe_aload 0).trans (congrArg (x_aload 0) ((xe_g1 (kk := 111) rfl tl_11_76).trans (congrArg (x_g1 111 276) ((xe_iconst 9).trans (congrArg (x_iconst 9) ((xe_iload 3).trans (congrArg (x_iload 3) ((xe_imul).trans (congrArg (x_imul) ((xe_iload 4).trans (congrArg (x_iload 4) ((xe_iadd).trans (congrArg (x_iadd) ((xe_iaload).trans (congrArg (x_iaload) xe_nil))))))))))))))))
set_option maxRecDepth 100000 in
theorem cl_X11_535 : cv_ RX11 535 yX11_placeOf zX11_placeOf 11 1 := ⟨gi_V (lwq_9 (dqc_m (dqc_m (dqc_m (dqc_m (dqc_m (dqc_m (dqa_m (dqa_m (List.mem_of_getElem? (i := 4) rfl))))))))) rfl : Cond.methodLink RX11 535 yX11_placeOf ∈ lw_g) (lwq_9 (dqc_m (dqc_m (dqc_m (dqc_m (dqc_m (dqc_m (dqa_m (dqa_m (List.mem_of_getElem? (i := 6) rfl))))))))) rfl : Cond.instanceMethod yX11_placeOf ∈ lw_g) (lw_sel 45 rfl : Cond.selects yX11_placeOf.cls yX11_placeOf yX11_placeOf ∈ lw_g) (lwq_1 (dqa_m (List.mem_of_getElem? (i := 2) rfl)) rfl : Cond.initialized yX11_placeOf.cls ∈ lw_g) (lwq_9 (dqc_m (dqc_m (dqc_m (dqc_m (dqc_m (dqc_m (dqa_m (dqa_m (List.mem_of_getElem? (i := 7) rfl))))))))) rfl : Cond.code yX11_placeOf cX11_placeOf 3 (some .int) ∈ lw_g), ⟨nmh_1.1, nmh_1.2, pdq_15⟩, ⟨_, _, rfl⟩⟩
theorem bk_X11_table_80 : ck_ fX11 (some .int) cX11_table 80 [.goto 95] 83 = true := qck_r (nn_ _) (by decide +kernel)
theorem bs_X11_table_80 {P : Zt → Option Zv → Prop} (K : Int → Zl → List Zv → Zt → Prop) : sx_ K P [.goto 95] 83 = x_goto 95 K := (xe_goto 95)
abbrev po_X11_table (T : Zt) (c d cl w : Int) : Zt → Option Zv → Prop := fun T' r => ∃ x : Int, r = some (vI x) ∧ fr_ [(276, []), (284, []), (277, []), (286, []), (278, []), (111, [82, 83, 85, 87, 79])] T T' ∧ (True)
set_option maxHeartbeats 4000000 in
theorem ct_X11_table {T : Zt} {c d cl w : Int} (hri : RI_ T) (hml : ML_ T) (hsc : SC_ T) (hyb : YB_ T) : Ct_ yX11_table zX11_table T [vR 111 0, vI c, vI d, vI cl, vI w] (po_X11_table T c d cl w) := by
  refine ct_of pn_11 rfl rfl (Nat.le_of_ble_eq_true rfl) (fun hT hav => ?_)
  have hr_c : -2147483648 ≤ c ∧ c ≤ 2147483647 := hav (vI c) (List.mem_cons_of_mem _ List.mem_cons_self)
  have hr_d : -2147483648 ≤ d ∧ d ≤ 2147483647 := hav (vI d) (List.mem_cons_of_mem _ (List.mem_cons_of_mem _ List.mem_cons_self))
  have hr_cl : -2147483648 ≤ cl ∧ cl ≤ 2147483647 := hav (vI cl) (List.mem_cons_of_mem _ (List.mem_cons_of_mem _ (List.mem_cons_of_mem _ List.mem_cons_self)))
  have hr_w : -2147483648 ≤ w ∧ w ≤ 2147483647 := hav (vI w) (List.mem_cons_of_mem _ (List.mem_cons_of_mem _ (List.mem_cons_of_mem _ (List.mem_cons_of_mem _ List.mem_cons_self))))
  have hz : zX11_table.2.2.2.1 = some .boolean → ∀ (T' : Zt) (x : Int), po_X11_table T c d cl w T' (some (vI x)) → 0 ≤ x ∧ x ≤ 1 := fun h => by cases h
  have hb_6 : 0 ≤ T 111 0 6 ∧ T 111 0 6 ≤ 4 := bd_f hT 111 6 tl_11_6 0
  have hb_12 : 0 ≤ T 111 0 12 ∧ T 111 0 12 ≤ 12 := bd_f hT 111 12 tl_11_12 0
  show J_ zX11_table T (po_X11_table T c d cl w) 0 0 0 [some (vR 111 0), some (vI c), some (vI d), some (vI cl), some (vI w)] [] T
  have c_95 : ∀ (v : Int) (T9 : Zt), (fr_ [(276, []), (284, []), (277, []), (286, []), (278, []), (111, [82, 83, 85, 87, 79])] T T9) → J_ zX11_table T (po_X11_table T c d cl w) 0 0 95 [some (vR 111 0), some (vI c), some (vI d), some (vI cl), some (vI w)] [vI v] T9 := by
    intro v T9 hf_95
    refine j_blx (F := fX11) tb_X11 (nn_ _) bk_X11_table_95 bs_X11_table_95 hz (fun K hK => ?_)
    refine (show po_X11_table T c d cl w T9 (some (vI v)) from ?_)
    exact ⟨_, rfl, fr_t (fr_0 _ _) (fr_s hf_95 rfl), by trivial⟩
  refine j_blx (F := fX11) tb_X11 (nn_ _) bk_X11_table_0 bs_X11_table_0 hz (fun K hK => ?_)
  intro b1 b1b
  refine hK 5 _ [vI (T 111 0 6), vI c] T ?_
  refine j_callS (y := yX11_isOf) (Yc := zX11_isOf) (rest := []) [vI c, vI (T 111 0 6)] (ct_X11_isOf (T := T) (by omega)) cl_X11_317 (qd_c (by decide +kernel)) (nn_ _) rfl (rf_of rfl) (Nat.le_of_ble_eq_true rfl) (Nat.le_of_ble_eq_true rfl) (Nat.le_of_ble_eq_true rfl) rfl ?_
  rintro _ _ ⟨rfl, x2, rfl, hx2⟩
  show J_ zX11_table T (po_X11_table T c d cl w) 0 0 8 _ [vI x2] T
  refine j_blx (F := fX11) tb_X11 (nn_ _) bk_X11_table_8 bs_X11_table_8 hz (fun K hK => ?_)
  refine And.intro (fun c3 => ?_) (fun c3 => ?_)
  · replace hx2 := hx2.resolve_left (fun z => absurd (c3.symm.trans z.1) (by decide))
    clear c3
    refine hK 22 _ [] T ?_
    refine j_blx (F := fX11) tb_X11 (nn_ _) bk_X11_table_22 bs_X11_table_22 hz (fun K hK => ?_)
    refine (show po_X11_table T c d cl w T (some (vI (-2))) from ?_)
    exact ⟨_, rfl, fr_0 _ _, by trivial⟩
  · replace hx2 := hx2.resolve_right (fun z => c3 z.1)
    clear c3
    intro b4 b4b
    refine hK 16 _ [vI (T 111 0 12), vI cl] T ?_
    refine j_callS (y := yX11_isOf) (Yc := zX11_isOf) (rest := []) [vI cl, vI (T 111 0 12)] (ct_X11_isOf (T := T) (by omega)) cl_X11_317 (qd_c (by decide +kernel)) (nn_ _) rfl (rf_of rfl) (Nat.le_of_ble_eq_true rfl) (Nat.le_of_ble_eq_true rfl) (Nat.le_of_ble_eq_true rfl) rfl ?_
    rintro _ _ ⟨rfl, x5, rfl, hx5⟩
    show J_ zX11_table T (po_X11_table T c d cl w) 0 0 19 _ [vI x5] T
    refine j_blx (F := fX11) tb_X11 (nn_ _) bk_X11_table_19 bs_X11_table_19 hz (fun K hK => ?_)
    refine And.intro (fun c6 => ?_) (fun c6 => ?_)
    · replace hx5 := hx5.resolve_right (fun z => c6 z.1)
      clear c6
      refine hK 25 _ [] T ?_
      refine j_blx (F := fX11) tb_X11 (nn_ _) bk_X11_table_25 bs_X11_table_25 hz (fun K hK => ?_)
      refine hK 30 _ [vI 999, vI 0, vI d] T ?_
      refine j_callS (y := yX11_in) (Yc := zX11_in) (rest := []) [vI d, vI 0, vI 999] (ct_X11_in (T := T)) cl_X11_255 (qd_c (by decide +kernel)) (nn_ _) rfl (rf_of rfl) (Nat.le_of_ble_eq_true rfl) (Nat.le_of_ble_eq_true rfl) (Nat.le_of_ble_eq_true rfl) rfl ?_
      rintro _ _ ⟨rfl, x7, rfl, hx7⟩
      show J_ zX11_table T (po_X11_table T c d cl w) 0 0 33 _ [vI x7] T
      refine j_blx (F := fX11) tb_X11 (nn_ _) bk_X11_table_33 bs_X11_table_33 hz (fun K hK => ?_)
      refine And.intro (fun c8 => ?_) (fun c8 => ?_)
      · replace hx7 := hx7.resolve_left (fun z => absurd (c8.symm.trans z.1) (by decide))
        clear c8
        refine hK 47 _ [] T ?_
        refine j_blx (F := fX11) tb_X11 (nn_ _) bk_X11_table_47 bs_X11_table_47 hz (fun K hK => ?_)
        refine (show po_X11_table T c d cl w T (some (vI (-3))) from ?_)
        exact ⟨_, rfl, fr_0 _ _, by trivial⟩
      · replace hx7 := hx7.resolve_right (fun z => c8 z.1)
        clear c8
        refine hK 41 _ [vI 7, vI 0, vI w] T ?_
        refine j_callS (y := yX11_in) (Yc := zX11_in) (rest := []) [vI w, vI 0, vI 7] (ct_X11_in (T := T)) cl_X11_255 (qd_c (by decide +kernel)) (nn_ _) rfl (rf_of rfl) (Nat.le_of_ble_eq_true rfl) (Nat.le_of_ble_eq_true rfl) (Nat.le_of_ble_eq_true rfl) rfl ?_
        rintro _ _ ⟨rfl, x9, rfl, hx9⟩
        show J_ zX11_table T (po_X11_table T c d cl w) 0 0 44 _ [vI x9] T
        refine j_blx (F := fX11) tb_X11 (nn_ _) bk_X11_table_44 bs_X11_table_44 hz (fun K hK => ?_)
        refine And.intro (fun c10 => ?_) (fun c10 => ?_)
        · replace hx9 := hx9.resolve_right (fun z => c10 z.1)
          clear c10
          refine hK 50 _ [] T ?_
          refine j_blx (F := fX11) tb_X11 (nn_ _) bk_X11_table_50 bs_X11_table_50 hz (fun K hK => ?_)
          refine hK 53 _ [vI cl, vI c, vR 111 0] T ?_
          refine j_callV (y := yX11_hasEntered) (Yc := zX11_hasEntered) (rest := []) [vI c, vI cl] (ct_X11_hasEntered (T := T) (by omega)) cl_X11_340 (qd_c (by decide +kernel)) (nn_ _) rfl (rf_of rfl) (Nat.le_of_ble_eq_true rfl) (Nat.le_of_ble_eq_true rfl) (Nat.le_of_ble_eq_true rfl) rfl ?_
          rintro _ _ ⟨rfl, x11, rfl, hx11⟩
          show J_ zX11_table T (po_X11_table T c d cl w) 0 0 56 _ [vI x11] T
          refine j_blx (F := fX11) tb_X11 (nn_ _) bk_X11_table_56 bs_X11_table_56 hz (fun K hK => ?_)
          refine And.intro (fun c12 => ?_) (fun c12 => ?_)
          · refine hK 62 _ [] T ?_
            refine j_blx (F := fX11) tb_X11 (nn_ _) bk_X11_table_62 bs_X11_table_62 hz (fun K hK => ?_)
            refine hK 65 _ [vI d, vI c, vR 111 0] T ?_
            refine j_callV (y := yX11_orderAll) (Yc := zX11_orderAll) (rest := []) [vI c, vI d] (ct_X11_orderAll (T := T) (by omega) (hri) (hml) (hsc) (hyb)) cl_X11_532 (qd_c (by decide +kernel)) (nn_ _) rfl (rf_of rfl) (Nat.le_of_ble_eq_true rfl) (Nat.le_of_ble_eq_true rfl) (Nat.le_of_ble_eq_true rfl) rfl ?_
            rintro U13 _ ⟨rfl, fU13, ⟨qU13a, qU13b⟩⟩
            show J_ zX11_table T (po_X11_table T c d cl w) 0 0 68 _ [] U13
            refine j_blx (F := fX11) tb_X11 (nn_ _) bk_X11_table_68 bs_X11_table_68 hz (fun K hK => ?_)
            refine And.intro (fun c14 => ?_) (fun c14 => ?_)
            · refine hK 83 _ [] U13 ?_
              refine j_blx (F := fX11) tb_X11 (nn_ _) bk_X11_table_83 bs_X11_table_83 hz (fun K hK => ?_)
              refine rg_i (by omega) ?_
              refine rg_i (by omega) ?_
              refine ix_i (by omega) ?_
              intro b15 b15b
              refine hK 95 _ [vI (U13 276 0 ((9 * cl) + w))] U13 ?_
              refine c_95 (U13 276 0 ((9 * cl) + w)) U13 ?_
              · exact fr_t (fr_0 _ _) (fr_s fU13 rfl)
            · refine hK 77 _ [vI cl, vR 111 0] U13 ?_
              refine j_callV (y := yX11_placeOf) (Yc := zX11_placeOf) (rest := []) [vI cl] (ct_X11_placeOf (T := U13) (by exact qU13b cl ((hx11.resolve_right (fun z => absurd z.1 (by omega))).2))) cl_X11_535 (qd_c (by decide +kernel)) (nn_ _) rfl (rf_of rfl) (Nat.le_of_ble_eq_true rfl) (Nat.le_of_ble_eq_true rfl) (Nat.le_of_ble_eq_true rfl) rfl ?_
              rintro _ _ ⟨rfl, x16, rfl, hx16⟩
              show J_ zX11_table T (po_X11_table T c d cl w) 0 0 80 _ [vI x16] U13
              refine j_blx (F := fX11) tb_X11 (nn_ _) bk_X11_table_80 bs_X11_table_80 hz (fun K hK => ?_)
              refine hK 95 _ [vI x16] U13 ?_
              refine c_95 x16 U13 ?_
              · exact fr_t (fr_0 _ _) (fr_s fU13 rfl)
          · replace hx11 := hx11.resolve_left (fun z => absurd (c12.symm.trans z.1) (by decide))
            clear c12
            refine (show po_X11_table T c d cl w T (some (vI (-4))) from ?_)
            exact ⟨_, rfl, fr_0 _ _, by trivial⟩
        · replace hx9 := hx9.resolve_left (fun z => absurd (c10.symm.trans z.1) (by decide))
          clear c10
          refine (show po_X11_table T c d cl w T (some (vI (-3))) from ?_)
          exact ⟨_, rfl, fr_0 _ _, by trivial⟩
    · replace hx5 := hx5.resolve_left (fun z => absurd (c6.symm.trans z.1) (by decide))
      clear c6
      refine (show po_X11_table T c d cl w T (some (vI (-2))) from ?_)
      exact ⟨_, rfl, fr_0 _ _, by trivial⟩
abbrev cX11_standing : ByteArray := prog_13_method_95_code
def yX11_standing : MethodName := ⟨RX11, "standing", "(III)I"⟩
def zX11_standing : Zm := (RX11, cX11_standing, 4, (some .int), { frames := 5, cells := 0, slots := 0, locals := 128 })
theorem bk_X11_standing_55 : ck_ fX11 (some .int) cX11_standing 55 [.ireturn] 56 = true := qck_r (nn_ _) (by decide +kernel)
theorem bs_X11_standing_55 {P : Zt → Option Zv → Prop} (K : Int → Zl → List Zv → Zt → Prop) : sx_ K P [.ireturn] 56 = x_ireturn P := (xe_ireturn)
theorem bk_X11_standing_0 : ck_ fX11 (some .int) cX11_standing 0 [.iload 1, .aload 0, .tableswitch 0 11 6 #[]] 5 = true := qck_r (nn_ _) (by decide +kernel)
theorem bs_X11_standing_0 {P : Zt → Option Zv → Prop} (K : Int → Zl → List Zv → Zt → Prop) : sx_ K P [.iload 1, .aload 0, .tableswitch 0 11 6 #[]] 5 = x_iload 1 (x_aload 0 (x_g0 111 6 0 4 (K 5))) := ((xe_iload 1).trans (congrArg (x_iload 1) ((xe_aload 0).trans (congrArg (x_aload 0) ((xe_g0 (kk := 111) rfl tl_11_6).trans (congrArg (x_g0 111 6 0 4) xe_nil))))))
theorem bk_X11_standing_8 : ck_ fX11 (some .int) cX11_standing 8 [.ifCond .ne 14, .iconst (-2), .ireturn] 14 = true := qck_r (nn_ _) (by decide +kernel)
theorem bs_X11_standing_8 {P : Zt → Option Zv → Prop} (K : Int → Zl → List Zv → Zt → Prop) : sx_ K P [.ifCond .ne 14, .iconst (-2), .ireturn] 14 = x_ifCond .ne 14 K (x_iconst (-2) (x_ireturn P)) := ((xe_ifCond .ne 14).trans (congrArg (x_ifCond .ne 14 K) ((xe_iconst (-2)).trans (congrArg (x_iconst (-2)) (xe_ireturn)))))
theorem bk_X11_standing_14 : ck_ fX11 (some .int) cX11_standing 14 [.iload 2, .iconst 0, .iconst 999] 19 = true := qck_r (nn_ _) (by decide +kernel)
theorem bs_X11_standing_14 {P : Zt → Option Zv → Prop} (K : Int → Zl → List Zv → Zt → Prop) : sx_ K P [.iload 2, .iconst 0, .iconst 999] 19 = x_iload 2 (x_iconst 0 (x_iconst 999 (K 19))) := ((xe_iload 2).trans (congrArg (x_iload 2) ((xe_iconst 0).trans (congrArg (x_iconst 0) ((xe_iconst 999).trans (congrArg (x_iconst 999) xe_nil))))))
theorem bk_X11_standing_22 : ck_ fX11 (some .int) cX11_standing 22 [.ifCond .ne 28, .iconst (-3), .ireturn] 28 = true := qck_r (nn_ _) (by decide +kernel)
theorem bs_X11_standing_22 {P : Zt → Option Zv → Prop} (K : Int → Zl → List Zv → Zt → Prop) : sx_ K P [.ifCond .ne 28, .iconst (-3), .ireturn] 28 = x_ifCond .ne 28 K (x_iconst (-3) (x_ireturn P)) := ((xe_ifCond .ne 28).trans (congrArg (x_ifCond .ne 28 K) ((xe_iconst (-3)).trans (congrArg (x_iconst (-3)) (xe_ireturn)))))
theorem bk_X11_standing_28 : ck_ fX11 (some .int) cX11_standing 28 [.aload 0, .iload 1, .iload 2] 31 = true := qck_r (nn_ _) (by decide +kernel)
theorem bs_X11_standing_28 {P : Zt → Option Zv → Prop} (K : Int → Zl → List Zv → Zt → Prop) : sx_ K P [.aload 0, .iload 1, .iload 2] 31 = x_aload 0 (x_iload 1 (x_iload 2 (K 31))) := ((xe_aload 0).trans (congrArg (x_aload 0) ((xe_iload 1).trans (congrArg (x_iload 1) ((xe_iload 2).trans (congrArg (x_iload 2) xe_nil))))))
theorem bk_X11_standing_34 : ck_ fX11 (some .int) cX11_standing 34 [.iload 3, .aload 0, .tableswitch 0 11 79 #[]] 39 = true := qck_r (nn_ _) (by decide +kernel)
theorem bs_X11_standing_34 {P : Zt → Option Zv → Prop} (K : Int → Zl → List Zv → Zt → Prop) : sx_ K P [.iload 3, .aload 0, .tableswitch 0 11 79 #[]] 39 = x_iload 3 (x_aload 0 (x_g0 111 79 0 12 (K 39))) := ((xe_iload 3).trans (congrArg (x_iload 3) ((xe_aload 0).trans (congrArg (x_aload 0) ((xe_g0 (kk := 111) rfl tl_11_79).trans (congrArg (x_g0 111 79 0 12) xe_nil))))))
theorem bk_X11_standing_42 : ck_ fX11 (some .int) cX11_standing 42 [.ifCond .eq 54, .aload 0, .tableswitch 0 11 77 #[], .iload 3, .iaload, .goto 55] 54 = true := qck_r (nn_ _) (by decide +kernel)
theorem bs_X11_standing_42 {P : Zt → Option Zv → Prop} (K : Int → Zl → List Zv → Zt → Prop) : sx_ K P [.ifCond .eq 54, .aload 0, .tableswitch 0 11 77 #[], .iload 3, .iaload, .goto 55] 54 = x_ifCond .eq 54 K (x_aload 0 (x_g1 111 277 (x_iload 3 (x_iaload (x_goto 55 K))))) := ((xe_ifCond .eq 54).trans (congrArg (x_ifCond .eq 54 K) ((xe_aload 0).trans (congrArg (x_aload 0) ((xe_g1 (kk := 111) rfl tl_11_77).trans (congrArg (x_g1 111 277) ((xe_iload 3).trans (congrArg (x_iload 3) ((xe_iaload).trans (congrArg (x_iaload) (xe_goto 55)))))))))))
theorem bk_X11_standing_54 : ck_ fX11 (some .int) cX11_standing 54 [.iconst (-1)] 55 = true := qck_r (nn_ _) (by decide +kernel)
theorem bs_X11_standing_54 {P : Zt → Option Zv → Prop} (K : Int → Zl → List Zv → Zt → Prop) : sx_ K P [.iconst (-1)] 55 = x_iconst (-1) (K 55) := ((xe_iconst (-1)).trans (congrArg (x_iconst (-1)) xe_nil))
abbrev po_X11_standing (T : Zt) (c d k : Int) : Zt → Option Zv → Prop := fun T' r => ∃ x : Int, r = some (vI x) ∧ fr_ [(276, []), (284, []), (277, []), (286, []), (278, []), (111, [82, 83, 85, 87, 79])] T T' ∧ (True)
set_option maxHeartbeats 4000000 in
theorem ct_X11_standing {T : Zt} {c d k : Int} (hri : RI_ T) (hml : ML_ T) (hsc : SC_ T) (hyb : YB_ T) : Ct_ yX11_standing zX11_standing T [vR 111 0, vI c, vI d, vI k] (po_X11_standing T c d k) := by
  refine ct_of pn_11 rfl rfl (Nat.le_of_ble_eq_true rfl) (fun hT hav => ?_)
  have hr_c : -2147483648 ≤ c ∧ c ≤ 2147483647 := hav (vI c) (List.mem_cons_of_mem _ List.mem_cons_self)
  have hr_d : -2147483648 ≤ d ∧ d ≤ 2147483647 := hav (vI d) (List.mem_cons_of_mem _ (List.mem_cons_of_mem _ List.mem_cons_self))
  have hr_k : -2147483648 ≤ k ∧ k ≤ 2147483647 := hav (vI k) (List.mem_cons_of_mem _ (List.mem_cons_of_mem _ (List.mem_cons_of_mem _ List.mem_cons_self)))
  have hz : zX11_standing.2.2.2.1 = some .boolean → ∀ (T' : Zt) (x : Int), po_X11_standing T c d k T' (some (vI x)) → 0 ≤ x ∧ x ≤ 1 := fun h => by cases h
  have hb_6 : 0 ≤ T 111 0 6 ∧ T 111 0 6 ≤ 4 := bd_f hT 111 6 tl_11_6 0
  show J_ zX11_standing T (po_X11_standing T c d k) 0 0 0 [some (vR 111 0), some (vI c), some (vI d), some (vI k)] [] T
  have c_55 : ∀ (v : Int) (T9 : Zt), (fr_ [(276, []), (284, []), (277, []), (286, []), (278, []), (111, [82, 83, 85, 87, 79])] T T9) → J_ zX11_standing T (po_X11_standing T c d k) 0 0 55 [some (vR 111 0), some (vI c), some (vI d), some (vI k)] [vI v] T9 := by
    intro v T9 hf_55
    refine j_blx (F := fX11) tb_X11 (nn_ _) bk_X11_standing_55 bs_X11_standing_55 hz (fun K hK => ?_)
    refine (show po_X11_standing T c d k T9 (some (vI v)) from ?_)
    exact ⟨_, rfl, fr_t (fr_0 _ _) (fr_s hf_55 rfl), by trivial⟩
  refine j_blx (F := fX11) tb_X11 (nn_ _) bk_X11_standing_0 bs_X11_standing_0 hz (fun K hK => ?_)
  intro b1 b1b
  refine hK 5 _ [vI (T 111 0 6), vI c] T ?_
  refine j_callS (y := yX11_isOf) (Yc := zX11_isOf) (rest := []) [vI c, vI (T 111 0 6)] (ct_X11_isOf (T := T) (by omega)) cl_X11_317 (qd_c (by decide +kernel)) (nn_ _) rfl (rf_of rfl) (Nat.le_of_ble_eq_true rfl) (Nat.le_of_ble_eq_true rfl) (Nat.le_of_ble_eq_true rfl) rfl ?_
  rintro _ _ ⟨rfl, x2, rfl, hx2⟩
  show J_ zX11_standing T (po_X11_standing T c d k) 0 0 8 _ [vI x2] T
  refine j_blx (F := fX11) tb_X11 (nn_ _) bk_X11_standing_8 bs_X11_standing_8 hz (fun K hK => ?_)
  refine And.intro (fun c3 => ?_) (fun c3 => ?_)
  · replace hx2 := hx2.resolve_right (fun z => c3 z.1)
    clear c3
    refine hK 14 _ [] T ?_
    refine j_blx (F := fX11) tb_X11 (nn_ _) bk_X11_standing_14 bs_X11_standing_14 hz (fun K hK => ?_)
    refine hK 19 _ [vI 999, vI 0, vI d] T ?_
    refine j_callS (y := yX11_in) (Yc := zX11_in) (rest := []) [vI d, vI 0, vI 999] (ct_X11_in (T := T)) cl_X11_255 (qd_c (by decide +kernel)) (nn_ _) rfl (rf_of rfl) (Nat.le_of_ble_eq_true rfl) (Nat.le_of_ble_eq_true rfl) (Nat.le_of_ble_eq_true rfl) rfl ?_
    rintro _ _ ⟨rfl, x4, rfl, hx4⟩
    show J_ zX11_standing T (po_X11_standing T c d k) 0 0 22 _ [vI x4] T
    refine j_blx (F := fX11) tb_X11 (nn_ _) bk_X11_standing_22 bs_X11_standing_22 hz (fun K hK => ?_)
    refine And.intro (fun c5 => ?_) (fun c5 => ?_)
    · replace hx4 := hx4.resolve_right (fun z => c5 z.1)
      clear c5
      refine hK 28 _ [] T ?_
      refine j_blx (F := fX11) tb_X11 (nn_ _) bk_X11_standing_28 bs_X11_standing_28 hz (fun K hK => ?_)
      refine hK 31 _ [vI d, vI c, vR 111 0] T ?_
      refine j_callV (y := yX11_orderAll) (Yc := zX11_orderAll) (rest := []) [vI c, vI d] (ct_X11_orderAll (T := T) (by omega) (hri) (hml) (hsc) (hyb)) cl_X11_532 (qd_c (by decide +kernel)) (nn_ _) rfl (rf_of rfl) (Nat.le_of_ble_eq_true rfl) (Nat.le_of_ble_eq_true rfl) (Nat.le_of_ble_eq_true rfl) rfl ?_
      rintro U6 _ ⟨rfl, fU6, ⟨qU6a, qU6b⟩⟩
      show J_ zX11_standing T (po_X11_standing T c d k) 0 0 34 _ [] U6
      refine j_blx (F := fX11) tb_X11 (nn_ _) bk_X11_standing_34 bs_X11_standing_34 hz (fun K hK => ?_)
      intro b7 b7b
      refine hK 39 _ [vI (U6 111 0 79), vI k] U6 ?_
      refine j_callS (y := yX11_isOf) (Yc := zX11_isOf) (rest := []) [vI k, vI (U6 111 0 79)] (ct_X11_isOf (T := U6) (by omega)) cl_X11_317 (qd_c (by decide +kernel)) (nn_ _) rfl (rf_of rfl) (Nat.le_of_ble_eq_true rfl) (Nat.le_of_ble_eq_true rfl) (Nat.le_of_ble_eq_true rfl) rfl ?_
      rintro _ _ ⟨rfl, x8, rfl, hx8⟩
      show J_ zX11_standing T (po_X11_standing T c d k) 0 0 42 _ [vI x8] U6
      refine j_blx (F := fX11) tb_X11 (nn_ _) bk_X11_standing_42 bs_X11_standing_42 hz (fun K hK => ?_)
      refine And.intro (fun c9 => ?_) (fun c9 => ?_)
      · replace hx8 := hx8.resolve_left (fun z => absurd (c9.symm.trans z.1) (by decide))
        clear c9
        refine hK 54 _ [] U6 ?_
        refine j_blx (F := fX11) tb_X11 (nn_ _) bk_X11_standing_54 bs_X11_standing_54 hz (fun K hK => ?_)
        refine hK 55 _ [vI (-1)] U6 ?_
        refine c_55 (-1) U6 ?_
        · exact fr_t (fr_0 _ _) (fr_s fU6 rfl)
      · replace hx8 := hx8.resolve_right (fun z => c9 z.1)
        clear c9
        refine ix_i (by omega) ?_
        intro b10 b10b
        refine hK 55 _ [vI (U6 277 0 k)] U6 ?_
        refine c_55 (U6 277 0 k) U6 ?_
        · exact fr_t (fr_0 _ _) (fr_s fU6 rfl)
    · replace hx4 := hx4.resolve_left (fun z => absurd (c5.symm.trans z.1) (by decide))
      clear c5
      refine (show po_X11_standing T c d k T (some (vI (-3))) from ?_)
      exact ⟨_, rfl, fr_0 _ _, by trivial⟩
  · replace hx2 := hx2.resolve_left (fun z => absurd (c3.symm.trans z.1) (by decide))
    clear c3
    refine (show po_X11_standing T c d k T (some (vI (-2))) from ?_)
    exact ⟨_, rfl, fr_0 _ _, by trivial⟩
abbrev cX11_parted : ByteArray := prog_13_method_96_code
def yX11_parted : MethodName := ⟨RX11, "parted", "(III)I"⟩
def zX11_parted : Zm := (RX11, cX11_parted, 4, (some .int), { frames := 5, cells := 0, slots := 0, locals := 128 })
theorem bk_X11_parted_57 : ck_ fX11 (some .int) cX11_parted 57 [.ireturn] 58 = true := qck_r (nn_ _) (by decide +kernel)
theorem bs_X11_parted_57 {P : Zt → Option Zv → Prop} (K : Int → Zl → List Zv → Zt → Prop) : sx_ K P [.ireturn] 58 = x_ireturn P := (xe_ireturn)
theorem bk_X11_parted_0 : ck_ fX11 (some .int) cX11_parted 0 [.iload 1, .aload 0, .tableswitch 0 11 6 #[]] 5 = true := qck_r (nn_ _) (by decide +kernel)
theorem bs_X11_parted_0 {P : Zt → Option Zv → Prop} (K : Int → Zl → List Zv → Zt → Prop) : sx_ K P [.iload 1, .aload 0, .tableswitch 0 11 6 #[]] 5 = x_iload 1 (x_aload 0 (x_g0 111 6 0 4 (K 5))) := ((xe_iload 1).trans (congrArg (x_iload 1) ((xe_aload 0).trans (congrArg (x_aload 0) ((xe_g0 (kk := 111) rfl tl_11_6).trans (congrArg (x_g0 111 6 0 4) xe_nil))))))
theorem bk_X11_parted_8 : ck_ fX11 (some .int) cX11_parted 8 [.ifCond .ne 14, .iconst (-2), .ireturn] 14 = true := qck_r (nn_ _) (by decide +kernel)
theorem bs_X11_parted_8 {P : Zt → Option Zv → Prop} (K : Int → Zl → List Zv → Zt → Prop) : sx_ K P [.ifCond .ne 14, .iconst (-2), .ireturn] 14 = x_ifCond .ne 14 K (x_iconst (-2) (x_ireturn P)) := ((xe_ifCond .ne 14).trans (congrArg (x_ifCond .ne 14 K) ((xe_iconst (-2)).trans (congrArg (x_iconst (-2)) (xe_ireturn)))))
theorem bk_X11_parted_14 : ck_ fX11 (some .int) cX11_parted 14 [.iload 2, .iconst 0, .iconst 999] 19 = true := qck_r (nn_ _) (by decide +kernel)
theorem bs_X11_parted_14 {P : Zt → Option Zv → Prop} (K : Int → Zl → List Zv → Zt → Prop) : sx_ K P [.iload 2, .iconst 0, .iconst 999] 19 = x_iload 2 (x_iconst 0 (x_iconst 999 (K 19))) := ((xe_iload 2).trans (congrArg (x_iload 2) ((xe_iconst 0).trans (congrArg (x_iconst 0) ((xe_iconst 999).trans (congrArg (x_iconst 999) xe_nil))))))
theorem bk_X11_parted_22 : ck_ fX11 (some .int) cX11_parted 22 [.ifCond .ne 28, .iconst (-3), .ireturn] 28 = true := qck_r (nn_ _) (by decide +kernel)
theorem bs_X11_parted_22 {P : Zt → Option Zv → Prop} (K : Int → Zl → List Zv → Zt → Prop) : sx_ K P [.ifCond .ne 28, .iconst (-3), .ireturn] 28 = x_ifCond .ne 28 K (x_iconst (-3) (x_ireturn P)) := ((xe_ifCond .ne 28).trans (congrArg (x_ifCond .ne 28 K) ((xe_iconst (-3)).trans (congrArg (x_iconst (-3)) (xe_ireturn)))))
theorem bk_X11_parted_28 : ck_ fX11 (some .int) cX11_parted 28 [.aload 0, .iload 1, .iload 2] 31 = true := qck_r (nn_ _) (by decide +kernel)
theorem bs_X11_parted_28 {P : Zt → Option Zv → Prop} (K : Int → Zl → List Zv → Zt → Prop) : sx_ K P [.aload 0, .iload 1, .iload 2] 31 = x_aload 0 (x_iload 1 (x_iload 2 (K 31))) := ((xe_aload 0).trans (congrArg (x_aload 0) ((xe_iload 1).trans (congrArg (x_iload 1) ((xe_iload 2).trans (congrArg (x_iload 2) xe_nil))))))
theorem bk_X11_parted_34 : ck_ fX11 (some .int) cX11_parted 34 [.iload 3, .aload 0, .tableswitch 0 11 79 #[], .iconst 1, .isub] 41 = true := qck_r (nn_ _) (by decide +kernel)
theorem bs_X11_parted_34 {P : Zt → Option Zv → Prop} (K : Int → Zl → List Zv → Zt → Prop) : sx_ K P [.iload 3, .aload 0, .tableswitch 0 11 79 #[], .iconst 1, .isub] 41 = x_iload 3 (x_aload 0 (x_g0 111 79 0 12 (x_iconst 1 (x_isub (K 41))))) := ((xe_iload 3).trans (congrArg (x_iload 3) ((xe_aload 0).trans (congrArg (x_aload 0) ((xe_g0 (kk := 111) rfl tl_11_79).trans (congrArg (x_g0 111 79 0 12) ((xe_iconst 1).trans (congrArg (x_iconst 1) ((xe_isub).trans (congrArg (x_isub) xe_nil))))))))))
theorem bk_X11_parted_44 : ck_ fX11 (some .int) cX11_parted 44 [.ifCond .eq 56, .aload 0, .tableswitch 0 11 78 #[], .iload 3, .iaload, .goto 57] 56 = true := qck_r (nn_ _) (by decide +kernel)
theorem bs_X11_parted_44 {P : Zt → Option Zv → Prop} (K : Int → Zl → List Zv → Zt → Prop) : sx_ K P [.ifCond .eq 56, .aload 0, .tableswitch 0 11 78 #[], .iload 3, .iaload, .goto 57] 56 = x_ifCond .eq 56 K (x_aload 0 (x_g1 111 278 (x_iload 3 (x_iaload (x_goto 57 K))))) := ((xe_ifCond .eq 56).trans (congrArg (x_ifCond .eq 56 K) ((xe_aload 0).trans (congrArg (x_aload 0) ((xe_g1 (kk := 111) rfl tl_11_78).trans (congrArg (x_g1 111 278) ((xe_iload 3).trans (congrArg (x_iload 3) ((xe_iaload).trans (congrArg (x_iaload) (xe_goto 57)))))))))))
theorem bk_X11_parted_56 : ck_ fX11 (some .int) cX11_parted 56 [.iconst (-1)] 57 = true := qck_r (nn_ _) (by decide +kernel)
theorem bs_X11_parted_56 {P : Zt → Option Zv → Prop} (K : Int → Zl → List Zv → Zt → Prop) : sx_ K P [.iconst (-1)] 57 = x_iconst (-1) (K 57) := ((xe_iconst (-1)).trans (congrArg (x_iconst (-1)) xe_nil))
abbrev po_X11_parted (T : Zt) (c d k : Int) : Zt → Option Zv → Prop := fun T' r => ∃ x : Int, r = some (vI x) ∧ fr_ [(276, []), (284, []), (277, []), (286, []), (278, []), (111, [82, 83, 85, 87, 79])] T T' ∧ (True)
set_option maxHeartbeats 4000000 in
theorem ct_X11_parted {T : Zt} {c d k : Int} (hri : RI_ T) (hml : ML_ T) (hsc : SC_ T) (hyb : YB_ T) : Ct_ yX11_parted zX11_parted T [vR 111 0, vI c, vI d, vI k] (po_X11_parted T c d k) := by
  refine ct_of pn_11 rfl rfl (Nat.le_of_ble_eq_true rfl) (fun hT hav => ?_)
  have hr_c : -2147483648 ≤ c ∧ c ≤ 2147483647 := hav (vI c) (List.mem_cons_of_mem _ List.mem_cons_self)
  have hr_d : -2147483648 ≤ d ∧ d ≤ 2147483647 := hav (vI d) (List.mem_cons_of_mem _ (List.mem_cons_of_mem _ List.mem_cons_self))
  have hr_k : -2147483648 ≤ k ∧ k ≤ 2147483647 := hav (vI k) (List.mem_cons_of_mem _ (List.mem_cons_of_mem _ (List.mem_cons_of_mem _ List.mem_cons_self)))
  have hz : zX11_parted.2.2.2.1 = some .boolean → ∀ (T' : Zt) (x : Int), po_X11_parted T c d k T' (some (vI x)) → 0 ≤ x ∧ x ≤ 1 := fun h => by cases h
  have hb_6 : 0 ≤ T 111 0 6 ∧ T 111 0 6 ≤ 4 := bd_f hT 111 6 tl_11_6 0
  show J_ zX11_parted T (po_X11_parted T c d k) 0 0 0 [some (vR 111 0), some (vI c), some (vI d), some (vI k)] [] T
  have c_57 : ∀ (v : Int) (T9 : Zt), (fr_ [(276, []), (284, []), (277, []), (286, []), (278, []), (111, [82, 83, 85, 87, 79])] T T9) → J_ zX11_parted T (po_X11_parted T c d k) 0 0 57 [some (vR 111 0), some (vI c), some (vI d), some (vI k)] [vI v] T9 := by
    intro v T9 hf_57
    refine j_blx (F := fX11) tb_X11 (nn_ _) bk_X11_parted_57 bs_X11_parted_57 hz (fun K hK => ?_)
    refine (show po_X11_parted T c d k T9 (some (vI v)) from ?_)
    exact ⟨_, rfl, fr_t (fr_0 _ _) (fr_s hf_57 rfl), by trivial⟩
  refine j_blx (F := fX11) tb_X11 (nn_ _) bk_X11_parted_0 bs_X11_parted_0 hz (fun K hK => ?_)
  intro b1 b1b
  refine hK 5 _ [vI (T 111 0 6), vI c] T ?_
  refine j_callS (y := yX11_isOf) (Yc := zX11_isOf) (rest := []) [vI c, vI (T 111 0 6)] (ct_X11_isOf (T := T) (by omega)) cl_X11_317 (qd_c (by decide +kernel)) (nn_ _) rfl (rf_of rfl) (Nat.le_of_ble_eq_true rfl) (Nat.le_of_ble_eq_true rfl) (Nat.le_of_ble_eq_true rfl) rfl ?_
  rintro _ _ ⟨rfl, x2, rfl, hx2⟩
  show J_ zX11_parted T (po_X11_parted T c d k) 0 0 8 _ [vI x2] T
  refine j_blx (F := fX11) tb_X11 (nn_ _) bk_X11_parted_8 bs_X11_parted_8 hz (fun K hK => ?_)
  refine And.intro (fun c3 => ?_) (fun c3 => ?_)
  · replace hx2 := hx2.resolve_right (fun z => c3 z.1)
    clear c3
    refine hK 14 _ [] T ?_
    refine j_blx (F := fX11) tb_X11 (nn_ _) bk_X11_parted_14 bs_X11_parted_14 hz (fun K hK => ?_)
    refine hK 19 _ [vI 999, vI 0, vI d] T ?_
    refine j_callS (y := yX11_in) (Yc := zX11_in) (rest := []) [vI d, vI 0, vI 999] (ct_X11_in (T := T)) cl_X11_255 (qd_c (by decide +kernel)) (nn_ _) rfl (rf_of rfl) (Nat.le_of_ble_eq_true rfl) (Nat.le_of_ble_eq_true rfl) (Nat.le_of_ble_eq_true rfl) rfl ?_
    rintro _ _ ⟨rfl, x4, rfl, hx4⟩
    show J_ zX11_parted T (po_X11_parted T c d k) 0 0 22 _ [vI x4] T
    refine j_blx (F := fX11) tb_X11 (nn_ _) bk_X11_parted_22 bs_X11_parted_22 hz (fun K hK => ?_)
    refine And.intro (fun c5 => ?_) (fun c5 => ?_)
    · replace hx4 := hx4.resolve_right (fun z => c5 z.1)
      clear c5
      refine hK 28 _ [] T ?_
      refine j_blx (F := fX11) tb_X11 (nn_ _) bk_X11_parted_28 bs_X11_parted_28 hz (fun K hK => ?_)
      refine hK 31 _ [vI d, vI c, vR 111 0] T ?_
      refine j_callV (y := yX11_orderAll) (Yc := zX11_orderAll) (rest := []) [vI c, vI d] (ct_X11_orderAll (T := T) (by omega) (hri) (hml) (hsc) (hyb)) cl_X11_532 (qd_c (by decide +kernel)) (nn_ _) rfl (rf_of rfl) (Nat.le_of_ble_eq_true rfl) (Nat.le_of_ble_eq_true rfl) (Nat.le_of_ble_eq_true rfl) rfl ?_
      rintro U6 _ ⟨rfl, fU6, ⟨qU6a, qU6b⟩⟩
      show J_ zX11_parted T (po_X11_parted T c d k) 0 0 34 _ [] U6
      refine j_blx (F := fX11) tb_X11 (nn_ _) bk_X11_parted_34 bs_X11_parted_34 hz (fun K hK => ?_)
      intro b7 b7b
      refine rg_i (by omega) ?_
      refine hK 41 _ [vI ((U6 111 0 79) - 1), vI k] U6 ?_
      refine j_callS (y := yX11_isOf) (Yc := zX11_isOf) (rest := []) [vI k, vI ((U6 111 0 79) - 1)] (ct_X11_isOf (T := U6) (by omega)) cl_X11_317 (qd_c (by decide +kernel)) (nn_ _) rfl (rf_of rfl) (Nat.le_of_ble_eq_true rfl) (Nat.le_of_ble_eq_true rfl) (Nat.le_of_ble_eq_true rfl) rfl ?_
      rintro _ _ ⟨rfl, x8, rfl, hx8⟩
      show J_ zX11_parted T (po_X11_parted T c d k) 0 0 44 _ [vI x8] U6
      refine j_blx (F := fX11) tb_X11 (nn_ _) bk_X11_parted_44 bs_X11_parted_44 hz (fun K hK => ?_)
      refine And.intro (fun c9 => ?_) (fun c9 => ?_)
      · replace hx8 := hx8.resolve_left (fun z => absurd (c9.symm.trans z.1) (by decide))
        clear c9
        refine hK 56 _ [] U6 ?_
        refine j_blx (F := fX11) tb_X11 (nn_ _) bk_X11_parted_56 bs_X11_parted_56 hz (fun K hK => ?_)
        refine hK 57 _ [vI (-1)] U6 ?_
        refine c_57 (-1) U6 ?_
        · exact fr_t (fr_0 _ _) (fr_s fU6 rfl)
      · replace hx8 := hx8.resolve_right (fun z => c9 z.1)
        clear c9
        refine ix_i (by omega) ?_
        intro b10 b10b
        refine hK 57 _ [vI (U6 278 0 k)] U6 ?_
        refine c_57 (U6 278 0 k) U6 ?_
        · exact fr_t (fr_0 _ _) (fr_s fU6 rfl)
    · replace hx4 := hx4.resolve_left (fun z => absurd (c5.symm.trans z.1) (by decide))
      clear c5
      refine (show po_X11_parted T c d k T (some (vI (-3))) from ?_)
      exact ⟨_, rfl, fr_0 _ _, by trivial⟩
  · replace hx2 := hx2.resolve_left (fun z => absurd (c3.symm.trans z.1) (by decide))
    clear c3
    refine (show po_X11_parted T c d k T (some (vI (-2))) from ?_)
    exact ⟨_, rfl, fr_0 _ _, by trivial⟩
