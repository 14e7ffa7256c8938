abbrev cX11_layDefaults : ByteArray := prog_13_method_13_code
def yX11_layDefaults : MethodName := ⟨RX11, "layDefaults", "()V"⟩
theorem dX11_layDefaults_0 : decode cX11_layDefaults 0 = .ok (.iconst 0, 1) := by decide +kernel
theorem dX11_layDefaults_1 : decode cX11_layDefaults 1 = .ok (.istore_n 1, 1) := by decide +kernel
theorem dX11_layDefaults_2 : decode cX11_layDefaults 2 = .ok (.iload_n 1, 1) := by decide +kernel
theorem dX11_layDefaults_3 : decode cX11_layDefaults 3 = .ok (.bipush 23, 2) := by decide +kernel
theorem dX11_layDefaults_5 : decode cX11_layDefaults 5 = .ok (.if_icmp .ge 26, 3) := by decide +kernel
theorem dX11_layDefaults_8 : decode cX11_layDefaults 8 = .ok (.aload_n 0, 1) := by decide +kernel
theorem dX11_layDefaults_9 : decode cX11_layDefaults 9 = .ok (.getfield 17, 3) := by decide +kernel
theorem dX11_layDefaults_12 : decode cX11_layDefaults 12 = .ok (.iload_n 1, 1) := by decide +kernel
theorem dX11_layDefaults_13 : decode cX11_layDefaults 13 = .ok (.iload_n 1, 1) := by decide +kernel
theorem dX11_layDefaults_14 : decode cX11_layDefaults 14 = .ok (.bipush 15, 2) := by decide +kernel
theorem dX11_layDefaults_16 : decode cX11_layDefaults 16 = .ok (.if_icmp .le 7, 3) := by decide +kernel
theorem dX11_layDefaults_23 : decode cX11_layDefaults 23 = .ok (.iconst 0, 1) := by decide +kernel
theorem dX11_layDefaults_24 : decode cX11_layDefaults 24 = .ok (.iastore, 1) := by decide +kernel
theorem dX11_layDefaults_25 : decode cX11_layDefaults 25 = .ok (.iinc 1 1, 3) := by decide +kernel
theorem dX11_layDefaults_28 : decode cX11_layDefaults 28 = .ok (.goto (-26), 3) := by decide +kernel
theorem dX11_layDefaults_19 : decode cX11_layDefaults 19 = .ok (.iconst (-1), 1) := by decide +kernel
theorem dX11_layDefaults_20 : decode cX11_layDefaults 20 = .ok (.goto 4, 3) := by decide +kernel
theorem dX11_layDefaults_31 : decode cX11_layDefaults 31 = .ok (.aload_n 0, 1) := by decide +kernel
theorem dX11_layDefaults_32 : decode cX11_layDefaults 32 = .ok (.getfield 17, 3) := by decide +kernel
theorem dX11_layDefaults_35 : decode cX11_layDefaults 35 = .ok (.iconst 1, 1) := by decide +kernel
theorem dX11_layDefaults_36 : decode cX11_layDefaults 36 = .ok (.iconst 3, 1) := by decide +kernel
theorem dX11_layDefaults_37 : decode cX11_layDefaults 37 = .ok (.iastore, 1) := by decide +kernel
theorem dX11_layDefaults_38 : decode cX11_layDefaults 38 = .ok (.aload_n 0, 1) := by decide +kernel
theorem dX11_layDefaults_39 : decode cX11_layDefaults 39 = .ok (.getfield 17, 3) := by decide +kernel
theorem dX11_layDefaults_42 : decode cX11_layDefaults 42 = .ok (.iconst 2, 1) := by decide +kernel
theorem dX11_layDefaults_43 : decode cX11_layDefaults 43 = .ok (.iconst 1, 1) := by decide +kernel
theorem dX11_layDefaults_44 : decode cX11_layDefaults 44 = .ok (.iastore, 1) := by decide +kernel
theorem dX11_layDefaults_45 : decode cX11_layDefaults 45 = .ok (.aload_n 0, 1) := by decide +kernel
theorem dX11_layDefaults_46 : decode cX11_layDefaults 46 = .ok (.getfield 17, 3) := by decide +kernel
theorem dX11_layDefaults_49 : decode cX11_layDefaults 49 = .ok (.iconst 4, 1) := by decide +kernel
theorem dX11_layDefaults_50 : decode cX11_layDefaults 50 = .ok (.iconst 2, 1) := by decide +kernel
theorem dX11_layDefaults_51 : decode cX11_layDefaults 51 = .ok (.iastore, 1) := by decide +kernel
theorem dX11_layDefaults_52 : decode cX11_layDefaults 52 = .ok (.aload_n 0, 1) := by decide +kernel
theorem dX11_layDefaults_53 : decode cX11_layDefaults 53 = .ok (.getfield 17, 3) := by decide +kernel
theorem dX11_layDefaults_56 : decode cX11_layDefaults 56 = .ok (.bipush 6, 2) := by decide +kernel
theorem dX11_layDefaults_58 : decode cX11_layDefaults 58 = .ok (.iconst 1, 1) := by decide +kernel
theorem dX11_layDefaults_59 : decode cX11_layDefaults 59 = .ok (.iastore, 1) := by decide +kernel
theorem dX11_layDefaults_60 : decode cX11_layDefaults 60 = .ok (.aload_n 0, 1) := by decide +kernel
theorem dX11_layDefaults_61 : decode cX11_layDefaults 61 = .ok (.getfield 17, 3) := by decide +kernel
theorem dX11_layDefaults_64 : decode cX11_layDefaults 64 = .ok (.bipush 7, 2) := by decide +kernel
theorem dX11_layDefaults_66 : decode cX11_layDefaults 66 = .ok (.bipush 7, 2) := by decide +kernel
theorem dX11_layDefaults_68 : decode cX11_layDefaults 68 = .ok (.iastore, 1) := by decide +kernel
theorem dX11_layDefaults_69 : decode cX11_layDefaults 69 = .ok (.aload_n 0, 1) := by decide +kernel
theorem dX11_layDefaults_70 : decode cX11_layDefaults 70 = .ok (.getfield 17, 3) := by decide +kernel
theorem dX11_layDefaults_73 : decode cX11_layDefaults 73 = .ok (.bipush 8, 2) := by decide +kernel
theorem dX11_layDefaults_75 : decode cX11_layDefaults 75 = .ok (.iconst 1, 1) := by decide +kernel
theorem dX11_layDefaults_76 : decode cX11_layDefaults 76 = .ok (.iastore, 1) := by decide +kernel
theorem dX11_layDefaults_77 : decode cX11_layDefaults 77 = .ok (.aload_n 0, 1) := by decide +kernel
theorem dX11_layDefaults_78 : decode cX11_layDefaults 78 = .ok (.getfield 17, 3) := by decide +kernel
theorem dX11_layDefaults_81 : decode cX11_layDefaults 81 = .ok (.bipush 9, 2) := by decide +kernel
theorem dX11_layDefaults_83 : decode cX11_layDefaults 83 = .ok (.iconst 2, 1) := by decide +kernel
theorem dX11_layDefaults_84 : decode cX11_layDefaults 84 = .ok (.iastore, 1) := by decide +kernel
theorem dX11_layDefaults_85 : decode cX11_layDefaults 85 = .ok (.aload_n 0, 1) := by decide +kernel
theorem dX11_layDefaults_86 : decode cX11_layDefaults 86 = .ok (.getfield 17, 3) := by decide +kernel
theorem dX11_layDefaults_89 : decode cX11_layDefaults 89 = .ok (.bipush 10, 2) := by decide +kernel
theorem dX11_layDefaults_91 : decode cX11_layDefaults 91 = .ok (.iconst 2, 1) := by decide +kernel
theorem dX11_layDefaults_92 : decode cX11_layDefaults 92 = .ok (.iastore, 1) := by decide +kernel
theorem dX11_layDefaults_93 : decode cX11_layDefaults 93 = .ok (.aload_n 0, 1) := by decide +kernel
theorem dX11_layDefaults_94 : decode cX11_layDefaults 94 = .ok (.getfield 17, 3) := by decide +kernel
theorem dX11_layDefaults_97 : decode cX11_layDefaults 97 = .ok (.bipush 11, 2) := by decide +kernel
theorem dX11_layDefaults_99 : decode cX11_layDefaults 99 = .ok (.iconst 3, 1) := by decide +kernel
theorem dX11_layDefaults_100 : decode cX11_layDefaults 100 = .ok (.iastore, 1) := by decide +kernel
theorem dX11_layDefaults_101 : decode cX11_layDefaults 101 = .ok (.aload_n 0, 1) := by decide +kernel
theorem dX11_layDefaults_102 : decode cX11_layDefaults 102 = .ok (.getfield 17, 3) := by decide +kernel
theorem dX11_layDefaults_105 : decode cX11_layDefaults 105 = .ok (.bipush 12, 2) := by decide +kernel
theorem dX11_layDefaults_107 : decode cX11_layDefaults 107 = .ok (.iconst 3, 1) := by decide +kernel
theorem dX11_layDefaults_108 : decode cX11_layDefaults 108 = .ok (.iastore, 1) := by decide +kernel
theorem dX11_layDefaults_109 : decode cX11_layDefaults 109 = .ok (.aload_n 0, 1) := by decide +kernel
theorem dX11_layDefaults_110 : decode cX11_layDefaults 110 = .ok (.getfield 17, 3) := by decide +kernel
theorem dX11_layDefaults_113 : decode cX11_layDefaults 113 = .ok (.bipush 13, 2) := by decide +kernel
theorem dX11_layDefaults_115 : decode cX11_layDefaults 115 = .ok (.iconst 3, 1) := by decide +kernel
theorem dX11_layDefaults_116 : decode cX11_layDefaults 116 = .ok (.iastore, 1) := by decide +kernel
theorem dX11_layDefaults_117 : decode cX11_layDefaults 117 = .ok (.aload_n 0, 1) := by decide +kernel
theorem dX11_layDefaults_118 : decode cX11_layDefaults 118 = .ok (.getfield 17, 3) := by decide +kernel
theorem dX11_layDefaults_121 : decode cX11_layDefaults 121 = .ok (.bipush 14, 2) := by decide +kernel
theorem dX11_layDefaults_123 : decode cX11_layDefaults 123 = .ok (.iconst 1, 1) := by decide +kernel
theorem dX11_layDefaults_124 : decode cX11_layDefaults 124 = .ok (.iastore, 1) := by decide +kernel
theorem dX11_layDefaults_125 : decode cX11_layDefaults 125 = .ok (.aload_n 0, 1) := by decide +kernel
theorem dX11_layDefaults_126 : decode cX11_layDefaults 126 = .ok (.getfield 17, 3) := by decide +kernel
theorem dX11_layDefaults_129 : decode cX11_layDefaults 129 = .ok (.bipush 16, 2) := by decide +kernel
theorem dX11_layDefaults_131 : decode cX11_layDefaults 131 = .ok (.iconst 0, 1) := by decide +kernel
theorem dX11_layDefaults_132 : decode cX11_layDefaults 132 = .ok (.iastore, 1) := by decide +kernel
theorem dX11_layDefaults_133 : decode cX11_layDefaults 133 = .ok (.aload_n 0, 1) := by decide +kernel
theorem dX11_layDefaults_134 : decode cX11_layDefaults 134 = .ok (.getfield 17, 3) := by decide +kernel
theorem dX11_layDefaults_137 : decode cX11_layDefaults 137 = .ok (.bipush 17, 2) := by decide +kernel
theorem dX11_layDefaults_139 : decode cX11_layDefaults 139 = .ok (.iconst 1, 1) := by decide +kernel
theorem dX11_layDefaults_140 : decode cX11_layDefaults 140 = .ok (.iastore, 1) := by decide +kernel
theorem dX11_layDefaults_141 : decode cX11_layDefaults 141 = .ok (.iconst 0, 1) := by decide +kernel
theorem dX11_layDefaults_142 : decode cX11_layDefaults 142 = .ok (.istore_n 1, 1) := by decide +kernel
theorem dX11_layDefaults_143 : decode cX11_layDefaults 143 = .ok (.iload_n 1, 1) := by decide +kernel
theorem dX11_layDefaults_144 : decode cX11_layDefaults 144 = .ok (.bipush 14, 2) := by decide +kernel
theorem dX11_layDefaults_146 : decode cX11_layDefaults 146 = .ok (.if_icmp .ge 16, 3) := by decide +kernel
theorem dX11_layDefaults_149 : decode cX11_layDefaults 149 = .ok (.aload_n 0, 1) := by decide +kernel
theorem dX11_layDefaults_150 : decode cX11_layDefaults 150 = .ok (.getfield 168, 3) := by decide +kernel
theorem dX11_layDefaults_153 : decode cX11_layDefaults 153 = .ok (.iload_n 1, 1) := by decide +kernel
theorem dX11_layDefaults_154 : decode cX11_layDefaults 154 = .ok (.iconst 0, 1) := by decide +kernel
theorem dX11_layDefaults_155 : decode cX11_layDefaults 155 = .ok (.bastore, 1) := by decide +kernel
theorem dX11_layDefaults_156 : decode cX11_layDefaults 156 = .ok (.iinc 1 1, 3) := by decide +kernel
theorem dX11_layDefaults_159 : decode cX11_layDefaults 159 = .ok (.goto (-16), 3) := by decide +kernel
theorem dX11_layDefaults_162 : decode cX11_layDefaults 162 = .ok (.return_, 1) := by decide +kernel
set_option maxHeartbeats 4000000 in
set_option maxRecDepth 100000 in
theorem ct_X11_layDefaults (l : Launch) (dC : Nat → ClassId) (dI : Nat → Nat → Nat) (m0 : Nat) (mb : Nat) (md : Nat) (fm : List Value) (kmb : ClassId) (gmb : Nat → Int32) (kmd : ClassId) (gmd : Nat → Int32) (hfm_4 : fm[4]? = some (.ref mb)) (hfm_69 : fm[69]? = some (.ref md)) (sz : Nat)  : Met l yX11_layDefaults (.code yX11_layDefaults cX11_layDefaults 2 none :: lw_g) ({ frames := 1, cells := 0, slots := 0, locals := 60 }) (ro_P dC dI [(m0, .inr (11, fm)), (mb, .inl (kmb, 23, .inl gmb)), (md, .inl (kmd, 14, .inl gmd))] [(kmb, .int), (kmd, .boolean)] sz [.ref m0]) (va_Qv (fun (_ : Unit) => True) (fun _ t => ∃ (g84 : Nat → Int32) (g112 : Nat → Int32), va_P (dC, dI) vwCl [(m0, .inr (11, fm)), (mb, .inl (kmb, 23, .inl g84)), (md, .inl (kmd, 14, .inl g112))] t.heap ∧ va_K (dC, dI) vwCl [(kmb, .int), (kmd, .boolean)] t ∧ va_D (va_A [(m0, .inr (11, fm)), (mb, .inl (kmb, 23, .inl gmb)), (md, .inl (kmd, 14, .inl gmd))] sz) [(m0, .inr (11, fm)), (mb, .inl (kmb, 23, .inl g84)), (md, .inl (kmd, 14, .inl g112))]) (va_A [(m0, .inr (11, fm)), (mb, .inl (kmb, 23, .inl gmb)), (md, .inl (kmd, 14, .inl gmd))] sz)) 0 0 (va_A [(m0, .inr (11, fm)), (mb, .inl (kmb, 23, .inl gmb)), (md, .inl (kmd, 14, .inl gmd))] sz) := by
  refine ro_entry (by decide) (Nat.le_of_ble_eq_true rfl) ?_
  intro p e s m below meth c ls hx hb hr hlocks ht hown hin hml hsz hP hK hD hE hl
  subst hsz
  have hD := hD.self (sz := s.heap.size)
  generalize hAe : va_A [(m0, .inr (11, fm)), (mb, .inl (kmb, 23, .inl gmb)), (md, .inl (kmd, 14, .inl gmd))] s.heap.size = A at hD ⊢
  have hA : ∀ q, s.heap.size ≤ q → A q := fun q h => by rw [← hAe]; exact Or.inr h
  have hS : va_S A s.heap s.heap [] := va_S.rf
  have hl : lv_has ls 2 [(0, .ref m0)] := hl
  have hown : s.vm.findClass RX11 = some m.cls := hown
  refine lv_iconst (v := 0) hx hb dX11_layDefaults_0 (by decide) ?_
  refine lv_istore_n (lv' := [(1, .int 0), (0, .ref m0)]) hx hb dX11_layDefaults_1 rfl hl (by decide) rfl (fun ls hl => ?_)
  refine lv_iload_n hx hb dX11_layDefaults_2 rfl (lv_at hl 0 rfl) ?_
  refine lv_bipush (v := 23) hx hb dX11_layDefaults_3 (by decide) ?_
  refine lv_icmp_ge (tgt := 31) hx hb dX11_layDefaults_5 (by decide) (fun c1 => ?_) (fun c1 => ?_)
  · exact absurd c1 (by decide)
  refine lv_aload_n hx hb dX11_layDefaults_8 rfl (lv_at hl 1 rfl) ?_
  refine va_get (D := (dC, dI)) (ci := 11) (v := .ref mb) (C := RX11) (T := TX11) (N := 114) hx hb ht inX11 hown hK hP 0 rfl rfl 4 (by decide) (ht _ kw_1431) (fun _ h9 => h9) hfm_4 dX11_layDefaults_9 ?_
  refine lv_iload_n hx hb dX11_layDefaults_12 rfl (lv_at hl 0 rfl) ?_
  refine lv_iload_n hx hb dX11_layDefaults_13 rfl (lv_at hl 0 rfl) ?_
  refine lv_bipush (v := 15) hx hb dX11_layDefaults_14 (by decide) ?_
  refine lv_icmp_le (tgt := 23) hx hb dX11_layDefaults_16 (by decide) (fun c2 => ?_) (fun c2 => ?_)
  rotate_left
  · exact absurd (by decide) c2
  refine lv_iconst (v := 0) hx hb dX11_layDefaults_23 (by decide) ?_
  refine va_iast hx hb hK hP hD hS 1 0 rfl rfl (by unfold vp_in; decide) dX11_layDefaults_24 (fun H locs hP hD hS => ?_)
  generalize upd gmb (0 : Int32).toNatClampNeg 0 = g3 at hP hD
  have hP : va_P (dC, dI) vwCl [(m0, .inr (11, fm)), (mb, .inl (kmb, 23, .inl g3)), (md, .inl (kmd, 14, .inl gmd))] H := hP
  have hD : va_D A [(m0, .inr (11, fm)), (mb, .inl (kmb, 23, .inl g3)), (md, .inl (kmd, 14, .inl gmd))] := hD
  refine lv_iinc (v := 1) (lv' := [(1, .int 1), (0, .ref m0)]) hx hb dX11_layDefaults_25 hl (k := 0) rfl (by decide) (by decide) rfl (fun ls hl => ?_)
  refine lv_goto (tgt := 2) hx hb dX11_layDefaults_28 (by decide) ?_
  refine lv_iload_n hx hb dX11_layDefaults_2 rfl (lv_at hl 0 rfl) ?_
  refine lv_bipush (v := 23) hx hb dX11_layDefaults_3 (by decide) ?_
  refine lv_icmp_ge (tgt := 31) hx hb dX11_layDefaults_5 (by decide) (fun c4 => ?_) (fun c4 => ?_)
  · exact absurd c4 (by decide)
  refine lv_aload_n hx hb dX11_layDefaults_8 rfl (lv_at hl 1 rfl) ?_
  refine va_get (D := (dC, dI)) (ci := 11) (v := .ref mb) (C := RX11) (T := TX11) (N := 114) hx hb ht inX11 hown hK hP 0 rfl rfl 4 (by decide) (ht _ kw_1431) (fun _ h9 => h9) hfm_4 dX11_layDefaults_9 ?_
  refine lv_iload_n hx hb dX11_layDefaults_12 rfl (lv_at hl 0 rfl) ?_
  refine lv_iload_n hx hb dX11_layDefaults_13 rfl (lv_at hl 0 rfl) ?_
  refine lv_bipush (v := 15) hx hb dX11_layDefaults_14 (by decide) ?_
  refine lv_icmp_le (tgt := 23) hx hb dX11_layDefaults_16 (by decide) (fun c5 => ?_) (fun c5 => ?_)
  rotate_left
  · exact absurd (by decide) c5
  refine lv_iconst (v := 0) hx hb dX11_layDefaults_23 (by decide) ?_
  refine va_iast hx hb hK hP hD hS 1 0 rfl rfl (by unfold vp_in; decide) dX11_layDefaults_24 (fun H locs hP hD hS => ?_)
  generalize upd g3 (1 : Int32).toNatClampNeg 0 = g6 at hP hD
  have hP : va_P (dC, dI) vwCl [(m0, .inr (11, fm)), (mb, .inl (kmb, 23, .inl g6)), (md, .inl (kmd, 14, .inl gmd))] H := hP
  have hD : va_D A [(m0, .inr (11, fm)), (mb, .inl (kmb, 23, .inl g6)), (md, .inl (kmd, 14, .inl gmd))] := hD
  refine lv_iinc (v := 2) (lv' := [(1, .int 2), (0, .ref m0)]) hx hb dX11_layDefaults_25 hl (k := 0) rfl (by decide) (by decide) rfl (fun ls hl => ?_)
  refine lv_goto (tgt := 2) hx hb dX11_layDefaults_28 (by decide) ?_
  refine lv_iload_n hx hb dX11_layDefaults_2 rfl (lv_at hl 0 rfl) ?_
  refine lv_bipush (v := 23) hx hb dX11_layDefaults_3 (by decide) ?_
  refine lv_icmp_ge (tgt := 31) hx hb dX11_layDefaults_5 (by decide) (fun c7 => ?_) (fun c7 => ?_)
  · exact absurd c7 (by decide)
  refine lv_aload_n hx hb dX11_layDefaults_8 rfl (lv_at hl 1 rfl) ?_
  refine va_get (D := (dC, dI)) (ci := 11) (v := .ref mb) (C := RX11) (T := TX11) (N := 114) hx hb ht inX11 hown hK hP 0 rfl rfl 4 (by decide) (ht _ kw_1431) (fun _ h9 => h9) hfm_4 dX11_layDefaults_9 ?_
  refine lv_iload_n hx hb dX11_layDefaults_12 rfl (lv_at hl 0 rfl) ?_
  refine lv_iload_n hx hb dX11_layDefaults_13 rfl (lv_at hl 0 rfl) ?_
  refine lv_bipush (v := 15) hx hb dX11_layDefaults_14 (by decide) ?_
  refine lv_icmp_le (tgt := 23) hx hb dX11_layDefaults_16 (by decide) (fun c8 => ?_) (fun c8 => ?_)
  rotate_left
  · exact absurd (by decide) c8
  refine lv_iconst (v := 0) hx hb dX11_layDefaults_23 (by decide) ?_
  refine va_iast hx hb hK hP hD hS 1 0 rfl rfl (by unfold vp_in; decide) dX11_layDefaults_24 (fun H locs hP hD hS => ?_)
  generalize upd g6 (2 : Int32).toNatClampNeg 0 = g9 at hP hD
  have hP : va_P (dC, dI) vwCl [(m0, .inr (11, fm)), (mb, .inl (kmb, 23, .inl g9)), (md, .inl (kmd, 14, .inl gmd))] H := hP
  have hD : va_D A [(m0, .inr (11, fm)), (mb, .inl (kmb, 23, .inl g9)), (md, .inl (kmd, 14, .inl gmd))] := hD
  refine lv_iinc (v := 3) (lv' := [(1, .int 3), (0, .ref m0)]) hx hb dX11_layDefaults_25 hl (k := 0) rfl (by decide) (by decide) rfl (fun ls hl => ?_)
  refine lv_goto (tgt := 2) hx hb dX11_layDefaults_28 (by decide) ?_
  refine lv_iload_n hx hb dX11_layDefaults_2 rfl (lv_at hl 0 rfl) ?_
  refine lv_bipush (v := 23) hx hb dX11_layDefaults_3 (by decide) ?_
  refine lv_icmp_ge (tgt := 31) hx hb dX11_layDefaults_5 (by decide) (fun c10 => ?_) (fun c10 => ?_)
  · exact absurd c10 (by decide)
  refine lv_aload_n hx hb dX11_layDefaults_8 rfl (lv_at hl 1 rfl) ?_
  refine va_get (D := (dC, dI)) (ci := 11) (v := .ref mb) (C := RX11) (T := TX11) (N := 114) hx hb ht inX11 hown hK hP 0 rfl rfl 4 (by decide) (ht _ kw_1431) (fun _ h9 => h9) hfm_4 dX11_layDefaults_9 ?_
  refine lv_iload_n hx hb dX11_layDefaults_12 rfl (lv_at hl 0 rfl) ?_
  refine lv_iload_n hx hb dX11_layDefaults_13 rfl (lv_at hl 0 rfl) ?_
  refine lv_bipush (v := 15) hx hb dX11_layDefaults_14 (by decide) ?_
  refine lv_icmp_le (tgt := 23) hx hb dX11_layDefaults_16 (by decide) (fun c11 => ?_) (fun c11 => ?_)
  rotate_left
  · exact absurd (by decide) c11
  refine lv_iconst (v := 0) hx hb dX11_layDefaults_23 (by decide) ?_
  refine va_iast hx hb hK hP hD hS 1 0 rfl rfl (by unfold vp_in; decide) dX11_layDefaults_24 (fun H locs hP hD hS => ?_)
  generalize upd g9 (3 : Int32).toNatClampNeg 0 = g12 at hP hD
  have hP : va_P (dC, dI) vwCl [(m0, .inr (11, fm)), (mb, .inl (kmb, 23, .inl g12)), (md, .inl (kmd, 14, .inl gmd))] H := hP
  have hD : va_D A [(m0, .inr (11, fm)), (mb, .inl (kmb, 23, .inl g12)), (md, .inl (kmd, 14, .inl gmd))] := hD
  refine lv_iinc (v := 4) (lv' := [(1, .int 4), (0, .ref m0)]) hx hb dX11_layDefaults_25 hl (k := 0) rfl (by decide) (by decide) rfl (fun ls hl => ?_)
  refine lv_goto (tgt := 2) hx hb dX11_layDefaults_28 (by decide) ?_
  refine lv_iload_n hx hb dX11_layDefaults_2 rfl (lv_at hl 0 rfl) ?_
  refine lv_bipush (v := 23) hx hb dX11_layDefaults_3 (by decide) ?_
  refine lv_icmp_ge (tgt := 31) hx hb dX11_layDefaults_5 (by decide) (fun c13 => ?_) (fun c13 => ?_)
  · exact absurd c13 (by decide)
  refine lv_aload_n hx hb dX11_layDefaults_8 rfl (lv_at hl 1 rfl) ?_
  refine va_get (D := (dC, dI)) (ci := 11) (v := .ref mb) (C := RX11) (T := TX11) (N := 114) hx hb ht inX11 hown hK hP 0 rfl rfl 4 (by decide) (ht _ kw_1431) (fun _ h9 => h9) hfm_4 dX11_layDefaults_9 ?_
  refine lv_iload_n hx hb dX11_layDefaults_12 rfl (lv_at hl 0 rfl) ?_
  refine lv_iload_n hx hb dX11_layDefaults_13 rfl (lv_at hl 0 rfl) ?_
  refine lv_bipush (v := 15) hx hb dX11_layDefaults_14 (by decide) ?_
  refine lv_icmp_le (tgt := 23) hx hb dX11_layDefaults_16 (by decide) (fun c14 => ?_) (fun c14 => ?_)
  rotate_left
  · exact absurd (by decide) c14
  refine lv_iconst (v := 0) hx hb dX11_layDefaults_23 (by decide) ?_
  refine va_iast hx hb hK hP hD hS 1 0 rfl rfl (by unfold vp_in; decide) dX11_layDefaults_24 (fun H locs hP hD hS => ?_)
  generalize upd g12 (4 : Int32).toNatClampNeg 0 = g15 at hP hD
  have hP : va_P (dC, dI) vwCl [(m0, .inr (11, fm)), (mb, .inl (kmb, 23, .inl g15)), (md, .inl (kmd, 14, .inl gmd))] H := hP
  have hD : va_D A [(m0, .inr (11, fm)), (mb, .inl (kmb, 23, .inl g15)), (md, .inl (kmd, 14, .inl gmd))] := hD
  refine lv_iinc (v := 5) (lv' := [(1, .int 5), (0, .ref m0)]) hx hb dX11_layDefaults_25 hl (k := 0) rfl (by decide) (by decide) rfl (fun ls hl => ?_)
  refine lv_goto (tgt := 2) hx hb dX11_layDefaults_28 (by decide) ?_
  refine lv_iload_n hx hb dX11_layDefaults_2 rfl (lv_at hl 0 rfl) ?_
  refine lv_bipush (v := 23) hx hb dX11_layDefaults_3 (by decide) ?_
  refine lv_icmp_ge (tgt := 31) hx hb dX11_layDefaults_5 (by decide) (fun c16 => ?_) (fun c16 => ?_)
  · exact absurd c16 (by decide)
  refine lv_aload_n hx hb dX11_layDefaults_8 rfl (lv_at hl 1 rfl) ?_
  refine va_get (D := (dC, dI)) (ci := 11) (v := .ref mb) (C := RX11) (T := TX11) (N := 114) hx hb ht inX11 hown hK hP 0 rfl rfl 4 (by decide) (ht _ kw_1431) (fun _ h9 => h9) hfm_4 dX11_layDefaults_9 ?_
  refine lv_iload_n hx hb dX11_layDefaults_12 rfl (lv_at hl 0 rfl) ?_
  refine lv_iload_n hx hb dX11_layDefaults_13 rfl (lv_at hl 0 rfl) ?_
  refine lv_bipush (v := 15) hx hb dX11_layDefaults_14 (by decide) ?_
  refine lv_icmp_le (tgt := 23) hx hb dX11_layDefaults_16 (by decide) (fun c17 => ?_) (fun c17 => ?_)
  rotate_left
  · exact absurd (by decide) c17
  refine lv_iconst (v := 0) hx hb dX11_layDefaults_23 (by decide) ?_
  refine va_iast hx hb hK hP hD hS 1 0 rfl rfl (by unfold vp_in; decide) dX11_layDefaults_24 (fun H locs hP hD hS => ?_)
  generalize upd g15 (5 : Int32).toNatClampNeg 0 = g18 at hP hD
  have hP : va_P (dC, dI) vwCl [(m0, .inr (11, fm)), (mb, .inl (kmb, 23, .inl g18)), (md, .inl (kmd, 14, .inl gmd))] H := hP
  have hD : va_D A [(m0, .inr (11, fm)), (mb, .inl (kmb, 23, .inl g18)), (md, .inl (kmd, 14, .inl gmd))] := hD
  refine lv_iinc (v := 6) (lv' := [(1, .int 6), (0, .ref m0)]) hx hb dX11_layDefaults_25 hl (k := 0) rfl (by decide) (by decide) rfl (fun ls hl => ?_)
  refine lv_goto (tgt := 2) hx hb dX11_layDefaults_28 (by decide) ?_
  refine lv_iload_n hx hb dX11_layDefaults_2 rfl (lv_at hl 0 rfl) ?_
  refine lv_bipush (v := 23) hx hb dX11_layDefaults_3 (by decide) ?_
  refine lv_icmp_ge (tgt := 31) hx hb dX11_layDefaults_5 (by decide) (fun c19 => ?_) (fun c19 => ?_)
  · exact absurd c19 (by decide)
  refine lv_aload_n hx hb dX11_layDefaults_8 rfl (lv_at hl 1 rfl) ?_
  refine va_get (D := (dC, dI)) (ci := 11) (v := .ref mb) (C := RX11) (T := TX11) (N := 114) hx hb ht inX11 hown hK hP 0 rfl rfl 4 (by decide) (ht _ kw_1431) (fun _ h9 => h9) hfm_4 dX11_layDefaults_9 ?_
  refine lv_iload_n hx hb dX11_layDefaults_12 rfl (lv_at hl 0 rfl) ?_
  refine lv_iload_n hx hb dX11_layDefaults_13 rfl (lv_at hl 0 rfl) ?_
  refine lv_bipush (v := 15) hx hb dX11_layDefaults_14 (by decide) ?_
  refine lv_icmp_le (tgt := 23) hx hb dX11_layDefaults_16 (by decide) (fun c20 => ?_) (fun c20 => ?_)
  rotate_left
  · exact absurd (by decide) c20
  refine lv_iconst (v := 0) hx hb dX11_layDefaults_23 (by decide) ?_
  refine va_iast hx hb hK hP hD hS 1 0 rfl rfl (by unfold vp_in; decide) dX11_layDefaults_24 (fun H locs hP hD hS => ?_)
  generalize upd g18 (6 : Int32).toNatClampNeg 0 = g21 at hP hD
  have hP : va_P (dC, dI) vwCl [(m0, .inr (11, fm)), (mb, .inl (kmb, 23, .inl g21)), (md, .inl (kmd, 14, .inl gmd))] H := hP
  have hD : va_D A [(m0, .inr (11, fm)), (mb, .inl (kmb, 23, .inl g21)), (md, .inl (kmd, 14, .inl gmd))] := hD
  refine lv_iinc (v := 7) (lv' := [(1, .int 7), (0, .ref m0)]) hx hb dX11_layDefaults_25 hl (k := 0) rfl (by decide) (by decide) rfl (fun ls hl => ?_)
  refine lv_goto (tgt := 2) hx hb dX11_layDefaults_28 (by decide) ?_
  refine lv_iload_n hx hb dX11_layDefaults_2 rfl (lv_at hl 0 rfl) ?_
  refine lv_bipush (v := 23) hx hb dX11_layDefaults_3 (by decide) ?_
  refine lv_icmp_ge (tgt := 31) hx hb dX11_layDefaults_5 (by decide) (fun c22 => ?_) (fun c22 => ?_)
  · exact absurd c22 (by decide)
  refine lv_aload_n hx hb dX11_layDefaults_8 rfl (lv_at hl 1 rfl) ?_
  refine va_get (D := (dC, dI)) (ci := 11) (v := .ref mb) (C := RX11) (T := TX11) (N := 114) hx hb ht inX11 hown hK hP 0 rfl rfl 4 (by decide) (ht _ kw_1431) (fun _ h9 => h9) hfm_4 dX11_layDefaults_9 ?_
  refine lv_iload_n hx hb dX11_layDefaults_12 rfl (lv_at hl 0 rfl) ?_
  refine lv_iload_n hx hb dX11_layDefaults_13 rfl (lv_at hl 0 rfl) ?_
  refine lv_bipush (v := 15) hx hb dX11_layDefaults_14 (by decide) ?_
  refine lv_icmp_le (tgt := 23) hx hb dX11_layDefaults_16 (by decide) (fun c23 => ?_) (fun c23 => ?_)
  rotate_left
  · exact absurd (by decide) c23
  refine lv_iconst (v := 0) hx hb dX11_layDefaults_23 (by decide) ?_
  refine va_iast hx hb hK hP hD hS 1 0 rfl rfl (by unfold vp_in; decide) dX11_layDefaults_24 (fun H locs hP hD hS => ?_)
  generalize upd g21 (7 : Int32).toNatClampNeg 0 = g24 at hP hD
  have hP : va_P (dC, dI) vwCl [(m0, .inr (11, fm)), (mb, .inl (kmb, 23, .inl g24)), (md, .inl (kmd, 14, .inl gmd))] H := hP
  have hD : va_D A [(m0, .inr (11, fm)), (mb, .inl (kmb, 23, .inl g24)), (md, .inl (kmd, 14, .inl gmd))] := hD
  refine lv_iinc (v := 8) (lv' := [(1, .int 8), (0, .ref m0)]) hx hb dX11_layDefaults_25 hl (k := 0) rfl (by decide) (by decide) rfl (fun ls hl => ?_)
  refine lv_goto (tgt := 2) hx hb dX11_layDefaults_28 (by decide) ?_
  refine lv_iload_n hx hb dX11_layDefaults_2 rfl (lv_at hl 0 rfl) ?_
  refine lv_bipush (v := 23) hx hb dX11_layDefaults_3 (by decide) ?_
  refine lv_icmp_ge (tgt := 31) hx hb dX11_layDefaults_5 (by decide) (fun c25 => ?_) (fun c25 => ?_)
  · exact absurd c25 (by decide)
  refine lv_aload_n hx hb dX11_layDefaults_8 rfl (lv_at hl 1 rfl) ?_
  refine va_get (D := (dC, dI)) (ci := 11) (v := .ref mb) (C := RX11) (T := TX11) (N := 114) hx hb ht inX11 hown hK hP 0 rfl rfl 4 (by decide) (ht _ kw_1431) (fun _ h9 => h9) hfm_4 dX11_layDefaults_9 ?_
  refine lv_iload_n hx hb dX11_layDefaults_12 rfl (lv_at hl 0 rfl) ?_
  refine lv_iload_n hx hb dX11_layDefaults_13 rfl (lv_at hl 0 rfl) ?_
  refine lv_bipush (v := 15) hx hb dX11_layDefaults_14 (by decide) ?_
  refine lv_icmp_le (tgt := 23) hx hb dX11_layDefaults_16 (by decide) (fun c26 => ?_) (fun c26 => ?_)
  rotate_left
  · exact absurd (by decide) c26
  refine lv_iconst (v := 0) hx hb dX11_layDefaults_23 (by decide) ?_
  refine va_iast hx hb hK hP hD hS 1 0 rfl rfl (by unfold vp_in; decide) dX11_layDefaults_24 (fun H locs hP hD hS => ?_)
  generalize upd g24 (8 : Int32).toNatClampNeg 0 = g27 at hP hD
  have hP : va_P (dC, dI) vwCl [(m0, .inr (11, fm)), (mb, .inl (kmb, 23, .inl g27)), (md, .inl (kmd, 14, .inl gmd))] H := hP
  have hD : va_D A [(m0, .inr (11, fm)), (mb, .inl (kmb, 23, .inl g27)), (md, .inl (kmd, 14, .inl gmd))] := hD
  refine lv_iinc (v := 9) (lv' := [(1, .int 9), (0, .ref m0)]) hx hb dX11_layDefaults_25 hl (k := 0) rfl (by decide) (by decide) rfl (fun ls hl => ?_)
  refine lv_goto (tgt := 2) hx hb dX11_layDefaults_28 (by decide) ?_
  refine lv_iload_n hx hb dX11_layDefaults_2 rfl (lv_at hl 0 rfl) ?_
  refine lv_bipush (v := 23) hx hb dX11_layDefaults_3 (by decide) ?_
  refine lv_icmp_ge (tgt := 31) hx hb dX11_layDefaults_5 (by decide) (fun c28 => ?_) (fun c28 => ?_)
  · exact absurd c28 (by decide)
  refine lv_aload_n hx hb dX11_layDefaults_8 rfl (lv_at hl 1 rfl) ?_
  refine va_get (D := (dC, dI)) (ci := 11) (v := .ref mb) (C := RX11) (T := TX11) (N := 114) hx hb ht inX11 hown hK hP 0 rfl rfl 4 (by decide) (ht _ kw_1431) (fun _ h9 => h9) hfm_4 dX11_layDefaults_9 ?_
  refine lv_iload_n hx hb dX11_layDefaults_12 rfl (lv_at hl 0 rfl) ?_
  refine lv_iload_n hx hb dX11_layDefaults_13 rfl (lv_at hl 0 rfl) ?_
  refine lv_bipush (v := 15) hx hb dX11_layDefaults_14 (by decide) ?_
  refine lv_icmp_le (tgt := 23) hx hb dX11_layDefaults_16 (by decide) (fun c29 => ?_) (fun c29 => ?_)
  rotate_left
  · exact absurd (by decide) c29
  refine lv_iconst (v := 0) hx hb dX11_layDefaults_23 (by decide) ?_
  refine va_iast hx hb hK hP hD hS 1 0 rfl rfl (by unfold vp_in; decide) dX11_layDefaults_24 (fun H locs hP hD hS => ?_)
  generalize upd g27 (9 : Int32).toNatClampNeg 0 = g30 at hP hD
  have hP : va_P (dC, dI) vwCl [(m0, .inr (11, fm)), (mb, .inl (kmb, 23, .inl g30)), (md, .inl (kmd, 14, .inl gmd))] H := hP
  have hD : va_D A [(m0, .inr (11, fm)), (mb, .inl (kmb, 23, .inl g30)), (md, .inl (kmd, 14, .inl gmd))] := hD
  refine lv_iinc (v := 10) (lv' := [(1, .int 10), (0, .ref m0)]) hx hb dX11_layDefaults_25 hl (k := 0) rfl (by decide) (by decide) rfl (fun ls hl => ?_)
  refine lv_goto (tgt := 2) hx hb dX11_layDefaults_28 (by decide) ?_
  refine lv_iload_n hx hb dX11_layDefaults_2 rfl (lv_at hl 0 rfl) ?_
  refine lv_bipush (v := 23) hx hb dX11_layDefaults_3 (by decide) ?_
  refine lv_icmp_ge (tgt := 31) hx hb dX11_layDefaults_5 (by decide) (fun c31 => ?_) (fun c31 => ?_)
  · exact absurd c31 (by decide)
  refine lv_aload_n hx hb dX11_layDefaults_8 rfl (lv_at hl 1 rfl) ?_
  refine va_get (D := (dC, dI)) (ci := 11) (v := .ref mb) (C := RX11) (T := TX11) (N := 114) hx hb ht inX11 hown hK hP 0 rfl rfl 4 (by decide) (ht _ kw_1431) (fun _ h9 => h9) hfm_4 dX11_layDefaults_9 ?_
  refine lv_iload_n hx hb dX11_layDefaults_12 rfl (lv_at hl 0 rfl) ?_
  refine lv_iload_n hx hb dX11_layDefaults_13 rfl (lv_at hl 0 rfl) ?_
  refine lv_bipush (v := 15) hx hb dX11_layDefaults_14 (by decide) ?_
  refine lv_icmp_le (tgt := 23) hx hb dX11_layDefaults_16 (by decide) (fun c32 => ?_) (fun c32 => ?_)
  rotate_left
  · exact absurd (by decide) c32
  refine lv_iconst (v := 0) hx hb dX11_layDefaults_23 (by decide) ?_
  refine va_iast hx hb hK hP hD hS 1 0 rfl rfl (by unfold vp_in; decide) dX11_layDefaults_24 (fun H locs hP hD hS => ?_)
  generalize upd g30 (10 : Int32).toNatClampNeg 0 = g33 at hP hD
  have hP : va_P (dC, dI) vwCl [(m0, .inr (11, fm)), (mb, .inl (kmb, 23, .inl g33)), (md, .inl (kmd, 14, .inl gmd))] H := hP
  have hD : va_D A [(m0, .inr (11, fm)), (mb, .inl (kmb, 23, .inl g33)), (md, .inl (kmd, 14, .inl gmd))] := hD
  refine lv_iinc (v := 11) (lv' := [(1, .int 11), (0, .ref m0)]) hx hb dX11_layDefaults_25 hl (k := 0) rfl (by decide) (by decide) rfl (fun ls hl => ?_)
  refine lv_goto (tgt := 2) hx hb dX11_layDefaults_28 (by decide) ?_
  refine lv_iload_n hx hb dX11_layDefaults_2 rfl (lv_at hl 0 rfl) ?_
  refine lv_bipush (v := 23) hx hb dX11_layDefaults_3 (by decide) ?_
  refine lv_icmp_ge (tgt := 31) hx hb dX11_layDefaults_5 (by decide) (fun c34 => ?_) (fun c34 => ?_)
  · exact absurd c34 (by decide)
  refine lv_aload_n hx hb dX11_layDefaults_8 rfl (lv_at hl 1 rfl) ?_
  refine va_get (D := (dC, dI)) (ci := 11) (v := .ref mb) (C := RX11) (T := TX11) (N := 114) hx hb ht inX11 hown hK hP 0 rfl rfl 4 (by decide) (ht _ kw_1431) (fun _ h9 => h9) hfm_4 dX11_layDefaults_9 ?_
  refine lv_iload_n hx hb dX11_layDefaults_12 rfl (lv_at hl 0 rfl) ?_
  refine lv_iload_n hx hb dX11_layDefaults_13 rfl (lv_at hl 0 rfl) ?_
  refine lv_bipush (v := 15) hx hb dX11_layDefaults_14 (by decide) ?_
  refine lv_icmp_le (tgt := 23) hx hb dX11_layDefaults_16 (by decide) (fun c35 => ?_) (fun c35 => ?_)
  rotate_left
  · exact absurd (by decide) c35
  refine lv_iconst (v := 0) hx hb dX11_layDefaults_23 (by decide) ?_
  refine va_iast hx hb hK hP hD hS 1 0 rfl rfl (by unfold vp_in; decide) dX11_layDefaults_24 (fun H locs hP hD hS => ?_)
  generalize upd g33 (11 : Int32).toNatClampNeg 0 = g36 at hP hD
  have hP : va_P (dC, dI) vwCl [(m0, .inr (11, fm)), (mb, .inl (kmb, 23, .inl g36)), (md, .inl (kmd, 14, .inl gmd))] H := hP
  have hD : va_D A [(m0, .inr (11, fm)), (mb, .inl (kmb, 23, .inl g36)), (md, .inl (kmd, 14, .inl gmd))] := hD
  refine lv_iinc (v := 12) (lv' := [(1, .int 12), (0, .ref m0)]) hx hb dX11_layDefaults_25 hl (k := 0) rfl (by decide) (by decide) rfl (fun ls hl => ?_)
  refine lv_goto (tgt := 2) hx hb dX11_layDefaults_28 (by decide) ?_
  refine lv_iload_n hx hb dX11_layDefaults_2 rfl (lv_at hl 0 rfl) ?_
  refine lv_bipush (v := 23) hx hb dX11_layDefaults_3 (by decide) ?_
  refine lv_icmp_ge (tgt := 31) hx hb dX11_layDefaults_5 (by decide) (fun c37 => ?_) (fun c37 => ?_)
  · exact absurd c37 (by decide)
  refine lv_aload_n hx hb dX11_layDefaults_8 rfl (lv_at hl 1 rfl) ?_
  refine va_get (D := (dC, dI)) (ci := 11) (v := .ref mb) (C := RX11) (T := TX11) (N := 114) hx hb ht inX11 hown hK hP 0 rfl rfl 4 (by decide) (ht _ kw_1431) (fun _ h9 => h9) hfm_4 dX11_layDefaults_9 ?_
  refine lv_iload_n hx hb dX11_layDefaults_12 rfl (lv_at hl 0 rfl) ?_
  refine lv_iload_n hx hb dX11_layDefaults_13 rfl (lv_at hl 0 rfl) ?_
  refine lv_bipush (v := 15) hx hb dX11_layDefaults_14 (by decide) ?_
  refine lv_icmp_le (tgt := 23) hx hb dX11_layDefaults_16 (by decide) (fun c38 => ?_) (fun c38 => ?_)
  rotate_left
  · exact absurd (by decide) c38
  refine lv_iconst (v := 0) hx hb dX11_layDefaults_23 (by decide) ?_
  refine va_iast hx hb hK hP hD hS 1 0 rfl rfl (by unfold vp_in; decide) dX11_layDefaults_24 (fun H locs hP hD hS => ?_)
  generalize upd g36 (12 : Int32).toNatClampNeg 0 = g39 at hP hD
  have hP : va_P (dC, dI) vwCl [(m0, .inr (11, fm)), (mb, .inl (kmb, 23, .inl g39)), (md, .inl (kmd, 14, .inl gmd))] H := hP
  have hD : va_D A [(m0, .inr (11, fm)), (mb, .inl (kmb, 23, .inl g39)), (md, .inl (kmd, 14, .inl gmd))] := hD
  refine lv_iinc (v := 13) (lv' := [(1, .int 13), (0, .ref m0)]) hx hb dX11_layDefaults_25 hl (k := 0) rfl (by decide) (by decide) rfl (fun ls hl => ?_)
  refine lv_goto (tgt := 2) hx hb dX11_layDefaults_28 (by decide) ?_
  refine lv_iload_n hx hb dX11_layDefaults_2 rfl (lv_at hl 0 rfl) ?_
  refine lv_bipush (v := 23) hx hb dX11_layDefaults_3 (by decide) ?_
  refine lv_icmp_ge (tgt := 31) hx hb dX11_layDefaults_5 (by decide) (fun c40 => ?_) (fun c40 => ?_)
  · exact absurd c40 (by decide)
  refine lv_aload_n hx hb dX11_layDefaults_8 rfl (lv_at hl 1 rfl) ?_
  refine va_get (D := (dC, dI)) (ci := 11) (v := .ref mb) (C := RX11) (T := TX11) (N := 114) hx hb ht inX11 hown hK hP 0 rfl rfl 4 (by decide) (ht _ kw_1431) (fun _ h9 => h9) hfm_4 dX11_layDefaults_9 ?_
  refine lv_iload_n hx hb dX11_layDefaults_12 rfl (lv_at hl 0 rfl) ?_
  refine lv_iload_n hx hb dX11_layDefaults_13 rfl (lv_at hl 0 rfl) ?_
  refine lv_bipush (v := 15) hx hb dX11_layDefaults_14 (by decide) ?_
  refine lv_icmp_le (tgt := 23) hx hb dX11_layDefaults_16 (by decide) (fun c41 => ?_) (fun c41 => ?_)
  rotate_left
  · exact absurd (by decide) c41
  refine lv_iconst (v := 0) hx hb dX11_layDefaults_23 (by decide) ?_
  refine va_iast hx hb hK hP hD hS 1 0 rfl rfl (by unfold vp_in; decide) dX11_layDefaults_24 (fun H locs hP hD hS => ?_)
  generalize upd g39 (13 : Int32).toNatClampNeg 0 = g42 at hP hD
  have hP : va_P (dC, dI) vwCl [(m0, .inr (11, fm)), (mb, .inl (kmb, 23, .inl g42)), (md, .inl (kmd, 14, .inl gmd))] H := hP
  have hD : va_D A [(m0, .inr (11, fm)), (mb, .inl (kmb, 23, .inl g42)), (md, .inl (kmd, 14, .inl gmd))] := hD
  refine lv_iinc (v := 14) (lv' := [(1, .int 14), (0, .ref m0)]) hx hb dX11_layDefaults_25 hl (k := 0) rfl (by decide) (by decide) rfl (fun ls hl => ?_)
  refine lv_goto (tgt := 2) hx hb dX11_layDefaults_28 (by decide) ?_
  refine lv_iload_n hx hb dX11_layDefaults_2 rfl (lv_at hl 0 rfl) ?_
  refine lv_bipush (v := 23) hx hb dX11_layDefaults_3 (by decide) ?_
  refine lv_icmp_ge (tgt := 31) hx hb dX11_layDefaults_5 (by decide) (fun c43 => ?_) (fun c43 => ?_)
  · exact absurd c43 (by decide)
  refine lv_aload_n hx hb dX11_layDefaults_8 rfl (lv_at hl 1 rfl) ?_
  refine va_get (D := (dC, dI)) (ci := 11) (v := .ref mb) (C := RX11) (T := TX11) (N := 114) hx hb ht inX11 hown hK hP 0 rfl rfl 4 (by decide) (ht _ kw_1431) (fun _ h9 => h9) hfm_4 dX11_layDefaults_9 ?_
  refine lv_iload_n hx hb dX11_layDefaults_12 rfl (lv_at hl 0 rfl) ?_
  refine lv_iload_n hx hb dX11_layDefaults_13 rfl (lv_at hl 0 rfl) ?_
  refine lv_bipush (v := 15) hx hb dX11_layDefaults_14 (by decide) ?_
  refine lv_icmp_le (tgt := 23) hx hb dX11_layDefaults_16 (by decide) (fun c44 => ?_) (fun c44 => ?_)
  rotate_left
  · exact absurd (by decide) c44
  refine lv_iconst (v := 0) hx hb dX11_layDefaults_23 (by decide) ?_
  refine va_iast hx hb hK hP hD hS 1 0 rfl rfl (by unfold vp_in; decide) dX11_layDefaults_24 (fun H locs hP hD hS => ?_)
  generalize upd g42 (14 : Int32).toNatClampNeg 0 = g45 at hP hD
  have hP : va_P (dC, dI) vwCl [(m0, .inr (11, fm)), (mb, .inl (kmb, 23, .inl g45)), (md, .inl (kmd, 14, .inl gmd))] H := hP
  have hD : va_D A [(m0, .inr (11, fm)), (mb, .inl (kmb, 23, .inl g45)), (md, .inl (kmd, 14, .inl gmd))] := hD
  refine lv_iinc (v := 15) (lv' := [(1, .int 15), (0, .ref m0)]) hx hb dX11_layDefaults_25 hl (k := 0) rfl (by decide) (by decide) rfl (fun ls hl => ?_)
  refine lv_goto (tgt := 2) hx hb dX11_layDefaults_28 (by decide) ?_
  refine lv_iload_n hx hb dX11_layDefaults_2 rfl (lv_at hl 0 rfl) ?_
  refine lv_bipush (v := 23) hx hb dX11_layDefaults_3 (by decide) ?_
  refine lv_icmp_ge (tgt := 31) hx hb dX11_layDefaults_5 (by decide) (fun c46 => ?_) (fun c46 => ?_)
  · exact absurd c46 (by decide)
  refine lv_aload_n hx hb dX11_layDefaults_8 rfl (lv_at hl 1 rfl) ?_
  refine va_get (D := (dC, dI)) (ci := 11) (v := .ref mb) (C := RX11) (T := TX11) (N := 114) hx hb ht inX11 hown hK hP 0 rfl rfl 4 (by decide) (ht _ kw_1431) (fun _ h9 => h9) hfm_4 dX11_layDefaults_9 ?_
  refine lv_iload_n hx hb dX11_layDefaults_12 rfl (lv_at hl 0 rfl) ?_
  refine lv_iload_n hx hb dX11_layDefaults_13 rfl (lv_at hl 0 rfl) ?_
  refine lv_bipush (v := 15) hx hb dX11_layDefaults_14 (by decide) ?_
  refine lv_icmp_le (tgt := 23) hx hb dX11_layDefaults_16 (by decide) (fun c47 => ?_) (fun c47 => ?_)
  rotate_left
  · exact absurd (by decide) c47
  refine lv_iconst (v := 0) hx hb dX11_layDefaults_23 (by decide) ?_
  refine va_iast hx hb hK hP hD hS 1 0 rfl rfl (by unfold vp_in; decide) dX11_layDefaults_24 (fun H locs hP hD hS => ?_)
  generalize upd g45 (15 : Int32).toNatClampNeg 0 = g48 at hP hD
  have hP : va_P (dC, dI) vwCl [(m0, .inr (11, fm)), (mb, .inl (kmb, 23, .inl g48)), (md, .inl (kmd, 14, .inl gmd))] H := hP
  have hD : va_D A [(m0, .inr (11, fm)), (mb, .inl (kmb, 23, .inl g48)), (md, .inl (kmd, 14, .inl gmd))] := hD
  refine lv_iinc (v := 16) (lv' := [(1, .int 16), (0, .ref m0)]) hx hb dX11_layDefaults_25 hl (k := 0) rfl (by decide) (by decide) rfl (fun ls hl => ?_)
  refine lv_goto (tgt := 2) hx hb dX11_layDefaults_28 (by decide) ?_
  refine lv_iload_n hx hb dX11_layDefaults_2 rfl (lv_at hl 0 rfl) ?_
  refine lv_bipush (v := 23) hx hb dX11_layDefaults_3 (by decide) ?_
  refine lv_icmp_ge (tgt := 31) hx hb dX11_layDefaults_5 (by decide) (fun c49 => ?_) (fun c49 => ?_)
  · exact absurd c49 (by decide)
  refine lv_aload_n hx hb dX11_layDefaults_8 rfl (lv_at hl 1 rfl) ?_
  refine va_get (D := (dC, dI)) (ci := 11) (v := .ref mb) (C := RX11) (T := TX11) (N := 114) hx hb ht inX11 hown hK hP 0 rfl rfl 4 (by decide) (ht _ kw_1431) (fun _ h9 => h9) hfm_4 dX11_layDefaults_9 ?_
  refine lv_iload_n hx hb dX11_layDefaults_12 rfl (lv_at hl 0 rfl) ?_
  refine lv_iload_n hx hb dX11_layDefaults_13 rfl (lv_at hl 0 rfl) ?_
  refine lv_bipush (v := 15) hx hb dX11_layDefaults_14 (by decide) ?_
  refine lv_icmp_le (tgt := 23) hx hb dX11_layDefaults_16 (by decide) (fun c50 => ?_) (fun c50 => ?_)
  · exact absurd c50 (by decide)
  refine lv_iconst (v := (-1)) hx hb dX11_layDefaults_19 (by decide) ?_
  refine lv_goto (tgt := 24) hx hb dX11_layDefaults_20 (by decide) ?_
  refine va_iast hx hb hK hP hD hS 1 0 rfl rfl (by unfold vp_in; decide) dX11_layDefaults_24 (fun H locs hP hD hS => ?_)
  generalize upd g48 (16 : Int32).toNatClampNeg (-1) = g51 at hP hD
  have hP : va_P (dC, dI) vwCl [(m0, .inr (11, fm)), (mb, .inl (kmb, 23, .inl g51)), (md, .inl (kmd, 14, .inl gmd))] H := hP
  have hD : va_D A [(m0, .inr (11, fm)), (mb, .inl (kmb, 23, .inl g51)), (md, .inl (kmd, 14, .inl gmd))] := hD
  refine lv_iinc (v := 17) (lv' := [(1, .int 17), (0, .ref m0)]) hx hb dX11_layDefaults_25 hl (k := 0) rfl (by decide) (by decide) rfl (fun ls hl => ?_)
  refine lv_goto (tgt := 2) hx hb dX11_layDefaults_28 (by decide) ?_
  refine lv_iload_n hx hb dX11_layDefaults_2 rfl (lv_at hl 0 rfl) ?_
  refine lv_bipush (v := 23) hx hb dX11_layDefaults_3 (by decide) ?_
  refine lv_icmp_ge (tgt := 31) hx hb dX11_layDefaults_5 (by decide) (fun c52 => ?_) (fun c52 => ?_)
  · exact absurd c52 (by decide)
  refine lv_aload_n hx hb dX11_layDefaults_8 rfl (lv_at hl 1 rfl) ?_
  refine va_get (D := (dC, dI)) (ci := 11) (v := .ref mb) (C := RX11) (T := TX11) (N := 114) hx hb ht inX11 hown hK hP 0 rfl rfl 4 (by decide) (ht _ kw_1431) (fun _ h9 => h9) hfm_4 dX11_layDefaults_9 ?_
  refine lv_iload_n hx hb dX11_layDefaults_12 rfl (lv_at hl 0 rfl) ?_
  refine lv_iload_n hx hb dX11_layDefaults_13 rfl (lv_at hl 0 rfl) ?_
  refine lv_bipush (v := 15) hx hb dX11_layDefaults_14 (by decide) ?_
  refine lv_icmp_le (tgt := 23) hx hb dX11_layDefaults_16 (by decide) (fun c53 => ?_) (fun c53 => ?_)
  · exact absurd c53 (by decide)
  refine lv_iconst (v := (-1)) hx hb dX11_layDefaults_19 (by decide) ?_
  refine lv_goto (tgt := 24) hx hb dX11_layDefaults_20 (by decide) ?_
  refine va_iast hx hb hK hP hD hS 1 0 rfl rfl (by unfold vp_in; decide) dX11_layDefaults_24 (fun H locs hP hD hS => ?_)
  generalize upd g51 (17 : Int32).toNatClampNeg (-1) = g54 at hP hD
  have hP : va_P (dC, dI) vwCl [(m0, .inr (11, fm)), (mb, .inl (kmb, 23, .inl g54)), (md, .inl (kmd, 14, .inl gmd))] H := hP
  have hD : va_D A [(m0, .inr (11, fm)), (mb, .inl (kmb, 23, .inl g54)), (md, .inl (kmd, 14, .inl gmd))] := hD
  refine lv_iinc (v := 18) (lv' := [(1, .int 18), (0, .ref m0)]) hx hb dX11_layDefaults_25 hl (k := 0) rfl (by decide) (by decide) rfl (fun ls hl => ?_)
  refine lv_goto (tgt := 2) hx hb dX11_layDefaults_28 (by decide) ?_
  refine lv_iload_n hx hb dX11_layDefaults_2 rfl (lv_at hl 0 rfl) ?_
  refine lv_bipush (v := 23) hx hb dX11_layDefaults_3 (by decide) ?_
  refine lv_icmp_ge (tgt := 31) hx hb dX11_layDefaults_5 (by decide) (fun c55 => ?_) (fun c55 => ?_)
  · exact absurd c55 (by decide)
  refine lv_aload_n hx hb dX11_layDefaults_8 rfl (lv_at hl 1 rfl) ?_
  refine va_get (D := (dC, dI)) (ci := 11) (v := .ref mb) (C := RX11) (T := TX11) (N := 114) hx hb ht inX11 hown hK hP 0 rfl rfl 4 (by decide) (ht _ kw_1431) (fun _ h9 => h9) hfm_4 dX11_layDefaults_9 ?_
  refine lv_iload_n hx hb dX11_layDefaults_12 rfl (lv_at hl 0 rfl) ?_
  refine lv_iload_n hx hb dX11_layDefaults_13 rfl (lv_at hl 0 rfl) ?_
  refine lv_bipush (v := 15) hx hb dX11_layDefaults_14 (by decide) ?_
  refine lv_icmp_le (tgt := 23) hx hb dX11_layDefaults_16 (by decide) (fun c56 => ?_) (fun c56 => ?_)
  · exact absurd c56 (by decide)
  refine lv_iconst (v := (-1)) hx hb dX11_layDefaults_19 (by decide) ?_
  refine lv_goto (tgt := 24) hx hb dX11_layDefaults_20 (by decide) ?_
  refine va_iast hx hb hK hP hD hS 1 0 rfl rfl (by unfold vp_in; decide) dX11_layDefaults_24 (fun H locs hP hD hS => ?_)
  generalize upd g54 (18 : Int32).toNatClampNeg (-1) = g57 at hP hD
  have hP : va_P (dC, dI) vwCl [(m0, .inr (11, fm)), (mb, .inl (kmb, 23, .inl g57)), (md, .inl (kmd, 14, .inl gmd))] H := hP
  have hD : va_D A [(m0, .inr (11, fm)), (mb, .inl (kmb, 23, .inl g57)), (md, .inl (kmd, 14, .inl gmd))] := hD
  refine lv_iinc (v := 19) (lv' := [(1, .int 19), (0, .ref m0)]) hx hb dX11_layDefaults_25 hl (k := 0) rfl (by decide) (by decide) rfl (fun ls hl => ?_)
  refine lv_goto (tgt := 2) hx hb dX11_layDefaults_28 (by decide) ?_
  refine lv_iload_n hx hb dX11_layDefaults_2 rfl (lv_at hl 0 rfl) ?_
  refine lv_bipush (v := 23) hx hb dX11_layDefaults_3 (by decide) ?_
  refine lv_icmp_ge (tgt := 31) hx hb dX11_layDefaults_5 (by decide) (fun c58 => ?_) (fun c58 => ?_)
  · exact absurd c58 (by decide)
  refine lv_aload_n hx hb dX11_layDefaults_8 rfl (lv_at hl 1 rfl) ?_
  refine va_get (D := (dC, dI)) (ci := 11) (v := .ref mb) (C := RX11) (T := TX11) (N := 114) hx hb ht inX11 hown hK hP 0 rfl rfl 4 (by decide) (ht _ kw_1431) (fun _ h9 => h9) hfm_4 dX11_layDefaults_9 ?_
  refine lv_iload_n hx hb dX11_layDefaults_12 rfl (lv_at hl 0 rfl) ?_
  refine lv_iload_n hx hb dX11_layDefaults_13 rfl (lv_at hl 0 rfl) ?_
  refine lv_bipush (v := 15) hx hb dX11_layDefaults_14 (by decide) ?_
  refine lv_icmp_le (tgt := 23) hx hb dX11_layDefaults_16 (by decide) (fun c59 => ?_) (fun c59 => ?_)
  · exact absurd c59 (by decide)
  refine lv_iconst (v := (-1)) hx hb dX11_layDefaults_19 (by decide) ?_
  refine lv_goto (tgt := 24) hx hb dX11_layDefaults_20 (by decide) ?_
  refine va_iast hx hb hK hP hD hS 1 0 rfl rfl (by unfold vp_in; decide) dX11_layDefaults_24 (fun H locs hP hD hS => ?_)
  generalize upd g57 (19 : Int32).toNatClampNeg (-1) = g60 at hP hD
  have hP : va_P (dC, dI) vwCl [(m0, .inr (11, fm)), (mb, .inl (kmb, 23, .inl g60)), (md, .inl (kmd, 14, .inl gmd))] H := hP
  have hD : va_D A [(m0, .inr (11, fm)), (mb, .inl (kmb, 23, .inl g60)), (md, .inl (kmd, 14, .inl gmd))] := hD
  refine lv_iinc (v := 20) (lv' := [(1, .int 20), (0, .ref m0)]) hx hb dX11_layDefaults_25 hl (k := 0) rfl (by decide) (by decide) rfl (fun ls hl => ?_)
  refine lv_goto (tgt := 2) hx hb dX11_layDefaults_28 (by decide) ?_
  refine lv_iload_n hx hb dX11_layDefaults_2 rfl (lv_at hl 0 rfl) ?_
  refine lv_bipush (v := 23) hx hb dX11_layDefaults_3 (by decide) ?_
  refine lv_icmp_ge (tgt := 31) hx hb dX11_layDefaults_5 (by decide) (fun c61 => ?_) (fun c61 => ?_)
  · exact absurd c61 (by decide)
  refine lv_aload_n hx hb dX11_layDefaults_8 rfl (lv_at hl 1 rfl) ?_
  refine va_get (D := (dC, dI)) (ci := 11) (v := .ref mb) (C := RX11) (T := TX11) (N := 114) hx hb ht inX11 hown hK hP 0 rfl rfl 4 (by decide) (ht _ kw_1431) (fun _ h9 => h9) hfm_4 dX11_layDefaults_9 ?_
  refine lv_iload_n hx hb dX11_layDefaults_12 rfl (lv_at hl 0 rfl) ?_
  refine lv_iload_n hx hb dX11_layDefaults_13 rfl (lv_at hl 0 rfl) ?_
  refine lv_bipush (v := 15) hx hb dX11_layDefaults_14 (by decide) ?_
  refine lv_icmp_le (tgt := 23) hx hb dX11_layDefaults_16 (by decide) (fun c62 => ?_) (fun c62 => ?_)
  · exact absurd c62 (by decide)
  refine lv_iconst (v := (-1)) hx hb dX11_layDefaults_19 (by decide) ?_
  refine lv_goto (tgt := 24) hx hb dX11_layDefaults_20 (by decide) ?_
  refine va_iast hx hb hK hP hD hS 1 0 rfl rfl (by unfold vp_in; decide) dX11_layDefaults_24 (fun H locs hP hD hS => ?_)
  generalize upd g60 (20 : Int32).toNatClampNeg (-1) = g63 at hP hD
  have hP : va_P (dC, dI) vwCl [(m0, .inr (11, fm)), (mb, .inl (kmb, 23, .inl g63)), (md, .inl (kmd, 14, .inl gmd))] H := hP
  have hD : va_D A [(m0, .inr (11, fm)), (mb, .inl (kmb, 23, .inl g63)), (md, .inl (kmd, 14, .inl gmd))] := hD
  refine lv_iinc (v := 21) (lv' := [(1, .int 21), (0, .ref m0)]) hx hb dX11_layDefaults_25 hl (k := 0) rfl (by decide) (by decide) rfl (fun ls hl => ?_)
  refine lv_goto (tgt := 2) hx hb dX11_layDefaults_28 (by decide) ?_
  refine lv_iload_n hx hb dX11_layDefaults_2 rfl (lv_at hl 0 rfl) ?_
  refine lv_bipush (v := 23) hx hb dX11_layDefaults_3 (by decide) ?_
  refine lv_icmp_ge (tgt := 31) hx hb dX11_layDefaults_5 (by decide) (fun c64 => ?_) (fun c64 => ?_)
  · exact absurd c64 (by decide)
  refine lv_aload_n hx hb dX11_layDefaults_8 rfl (lv_at hl 1 rfl) ?_
  refine va_get (D := (dC, dI)) (ci := 11) (v := .ref mb) (C := RX11) (T := TX11) (N := 114) hx hb ht inX11 hown hK hP 0 rfl rfl 4 (by decide) (ht _ kw_1431) (fun _ h9 => h9) hfm_4 dX11_layDefaults_9 ?_
  refine lv_iload_n hx hb dX11_layDefaults_12 rfl (lv_at hl 0 rfl) ?_
  refine lv_iload_n hx hb dX11_layDefaults_13 rfl (lv_at hl 0 rfl) ?_
  refine lv_bipush (v := 15) hx hb dX11_layDefaults_14 (by decide) ?_
  refine lv_icmp_le (tgt := 23) hx hb dX11_layDefaults_16 (by decide) (fun c65 => ?_) (fun c65 => ?_)
  · exact absurd c65 (by decide)
  refine lv_iconst (v := (-1)) hx hb dX11_layDefaults_19 (by decide) ?_
  refine lv_goto (tgt := 24) hx hb dX11_layDefaults_20 (by decide) ?_
  refine va_iast hx hb hK hP hD hS 1 0 rfl rfl (by unfold vp_in; decide) dX11_layDefaults_24 (fun H locs hP hD hS => ?_)
  generalize upd g63 (21 : Int32).toNatClampNeg (-1) = g66 at hP hD
  have hP : va_P (dC, dI) vwCl [(m0, .inr (11, fm)), (mb, .inl (kmb, 23, .inl g66)), (md, .inl (kmd, 14, .inl gmd))] H := hP
  have hD : va_D A [(m0, .inr (11, fm)), (mb, .inl (kmb, 23, .inl g66)), (md, .inl (kmd, 14, .inl gmd))] := hD
  refine lv_iinc (v := 22) (lv' := [(1, .int 22), (0, .ref m0)]) hx hb dX11_layDefaults_25 hl (k := 0) rfl (by decide) (by decide) rfl (fun ls hl => ?_)
  refine lv_goto (tgt := 2) hx hb dX11_layDefaults_28 (by decide) ?_
  refine lv_iload_n hx hb dX11_layDefaults_2 rfl (lv_at hl 0 rfl) ?_
  refine lv_bipush (v := 23) hx hb dX11_layDefaults_3 (by decide) ?_
  refine lv_icmp_ge (tgt := 31) hx hb dX11_layDefaults_5 (by decide) (fun c67 => ?_) (fun c67 => ?_)
  · exact absurd c67 (by decide)
  refine lv_aload_n hx hb dX11_layDefaults_8 rfl (lv_at hl 1 rfl) ?_
  refine va_get (D := (dC, dI)) (ci := 11) (v := .ref mb) (C := RX11) (T := TX11) (N := 114) hx hb ht inX11 hown hK hP 0 rfl rfl 4 (by decide) (ht _ kw_1431) (fun _ h9 => h9) hfm_4 dX11_layDefaults_9 ?_
  refine lv_iload_n hx hb dX11_layDefaults_12 rfl (lv_at hl 0 rfl) ?_
  refine lv_iload_n hx hb dX11_layDefaults_13 rfl (lv_at hl 0 rfl) ?_
  refine lv_bipush (v := 15) hx hb dX11_layDefaults_14 (by decide) ?_
  refine lv_icmp_le (tgt := 23) hx hb dX11_layDefaults_16 (by decide) (fun c68 => ?_) (fun c68 => ?_)
  · exact absurd c68 (by decide)
  refine lv_iconst (v := (-1)) hx hb dX11_layDefaults_19 (by decide) ?_
  refine lv_goto (tgt := 24) hx hb dX11_layDefaults_20 (by decide) ?_
  refine va_iast hx hb hK hP hD hS 1 0 rfl rfl (by unfold vp_in; decide) dX11_layDefaults_24 (fun H locs hP hD hS => ?_)
  generalize upd g66 (22 : Int32).toNatClampNeg (-1) = g69 at hP hD
  have hP : va_P (dC, dI) vwCl [(m0, .inr (11, fm)), (mb, .inl (kmb, 23, .inl g69)), (md, .inl (kmd, 14, .inl gmd))] H := hP
  have hD : va_D A [(m0, .inr (11, fm)), (mb, .inl (kmb, 23, .inl g69)), (md, .inl (kmd, 14, .inl gmd))] := hD
  refine lv_iinc (v := 23) (lv' := [(1, .int 23), (0, .ref m0)]) hx hb dX11_layDefaults_25 hl (k := 0) rfl (by decide) (by decide) rfl (fun ls hl => ?_)
  refine lv_goto (tgt := 2) hx hb dX11_layDefaults_28 (by decide) ?_
  refine lv_iload_n hx hb dX11_layDefaults_2 rfl (lv_at hl 0 rfl) ?_
  refine lv_bipush (v := 23) hx hb dX11_layDefaults_3 (by decide) ?_
  refine lv_icmp_ge (tgt := 31) hx hb dX11_layDefaults_5 (by decide) (fun c70 => ?_) (fun c70 => ?_)
  rotate_left
  · exact absurd (by decide) c70
  refine lv_aload_n hx hb dX11_layDefaults_31 rfl (lv_at hl 1 rfl) ?_
  refine va_get (D := (dC, dI)) (ci := 11) (v := .ref mb) (C := RX11) (T := TX11) (N := 114) hx hb ht inX11 hown hK hP 0 rfl rfl 4 (by decide) (ht _ kw_1431) (fun _ h9 => h9) hfm_4 dX11_layDefaults_32 ?_
  refine lv_iconst (v := 1) hx hb dX11_layDefaults_35 (by decide) ?_
  refine lv_iconst (v := 3) hx hb dX11_layDefaults_36 (by decide) ?_
  refine va_iast hx hb hK hP hD hS 1 0 rfl rfl (by unfold vp_in; decide) dX11_layDefaults_37 (fun H locs hP hD hS => ?_)
  generalize upd g69 (1 : Int32).toNatClampNeg 3 = g71 at hP hD
  have hP : va_P (dC, dI) vwCl [(m0, .inr (11, fm)), (mb, .inl (kmb, 23, .inl g71)), (md, .inl (kmd, 14, .inl gmd))] H := hP
  have hD : va_D A [(m0, .inr (11, fm)), (mb, .inl (kmb, 23, .inl g71)), (md, .inl (kmd, 14, .inl gmd))] := hD
  refine lv_aload_n hx hb dX11_layDefaults_38 rfl (lv_at hl 1 rfl) ?_
  refine va_get (D := (dC, dI)) (ci := 11) (v := .ref mb) (C := RX11) (T := TX11) (N := 114) hx hb ht inX11 hown hK hP 0 rfl rfl 4 (by decide) (ht _ kw_1431) (fun _ h9 => h9) hfm_4 dX11_layDefaults_39 ?_
  refine lv_iconst (v := 2) hx hb dX11_layDefaults_42 (by decide) ?_
  refine lv_iconst (v := 1) hx hb dX11_layDefaults_43 (by decide) ?_
  refine va_iast hx hb hK hP hD hS 1 0 rfl rfl (by unfold vp_in; decide) dX11_layDefaults_44 (fun H locs hP hD hS => ?_)
  generalize upd g71 (2 : Int32).toNatClampNeg 1 = g72 at hP hD
  have hP : va_P (dC, dI) vwCl [(m0, .inr (11, fm)), (mb, .inl (kmb, 23, .inl g72)), (md, .inl (kmd, 14, .inl gmd))] H := hP
  have hD : va_D A [(m0, .inr (11, fm)), (mb, .inl (kmb, 23, .inl g72)), (md, .inl (kmd, 14, .inl gmd))] := hD
  refine lv_aload_n hx hb dX11_layDefaults_45 rfl (lv_at hl 1 rfl) ?_
  refine va_get (D := (dC, dI)) (ci := 11) (v := .ref mb) (C := RX11) (T := TX11) (N := 114) hx hb ht inX11 hown hK hP 0 rfl rfl 4 (by decide) (ht _ kw_1431) (fun _ h9 => h9) hfm_4 dX11_layDefaults_46 ?_
  refine lv_iconst (v := 4) hx hb dX11_layDefaults_49 (by decide) ?_
  refine lv_iconst (v := 2) hx hb dX11_layDefaults_50 (by decide) ?_
  refine va_iast hx hb hK hP hD hS 1 0 rfl rfl (by unfold vp_in; decide) dX11_layDefaults_51 (fun H locs hP hD hS => ?_)
  generalize upd g72 (4 : Int32).toNatClampNeg 2 = g73 at hP hD
  have hP : va_P (dC, dI) vwCl [(m0, .inr (11, fm)), (mb, .inl (kmb, 23, .inl g73)), (md, .inl (kmd, 14, .inl gmd))] H := hP
  have hD : va_D A [(m0, .inr (11, fm)), (mb, .inl (kmb, 23, .inl g73)), (md, .inl (kmd, 14, .inl gmd))] := hD
  refine lv_aload_n hx hb dX11_layDefaults_52 rfl (lv_at hl 1 rfl) ?_
  refine va_get (D := (dC, dI)) (ci := 11) (v := .ref mb) (C := RX11) (T := TX11) (N := 114) hx hb ht inX11 hown hK hP 0 rfl rfl 4 (by decide) (ht _ kw_1431) (fun _ h9 => h9) hfm_4 dX11_layDefaults_53 ?_
  refine lv_bipush (v := 6) hx hb dX11_layDefaults_56 (by decide) ?_
  refine lv_iconst (v := 1) hx hb dX11_layDefaults_58 (by decide) ?_
  refine va_iast hx hb hK hP hD hS 1 0 rfl rfl (by unfold vp_in; decide) dX11_layDefaults_59 (fun H locs hP hD hS => ?_)
  generalize upd g73 (6 : Int32).toNatClampNeg 1 = g74 at hP hD
  have hP : va_P (dC, dI) vwCl [(m0, .inr (11, fm)), (mb, .inl (kmb, 23, .inl g74)), (md, .inl (kmd, 14, .inl gmd))] H := hP
  have hD : va_D A [(m0, .inr (11, fm)), (mb, .inl (kmb, 23, .inl g74)), (md, .inl (kmd, 14, .inl gmd))] := hD
  refine lv_aload_n hx hb dX11_layDefaults_60 rfl (lv_at hl 1 rfl) ?_
  refine va_get (D := (dC, dI)) (ci := 11) (v := .ref mb) (C := RX11) (T := TX11) (N := 114) hx hb ht inX11 hown hK hP 0 rfl rfl 4 (by decide) (ht _ kw_1431) (fun _ h9 => h9) hfm_4 dX11_layDefaults_61 ?_
  refine lv_bipush (v := 7) hx hb dX11_layDefaults_64 (by decide) ?_
  refine lv_bipush (v := 7) hx hb dX11_layDefaults_66 (by decide) ?_
  refine va_iast hx hb hK hP hD hS 1 0 rfl rfl (by unfold vp_in; decide) dX11_layDefaults_68 (fun H locs hP hD hS => ?_)
  generalize upd g74 (7 : Int32).toNatClampNeg 7 = g75 at hP hD
  have hP : va_P (dC, dI) vwCl [(m0, .inr (11, fm)), (mb, .inl (kmb, 23, .inl g75)), (md, .inl (kmd, 14, .inl gmd))] H := hP
  have hD : va_D A [(m0, .inr (11, fm)), (mb, .inl (kmb, 23, .inl g75)), (md, .inl (kmd, 14, .inl gmd))] := hD
  refine lv_aload_n hx hb dX11_layDefaults_69 rfl (lv_at hl 1 rfl) ?_
  refine va_get (D := (dC, dI)) (ci := 11) (v := .ref mb) (C := RX11) (T := TX11) (N := 114) hx hb ht inX11 hown hK hP 0 rfl rfl 4 (by decide) (ht _ kw_1431) (fun _ h9 => h9) hfm_4 dX11_layDefaults_70 ?_
  refine lv_bipush (v := 8) hx hb dX11_layDefaults_73 (by decide) ?_
  refine lv_iconst (v := 1) hx hb dX11_layDefaults_75 (by decide) ?_
  refine va_iast hx hb hK hP hD hS 1 0 rfl rfl (by unfold vp_in; decide) dX11_layDefaults_76 (fun H locs hP hD hS => ?_)
  generalize upd g75 (8 : Int32).toNatClampNeg 1 = g76 at hP hD
  have hP : va_P (dC, dI) vwCl [(m0, .inr (11, fm)), (mb, .inl (kmb, 23, .inl g76)), (md, .inl (kmd, 14, .inl gmd))] H := hP
  have hD : va_D A [(m0, .inr (11, fm)), (mb, .inl (kmb, 23, .inl g76)), (md, .inl (kmd, 14, .inl gmd))] := hD
  refine lv_aload_n hx hb dX11_layDefaults_77 rfl (lv_at hl 1 rfl) ?_
  refine va_get (D := (dC, dI)) (ci := 11) (v := .ref mb) (C := RX11) (T := TX11) (N := 114) hx hb ht inX11 hown hK hP 0 rfl rfl 4 (by decide) (ht _ kw_1431) (fun _ h9 => h9) hfm_4 dX11_layDefaults_78 ?_
  refine lv_bipush (v := 9) hx hb dX11_layDefaults_81 (by decide) ?_
  refine lv_iconst (v := 2) hx hb dX11_layDefaults_83 (by decide) ?_
  refine va_iast hx hb hK hP hD hS 1 0 rfl rfl (by unfold vp_in; decide) dX11_layDefaults_84 (fun H locs hP hD hS => ?_)
  generalize upd g76 (9 : Int32).toNatClampNeg 2 = g77 at hP hD
  have hP : va_P (dC, dI) vwCl [(m0, .inr (11, fm)), (mb, .inl (kmb, 23, .inl g77)), (md, .inl (kmd, 14, .inl gmd))] H := hP
  have hD : va_D A [(m0, .inr (11, fm)), (mb, .inl (kmb, 23, .inl g77)), (md, .inl (kmd, 14, .inl gmd))] := hD
  refine lv_aload_n hx hb dX11_layDefaults_85 rfl (lv_at hl 1 rfl) ?_
  refine va_get (D := (dC, dI)) (ci := 11) (v := .ref mb) (C := RX11) (T := TX11) (N := 114) hx hb ht inX11 hown hK hP 0 rfl rfl 4 (by decide) (ht _ kw_1431) (fun _ h9 => h9) hfm_4 dX11_layDefaults_86 ?_
  refine lv_bipush (v := 10) hx hb dX11_layDefaults_89 (by decide) ?_
  refine lv_iconst (v := 2) hx hb dX11_layDefaults_91 (by decide) ?_
  refine va_iast hx hb hK hP hD hS 1 0 rfl rfl (by unfold vp_in; decide) dX11_layDefaults_92 (fun H locs hP hD hS => ?_)
  generalize upd g77 (10 : Int32).toNatClampNeg 2 = g78 at hP hD
  have hP : va_P (dC, dI) vwCl [(m0, .inr (11, fm)), (mb, .inl (kmb, 23, .inl g78)), (md, .inl (kmd, 14, .inl gmd))] H := hP
  have hD : va_D A [(m0, .inr (11, fm)), (mb, .inl (kmb, 23, .inl g78)), (md, .inl (kmd, 14, .inl gmd))] := hD
  refine lv_aload_n hx hb dX11_layDefaults_93 rfl (lv_at hl 1 rfl) ?_
  refine va_get (D := (dC, dI)) (ci := 11) (v := .ref mb) (C := RX11) (T := TX11) (N := 114) hx hb ht inX11 hown hK hP 0 rfl rfl 4 (by decide) (ht _ kw_1431) (fun _ h9 => h9) hfm_4 dX11_layDefaults_94 ?_
  refine lv_bipush (v := 11) hx hb dX11_layDefaults_97 (by decide) ?_
  refine lv_iconst (v := 3) hx hb dX11_layDefaults_99 (by decide) ?_
  refine va_iast hx hb hK hP hD hS 1 0 rfl rfl (by unfold vp_in; decide) dX11_layDefaults_100 (fun H locs hP hD hS => ?_)
  generalize upd g78 (11 : Int32).toNatClampNeg 3 = g79 at hP hD
  have hP : va_P (dC, dI) vwCl [(m0, .inr (11, fm)), (mb, .inl (kmb, 23, .inl g79)), (md, .inl (kmd, 14, .inl gmd))] H := hP
  have hD : va_D A [(m0, .inr (11, fm)), (mb, .inl (kmb, 23, .inl g79)), (md, .inl (kmd, 14, .inl gmd))] := hD
  refine lv_aload_n hx hb dX11_layDefaults_101 rfl (lv_at hl 1 rfl) ?_
  refine va_get (D := (dC, dI)) (ci := 11) (v := .ref mb) (C := RX11) (T := TX11) (N := 114) hx hb ht inX11 hown hK hP 0 rfl rfl 4 (by decide) (ht _ kw_1431) (fun _ h9 => h9) hfm_4 dX11_layDefaults_102 ?_
  refine lv_bipush (v := 12) hx hb dX11_layDefaults_105 (by decide) ?_
  refine lv_iconst (v := 3) hx hb dX11_layDefaults_107 (by decide) ?_
  refine va_iast hx hb hK hP hD hS 1 0 rfl rfl (by unfold vp_in; decide) dX11_layDefaults_108 (fun H locs hP hD hS => ?_)
  generalize upd g79 (12 : Int32).toNatClampNeg 3 = g80 at hP hD
  have hP : va_P (dC, dI) vwCl [(m0, .inr (11, fm)), (mb, .inl (kmb, 23, .inl g80)), (md, .inl (kmd, 14, .inl gmd))] H := hP
  have hD : va_D A [(m0, .inr (11, fm)), (mb, .inl (kmb, 23, .inl g80)), (md, .inl (kmd, 14, .inl gmd))] := hD
  refine lv_aload_n hx hb dX11_layDefaults_109 rfl (lv_at hl 1 rfl) ?_
  refine va_get (D := (dC, dI)) (ci := 11) (v := .ref mb) (C := RX11) (T := TX11) (N := 114) hx hb ht inX11 hown hK hP 0 rfl rfl 4 (by decide) (ht _ kw_1431) (fun _ h9 => h9) hfm_4 dX11_layDefaults_110 ?_
  refine lv_bipush (v := 13) hx hb dX11_layDefaults_113 (by decide) ?_
  refine lv_iconst (v := 3) hx hb dX11_layDefaults_115 (by decide) ?_
  refine va_iast hx hb hK hP hD hS 1 0 rfl rfl (by unfold vp_in; decide) dX11_layDefaults_116 (fun H locs hP hD hS => ?_)
  generalize upd g80 (13 : Int32).toNatClampNeg 3 = g81 at hP hD
  have hP : va_P (dC, dI) vwCl [(m0, .inr (11, fm)), (mb, .inl (kmb, 23, .inl g81)), (md, .inl (kmd, 14, .inl gmd))] H := hP
  have hD : va_D A [(m0, .inr (11, fm)), (mb, .inl (kmb, 23, .inl g81)), (md, .inl (kmd, 14, .inl gmd))] := hD
  refine lv_aload_n hx hb dX11_layDefaults_117 rfl (lv_at hl 1 rfl) ?_
  refine va_get (D := (dC, dI)) (ci := 11) (v := .ref mb) (C := RX11) (T := TX11) (N := 114) hx hb ht inX11 hown hK hP 0 rfl rfl 4 (by decide) (ht _ kw_1431) (fun _ h9 => h9) hfm_4 dX11_layDefaults_118 ?_
  refine lv_bipush (v := 14) hx hb dX11_layDefaults_121 (by decide) ?_
  refine lv_iconst (v := 1) hx hb dX11_layDefaults_123 (by decide) ?_
  refine va_iast hx hb hK hP hD hS 1 0 rfl rfl (by unfold vp_in; decide) dX11_layDefaults_124 (fun H locs hP hD hS => ?_)
  generalize upd g81 (14 : Int32).toNatClampNeg 1 = g82 at hP hD
  have hP : va_P (dC, dI) vwCl [(m0, .inr (11, fm)), (mb, .inl (kmb, 23, .inl g82)), (md, .inl (kmd, 14, .inl gmd))] H := hP
  have hD : va_D A [(m0, .inr (11, fm)), (mb, .inl (kmb, 23, .inl g82)), (md, .inl (kmd, 14, .inl gmd))] := hD
  refine lv_aload_n hx hb dX11_layDefaults_125 rfl (lv_at hl 1 rfl) ?_
  refine va_get (D := (dC, dI)) (ci := 11) (v := .ref mb) (C := RX11) (T := TX11) (N := 114) hx hb ht inX11 hown hK hP 0 rfl rfl 4 (by decide) (ht _ kw_1431) (fun _ h9 => h9) hfm_4 dX11_layDefaults_126 ?_
  refine lv_bipush (v := 16) hx hb dX11_layDefaults_129 (by decide) ?_
  refine lv_iconst (v := 0) hx hb dX11_layDefaults_131 (by decide) ?_
  refine va_iast hx hb hK hP hD hS 1 0 rfl rfl (by unfold vp_in; decide) dX11_layDefaults_132 (fun H locs hP hD hS => ?_)
  generalize upd g82 (16 : Int32).toNatClampNeg 0 = g83 at hP hD
  have hP : va_P (dC, dI) vwCl [(m0, .inr (11, fm)), (mb, .inl (kmb, 23, .inl g83)), (md, .inl (kmd, 14, .inl gmd))] H := hP
  have hD : va_D A [(m0, .inr (11, fm)), (mb, .inl (kmb, 23, .inl g83)), (md, .inl (kmd, 14, .inl gmd))] := hD
  refine lv_aload_n hx hb dX11_layDefaults_133 rfl (lv_at hl 1 rfl) ?_
  refine va_get (D := (dC, dI)) (ci := 11) (v := .ref mb) (C := RX11) (T := TX11) (N := 114) hx hb ht inX11 hown hK hP 0 rfl rfl 4 (by decide) (ht _ kw_1431) (fun _ h9 => h9) hfm_4 dX11_layDefaults_134 ?_
  refine lv_bipush (v := 17) hx hb dX11_layDefaults_137 (by decide) ?_
  refine lv_iconst (v := 1) hx hb dX11_layDefaults_139 (by decide) ?_
  refine va_iast hx hb hK hP hD hS 1 0 rfl rfl (by unfold vp_in; decide) dX11_layDefaults_140 (fun H locs hP hD hS => ?_)
  generalize upd g83 (17 : Int32).toNatClampNeg 1 = g84 at hP hD
  have hP : va_P (dC, dI) vwCl [(m0, .inr (11, fm)), (mb, .inl (kmb, 23, .inl g84)), (md, .inl (kmd, 14, .inl gmd))] H := hP
  have hD : va_D A [(m0, .inr (11, fm)), (mb, .inl (kmb, 23, .inl g84)), (md, .inl (kmd, 14, .inl gmd))] := hD
  refine lv_iconst (v := 0) hx hb dX11_layDefaults_141 (by decide) ?_
  refine lv_istore_n (lv' := [(1, .int 0), (0, .ref m0)]) hx hb dX11_layDefaults_142 rfl hl (by decide) rfl (fun ls hl => ?_)
  refine lv_iload_n hx hb dX11_layDefaults_143 rfl (lv_at hl 0 rfl) ?_
  refine lv_bipush (v := 14) hx hb dX11_layDefaults_144 (by decide) ?_
  refine lv_icmp_ge (tgt := 162) hx hb dX11_layDefaults_146 (by decide) (fun c85 => ?_) (fun c85 => ?_)
  · exact absurd c85 (by decide)
  refine lv_aload_n hx hb dX11_layDefaults_149 rfl (lv_at hl 1 rfl) ?_
  refine va_get (D := (dC, dI)) (ci := 11) (v := .ref md) (C := RX11) (T := TX11) (N := 114) hx hb ht inX11 hown hK hP 0 rfl rfl 69 (by decide) (ht _ kw_1496) (fun _ h9 => h9) hfm_69 dX11_layDefaults_150 ?_
  refine lv_iload_n hx hb dX11_layDefaults_153 rfl (lv_at hl 0 rfl) ?_
  refine lv_iconst (v := 0) hx hb dX11_layDefaults_154 (by decide) ?_
  refine va_zast hx hb hK hP hD hS 2 1 rfl rfl (by unfold vp_in; decide) dX11_layDefaults_155 (fun H locs hP hD hS => ?_)
  generalize upd gmd (0 : Int32).toNatClampNeg (vp_nar .boolean 0) = g86 at hP hD
  have hP : va_P (dC, dI) vwCl [(m0, .inr (11, fm)), (mb, .inl (kmb, 23, .inl g84)), (md, .inl (kmd, 14, .inl g86))] H := hP
  have hD : va_D A [(m0, .inr (11, fm)), (mb, .inl (kmb, 23, .inl g84)), (md, .inl (kmd, 14, .inl g86))] := hD
  refine lv_iinc (v := 1) (lv' := [(1, .int 1), (0, .ref m0)]) hx hb dX11_layDefaults_156 hl (k := 0) rfl (by decide) (by decide) rfl (fun ls hl => ?_)
  refine lv_goto (tgt := 143) hx hb dX11_layDefaults_159 (by decide) ?_
  refine lv_iload_n hx hb dX11_layDefaults_143 rfl (lv_at hl 0 rfl) ?_
  refine lv_bipush (v := 14) hx hb dX11_layDefaults_144 (by decide) ?_
  refine lv_icmp_ge (tgt := 162) hx hb dX11_layDefaults_146 (by decide) (fun c87 => ?_) (fun c87 => ?_)
  · exact absurd c87 (by decide)
  refine lv_aload_n hx hb dX11_layDefaults_149 rfl (lv_at hl 1 rfl) ?_
  refine va_get (D := (dC, dI)) (ci := 11) (v := .ref md) (C := RX11) (T := TX11) (N := 114) hx hb ht inX11 hown hK hP 0 rfl rfl 69 (by decide) (ht _ kw_1496) (fun _ h9 => h9) hfm_69 dX11_layDefaults_150 ?_
  refine lv_iload_n hx hb dX11_layDefaults_153 rfl (lv_at hl 0 rfl) ?_
  refine lv_iconst (v := 0) hx hb dX11_layDefaults_154 (by decide) ?_
  refine va_zast hx hb hK hP hD hS 2 1 rfl rfl (by unfold vp_in; decide) dX11_layDefaults_155 (fun H locs hP hD hS => ?_)
  generalize upd g86 (1 : Int32).toNatClampNeg (vp_nar .boolean 0) = g88 at hP hD
  have hP : va_P (dC, dI) vwCl [(m0, .inr (11, fm)), (mb, .inl (kmb, 23, .inl g84)), (md, .inl (kmd, 14, .inl g88))] H := hP
  have hD : va_D A [(m0, .inr (11, fm)), (mb, .inl (kmb, 23, .inl g84)), (md, .inl (kmd, 14, .inl g88))] := hD
  refine lv_iinc (v := 2) (lv' := [(1, .int 2), (0, .ref m0)]) hx hb dX11_layDefaults_156 hl (k := 0) rfl (by decide) (by decide) rfl (fun ls hl => ?_)
  refine lv_goto (tgt := 143) hx hb dX11_layDefaults_159 (by decide) ?_
  refine lv_iload_n hx hb dX11_layDefaults_143 rfl (lv_at hl 0 rfl) ?_
  refine lv_bipush (v := 14) hx hb dX11_layDefaults_144 (by decide) ?_
  refine lv_icmp_ge (tgt := 162) hx hb dX11_layDefaults_146 (by decide) (fun c89 => ?_) (fun c89 => ?_)
  · exact absurd c89 (by decide)
  refine lv_aload_n hx hb dX11_layDefaults_149 rfl (lv_at hl 1 rfl) ?_
  refine va_get (D := (dC, dI)) (ci := 11) (v := .ref md) (C := RX11) (T := TX11) (N := 114) hx hb ht inX11 hown hK hP 0 rfl rfl 69 (by decide) (ht _ kw_1496) (fun _ h9 => h9) hfm_69 dX11_layDefaults_150 ?_
  refine lv_iload_n hx hb dX11_layDefaults_153 rfl (lv_at hl 0 rfl) ?_
  refine lv_iconst (v := 0) hx hb dX11_layDefaults_154 (by decide) ?_
  refine va_zast hx hb hK hP hD hS 2 1 rfl rfl (by unfold vp_in; decide) dX11_layDefaults_155 (fun H locs hP hD hS => ?_)
  generalize upd g88 (2 : Int32).toNatClampNeg (vp_nar .boolean 0) = g90 at hP hD
  have hP : va_P (dC, dI) vwCl [(m0, .inr (11, fm)), (mb, .inl (kmb, 23, .inl g84)), (md, .inl (kmd, 14, .inl g90))] H := hP
  have hD : va_D A [(m0, .inr (11, fm)), (mb, .inl (kmb, 23, .inl g84)), (md, .inl (kmd, 14, .inl g90))] := hD
  refine lv_iinc (v := 3) (lv' := [(1, .int 3), (0, .ref m0)]) hx hb dX11_layDefaults_156 hl (k := 0) rfl (by decide) (by decide) rfl (fun ls hl => ?_)
  refine lv_goto (tgt := 143) hx hb dX11_layDefaults_159 (by decide) ?_
  refine lv_iload_n hx hb dX11_layDefaults_143 rfl (lv_at hl 0 rfl) ?_
  refine lv_bipush (v := 14) hx hb dX11_layDefaults_144 (by decide) ?_
  refine lv_icmp_ge (tgt := 162) hx hb dX11_layDefaults_146 (by decide) (fun c91 => ?_) (fun c91 => ?_)
  · exact absurd c91 (by decide)
  refine lv_aload_n hx hb dX11_layDefaults_149 rfl (lv_at hl 1 rfl) ?_
  refine va_get (D := (dC, dI)) (ci := 11) (v := .ref md) (C := RX11) (T := TX11) (N := 114) hx hb ht inX11 hown hK hP 0 rfl rfl 69 (by decide) (ht _ kw_1496) (fun _ h9 => h9) hfm_69 dX11_layDefaults_150 ?_
  refine lv_iload_n hx hb dX11_layDefaults_153 rfl (lv_at hl 0 rfl) ?_
  refine lv_iconst (v := 0) hx hb dX11_layDefaults_154 (by decide) ?_
  refine va_zast hx hb hK hP hD hS 2 1 rfl rfl (by unfold vp_in; decide) dX11_layDefaults_155 (fun H locs hP hD hS => ?_)
  generalize upd g90 (3 : Int32).toNatClampNeg (vp_nar .boolean 0) = g92 at hP hD
  have hP : va_P (dC, dI) vwCl [(m0, .inr (11, fm)), (mb, .inl (kmb, 23, .inl g84)), (md, .inl (kmd, 14, .inl g92))] H := hP
  have hD : va_D A [(m0, .inr (11, fm)), (mb, .inl (kmb, 23, .inl g84)), (md, .inl (kmd, 14, .inl g92))] := hD
  refine lv_iinc (v := 4) (lv' := [(1, .int 4), (0, .ref m0)]) hx hb dX11_layDefaults_156 hl (k := 0) rfl (by decide) (by decide) rfl (fun ls hl => ?_)
  refine lv_goto (tgt := 143) hx hb dX11_layDefaults_159 (by decide) ?_
  refine lv_iload_n hx hb dX11_layDefaults_143 rfl (lv_at hl 0 rfl) ?_
  refine lv_bipush (v := 14) hx hb dX11_layDefaults_144 (by decide) ?_
  refine lv_icmp_ge (tgt := 162) hx hb dX11_layDefaults_146 (by decide) (fun c93 => ?_) (fun c93 => ?_)
  · exact absurd c93 (by decide)
  refine lv_aload_n hx hb dX11_layDefaults_149 rfl (lv_at hl 1 rfl) ?_
  refine va_get (D := (dC, dI)) (ci := 11) (v := .ref md) (C := RX11) (T := TX11) (N := 114) hx hb ht inX11 hown hK hP 0 rfl rfl 69 (by decide) (ht _ kw_1496) (fun _ h9 => h9) hfm_69 dX11_layDefaults_150 ?_
  refine lv_iload_n hx hb dX11_layDefaults_153 rfl (lv_at hl 0 rfl) ?_
  refine lv_iconst (v := 0) hx hb dX11_layDefaults_154 (by decide) ?_
  refine va_zast hx hb hK hP hD hS 2 1 rfl rfl (by unfold vp_in; decide) dX11_layDefaults_155 (fun H locs hP hD hS => ?_)
  generalize upd g92 (4 : Int32).toNatClampNeg (vp_nar .boolean 0) = g94 at hP hD
  have hP : va_P (dC, dI) vwCl [(m0, .inr (11, fm)), (mb, .inl (kmb, 23, .inl g84)), (md, .inl (kmd, 14, .inl g94))] H := hP
  have hD : va_D A [(m0, .inr (11, fm)), (mb, .inl (kmb, 23, .inl g84)), (md, .inl (kmd, 14, .inl g94))] := hD
  refine lv_iinc (v := 5) (lv' := [(1, .int 5), (0, .ref m0)]) hx hb dX11_layDefaults_156 hl (k := 0) rfl (by decide) (by decide) rfl (fun ls hl => ?_)
  refine lv_goto (tgt := 143) hx hb dX11_layDefaults_159 (by decide) ?_
  refine lv_iload_n hx hb dX11_layDefaults_143 rfl (lv_at hl 0 rfl) ?_
  refine lv_bipush (v := 14) hx hb dX11_layDefaults_144 (by decide) ?_
  refine lv_icmp_ge (tgt := 162) hx hb dX11_layDefaults_146 (by decide) (fun c95 => ?_) (fun c95 => ?_)
  · exact absurd c95 (by decide)
  refine lv_aload_n hx hb dX11_layDefaults_149 rfl (lv_at hl 1 rfl) ?_
  refine va_get (D := (dC, dI)) (ci := 11) (v := .ref md) (C := RX11) (T := TX11) (N := 114) hx hb ht inX11 hown hK hP 0 rfl rfl 69 (by decide) (ht _ kw_1496) (fun _ h9 => h9) hfm_69 dX11_layDefaults_150 ?_
  refine lv_iload_n hx hb dX11_layDefaults_153 rfl (lv_at hl 0 rfl) ?_
  refine lv_iconst (v := 0) hx hb dX11_layDefaults_154 (by decide) ?_
  refine va_zast hx hb hK hP hD hS 2 1 rfl rfl (by unfold vp_in; decide) dX11_layDefaults_155 (fun H locs hP hD hS => ?_)
  generalize upd g94 (5 : Int32).toNatClampNeg (vp_nar .boolean 0) = g96 at hP hD
  have hP : va_P (dC, dI) vwCl [(m0, .inr (11, fm)), (mb, .inl (kmb, 23, .inl g84)), (md, .inl (kmd, 14, .inl g96))] H := hP
  have hD : va_D A [(m0, .inr (11, fm)), (mb, .inl (kmb, 23, .inl g84)), (md, .inl (kmd, 14, .inl g96))] := hD
  refine lv_iinc (v := 6) (lv' := [(1, .int 6), (0, .ref m0)]) hx hb dX11_layDefaults_156 hl (k := 0) rfl (by decide) (by decide) rfl (fun ls hl => ?_)
  refine lv_goto (tgt := 143) hx hb dX11_layDefaults_159 (by decide) ?_
  refine lv_iload_n hx hb dX11_layDefaults_143 rfl (lv_at hl 0 rfl) ?_
  refine lv_bipush (v := 14) hx hb dX11_layDefaults_144 (by decide) ?_
  refine lv_icmp_ge (tgt := 162) hx hb dX11_layDefaults_146 (by decide) (fun c97 => ?_) (fun c97 => ?_)
  · exact absurd c97 (by decide)
  refine lv_aload_n hx hb dX11_layDefaults_149 rfl (lv_at hl 1 rfl) ?_
  refine va_get (D := (dC, dI)) (ci := 11) (v := .ref md) (C := RX11) (T := TX11) (N := 114) hx hb ht inX11 hown hK hP 0 rfl rfl 69 (by decide) (ht _ kw_1496) (fun _ h9 => h9) hfm_69 dX11_layDefaults_150 ?_
  refine lv_iload_n hx hb dX11_layDefaults_153 rfl (lv_at hl 0 rfl) ?_
  refine lv_iconst (v := 0) hx hb dX11_layDefaults_154 (by decide) ?_
  refine va_zast hx hb hK hP hD hS 2 1 rfl rfl (by unfold vp_in; decide) dX11_layDefaults_155 (fun H locs hP hD hS => ?_)
  generalize upd g96 (6 : Int32).toNatClampNeg (vp_nar .boolean 0) = g98 at hP hD
  have hP : va_P (dC, dI) vwCl [(m0, .inr (11, fm)), (mb, .inl (kmb, 23, .inl g84)), (md, .inl (kmd, 14, .inl g98))] H := hP
  have hD : va_D A [(m0, .inr (11, fm)), (mb, .inl (kmb, 23, .inl g84)), (md, .inl (kmd, 14, .inl g98))] := hD
  refine lv_iinc (v := 7) (lv' := [(1, .int 7), (0, .ref m0)]) hx hb dX11_layDefaults_156 hl (k := 0) rfl (by decide) (by decide) rfl (fun ls hl => ?_)
  refine lv_goto (tgt := 143) hx hb dX11_layDefaults_159 (by decide) ?_
  refine lv_iload_n hx hb dX11_layDefaults_143 rfl (lv_at hl 0 rfl) ?_
  refine lv_bipush (v := 14) hx hb dX11_layDefaults_144 (by decide) ?_
  refine lv_icmp_ge (tgt := 162) hx hb dX11_layDefaults_146 (by decide) (fun c99 => ?_) (fun c99 => ?_)
  · exact absurd c99 (by decide)
  refine lv_aload_n hx hb dX11_layDefaults_149 rfl (lv_at hl 1 rfl) ?_
  refine va_get (D := (dC, dI)) (ci := 11) (v := .ref md) (C := RX11) (T := TX11) (N := 114) hx hb ht inX11 hown hK hP 0 rfl rfl 69 (by decide) (ht _ kw_1496) (fun _ h9 => h9) hfm_69 dX11_layDefaults_150 ?_
  refine lv_iload_n hx hb dX11_layDefaults_153 rfl (lv_at hl 0 rfl) ?_
  refine lv_iconst (v := 0) hx hb dX11_layDefaults_154 (by decide) ?_
  refine va_zast hx hb hK hP hD hS 2 1 rfl rfl (by unfold vp_in; decide) dX11_layDefaults_155 (fun H locs hP hD hS => ?_)
  generalize upd g98 (7 : Int32).toNatClampNeg (vp_nar .boolean 0) = g100 at hP hD
  have hP : va_P (dC, dI) vwCl [(m0, .inr (11, fm)), (mb, .inl (kmb, 23, .inl g84)), (md, .inl (kmd, 14, .inl g100))] H := hP
  have hD : va_D A [(m0, .inr (11, fm)), (mb, .inl (kmb, 23, .inl g84)), (md, .inl (kmd, 14, .inl g100))] := hD
  refine lv_iinc (v := 8) (lv' := [(1, .int 8), (0, .ref m0)]) hx hb dX11_layDefaults_156 hl (k := 0) rfl (by decide) (by decide) rfl (fun ls hl => ?_)
  refine lv_goto (tgt := 143) hx hb dX11_layDefaults_159 (by decide) ?_
  refine lv_iload_n hx hb dX11_layDefaults_143 rfl (lv_at hl 0 rfl) ?_
  refine lv_bipush (v := 14) hx hb dX11_layDefaults_144 (by decide) ?_
  refine lv_icmp_ge (tgt := 162) hx hb dX11_layDefaults_146 (by decide) (fun c101 => ?_) (fun c101 => ?_)
  · exact absurd c101 (by decide)
  refine lv_aload_n hx hb dX11_layDefaults_149 rfl (lv_at hl 1 rfl) ?_
  refine va_get (D := (dC, dI)) (ci := 11) (v := .ref md) (C := RX11) (T := TX11) (N := 114) hx hb ht inX11 hown hK hP 0 rfl rfl 69 (by decide) (ht _ kw_1496) (fun _ h9 => h9) hfm_69 dX11_layDefaults_150 ?_
  refine lv_iload_n hx hb dX11_layDefaults_153 rfl (lv_at hl 0 rfl) ?_
  refine lv_iconst (v := 0) hx hb dX11_layDefaults_154 (by decide) ?_
  refine va_zast hx hb hK hP hD hS 2 1 rfl rfl (by unfold vp_in; decide) dX11_layDefaults_155 (fun H locs hP hD hS => ?_)
  generalize upd g100 (8 : Int32).toNatClampNeg (vp_nar .boolean 0) = g102 at hP hD
  have hP : va_P (dC, dI) vwCl [(m0, .inr (11, fm)), (mb, .inl (kmb, 23, .inl g84)), (md, .inl (kmd, 14, .inl g102))] H := hP
  have hD : va_D A [(m0, .inr (11, fm)), (mb, .inl (kmb, 23, .inl g84)), (md, .inl (kmd, 14, .inl g102))] := hD
  refine lv_iinc (v := 9) (lv' := [(1, .int 9), (0, .ref m0)]) hx hb dX11_layDefaults_156 hl (k := 0) rfl (by decide) (by decide) rfl (fun ls hl => ?_)
  refine lv_goto (tgt := 143) hx hb dX11_layDefaults_159 (by decide) ?_
  refine lv_iload_n hx hb dX11_layDefaults_143 rfl (lv_at hl 0 rfl) ?_
  refine lv_bipush (v := 14) hx hb dX11_layDefaults_144 (by decide) ?_
  refine lv_icmp_ge (tgt := 162) hx hb dX11_layDefaults_146 (by decide) (fun c103 => ?_) (fun c103 => ?_)
  · exact absurd c103 (by decide)
  refine lv_aload_n hx hb dX11_layDefaults_149 rfl (lv_at hl 1 rfl) ?_
  refine va_get (D := (dC, dI)) (ci := 11) (v := .ref md) (C := RX11) (T := TX11) (N := 114) hx hb ht inX11 hown hK hP 0 rfl rfl 69 (by decide) (ht _ kw_1496) (fun _ h9 => h9) hfm_69 dX11_layDefaults_150 ?_
  refine lv_iload_n hx hb dX11_layDefaults_153 rfl (lv_at hl 0 rfl) ?_
  refine lv_iconst (v := 0) hx hb dX11_layDefaults_154 (by decide) ?_
  refine va_zast hx hb hK hP hD hS 2 1 rfl rfl (by unfold vp_in; decide) dX11_layDefaults_155 (fun H locs hP hD hS => ?_)
  generalize upd g102 (9 : Int32).toNatClampNeg (vp_nar .boolean 0) = g104 at hP hD
  have hP : va_P (dC, dI) vwCl [(m0, .inr (11, fm)), (mb, .inl (kmb, 23, .inl g84)), (md, .inl (kmd, 14, .inl g104))] H := hP
  have hD : va_D A [(m0, .inr (11, fm)), (mb, .inl (kmb, 23, .inl g84)), (md, .inl (kmd, 14, .inl g104))] := hD
  refine lv_iinc (v := 10) (lv' := [(1, .int 10), (0, .ref m0)]) hx hb dX11_layDefaults_156 hl (k := 0) rfl (by decide) (by decide) rfl (fun ls hl => ?_)
  refine lv_goto (tgt := 143) hx hb dX11_layDefaults_159 (by decide) ?_
  refine lv_iload_n hx hb dX11_layDefaults_143 rfl (lv_at hl 0 rfl) ?_
  refine lv_bipush (v := 14) hx hb dX11_layDefaults_144 (by decide) ?_
  refine lv_icmp_ge (tgt := 162) hx hb dX11_layDefaults_146 (by decide) (fun c105 => ?_) (fun c105 => ?_)
  · exact absurd c105 (by decide)
  refine lv_aload_n hx hb dX11_layDefaults_149 rfl (lv_at hl 1 rfl) ?_
  refine va_get (D := (dC, dI)) (ci := 11) (v := .ref md) (C := RX11) (T := TX11) (N := 114) hx hb ht inX11 hown hK hP 0 rfl rfl 69 (by decide) (ht _ kw_1496) (fun _ h9 => h9) hfm_69 dX11_layDefaults_150 ?_
  refine lv_iload_n hx hb dX11_layDefaults_153 rfl (lv_at hl 0 rfl) ?_
  refine lv_iconst (v := 0) hx hb dX11_layDefaults_154 (by decide) ?_
  refine va_zast hx hb hK hP hD hS 2 1 rfl rfl (by unfold vp_in; decide) dX11_layDefaults_155 (fun H locs hP hD hS => ?_)
  generalize upd g104 (10 : Int32).toNatClampNeg (vp_nar .boolean 0) = g106 at hP hD
  have hP : va_P (dC, dI) vwCl [(m0, .inr (11, fm)), (mb, .inl (kmb, 23, .inl g84)), (md, .inl (kmd, 14, .inl g106))] H := hP
  have hD : va_D A [(m0, .inr (11, fm)), (mb, .inl (kmb, 23, .inl g84)), (md, .inl (kmd, 14, .inl g106))] := hD
  refine lv_iinc (v := 11) (lv' := [(1, .int 11), (0, .ref m0)]) hx hb dX11_layDefaults_156 hl (k := 0) rfl (by decide) (by decide) rfl (fun ls hl => ?_)
  refine lv_goto (tgt := 143) hx hb dX11_layDefaults_159 (by decide) ?_
  refine lv_iload_n hx hb dX11_layDefaults_143 rfl (lv_at hl 0 rfl) ?_
  refine lv_bipush (v := 14) hx hb dX11_layDefaults_144 (by decide) ?_
  refine lv_icmp_ge (tgt := 162) hx hb dX11_layDefaults_146 (by decide) (fun c107 => ?_) (fun c107 => ?_)
  · exact absurd c107 (by decide)
  refine lv_aload_n hx hb dX11_layDefaults_149 rfl (lv_at hl 1 rfl) ?_
  refine va_get (D := (dC, dI)) (ci := 11) (v := .ref md) (C := RX11) (T := TX11) (N := 114) hx hb ht inX11 hown hK hP 0 rfl rfl 69 (by decide) (ht _ kw_1496) (fun _ h9 => h9) hfm_69 dX11_layDefaults_150 ?_
  refine lv_iload_n hx hb dX11_layDefaults_153 rfl (lv_at hl 0 rfl) ?_
  refine lv_iconst (v := 0) hx hb dX11_layDefaults_154 (by decide) ?_
  refine va_zast hx hb hK hP hD hS 2 1 rfl rfl (by unfold vp_in; decide) dX11_layDefaults_155 (fun H locs hP hD hS => ?_)
  generalize upd g106 (11 : Int32).toNatClampNeg (vp_nar .boolean 0) = g108 at hP hD
  have hP : va_P (dC, dI) vwCl [(m0, .inr (11, fm)), (mb, .inl (kmb, 23, .inl g84)), (md, .inl (kmd, 14, .inl g108))] H := hP
  have hD : va_D A [(m0, .inr (11, fm)), (mb, .inl (kmb, 23, .inl g84)), (md, .inl (kmd, 14, .inl g108))] := hD
  refine lv_iinc (v := 12) (lv' := [(1, .int 12), (0, .ref m0)]) hx hb dX11_layDefaults_156 hl (k := 0) rfl (by decide) (by decide) rfl (fun ls hl => ?_)
  refine lv_goto (tgt := 143) hx hb dX11_layDefaults_159 (by decide) ?_
  refine lv_iload_n hx hb dX11_layDefaults_143 rfl (lv_at hl 0 rfl) ?_
  refine lv_bipush (v := 14) hx hb dX11_layDefaults_144 (by decide) ?_
  refine lv_icmp_ge (tgt := 162) hx hb dX11_layDefaults_146 (by decide) (fun c109 => ?_) (fun c109 => ?_)
  · exact absurd c109 (by decide)
  refine lv_aload_n hx hb dX11_layDefaults_149 rfl (lv_at hl 1 rfl) ?_
  refine va_get (D := (dC, dI)) (ci := 11) (v := .ref md) (C := RX11) (T := TX11) (N := 114) hx hb ht inX11 hown hK hP 0 rfl rfl 69 (by decide) (ht _ kw_1496) (fun _ h9 => h9) hfm_69 dX11_layDefaults_150 ?_
  refine lv_iload_n hx hb dX11_layDefaults_153 rfl (lv_at hl 0 rfl) ?_
  refine lv_iconst (v := 0) hx hb dX11_layDefaults_154 (by decide) ?_
  refine va_zast hx hb hK hP hD hS 2 1 rfl rfl (by unfold vp_in; decide) dX11_layDefaults_155 (fun H locs hP hD hS => ?_)
  generalize upd g108 (12 : Int32).toNatClampNeg (vp_nar .boolean 0) = g110 at hP hD
  have hP : va_P (dC, dI) vwCl [(m0, .inr (11, fm)), (mb, .inl (kmb, 23, .inl g84)), (md, .inl (kmd, 14, .inl g110))] H := hP
  have hD : va_D A [(m0, .inr (11, fm)), (mb, .inl (kmb, 23, .inl g84)), (md, .inl (kmd, 14, .inl g110))] := hD
  refine lv_iinc (v := 13) (lv' := [(1, .int 13), (0, .ref m0)]) hx hb dX11_layDefaults_156 hl (k := 0) rfl (by decide) (by decide) rfl (fun ls hl => ?_)
  refine lv_goto (tgt := 143) hx hb dX11_layDefaults_159 (by decide) ?_
  refine lv_iload_n hx hb dX11_layDefaults_143 rfl (lv_at hl 0 rfl) ?_
  refine lv_bipush (v := 14) hx hb dX11_layDefaults_144 (by decide) ?_
  refine lv_icmp_ge (tgt := 162) hx hb dX11_layDefaults_146 (by decide) (fun c111 => ?_) (fun c111 => ?_)
  · exact absurd c111 (by decide)
  refine lv_aload_n hx hb dX11_layDefaults_149 rfl (lv_at hl 1 rfl) ?_
  refine va_get (D := (dC, dI)) (ci := 11) (v := .ref md) (C := RX11) (T := TX11) (N := 114) hx hb ht inX11 hown hK hP 0 rfl rfl 69 (by decide) (ht _ kw_1496) (fun _ h9 => h9) hfm_69 dX11_layDefaults_150 ?_
  refine lv_iload_n hx hb dX11_layDefaults_153 rfl (lv_at hl 0 rfl) ?_
  refine lv_iconst (v := 0) hx hb dX11_layDefaults_154 (by decide) ?_
  refine va_zast hx hb hK hP hD hS 2 1 rfl rfl (by unfold vp_in; decide) dX11_layDefaults_155 (fun H locs hP hD hS => ?_)
  generalize upd g110 (13 : Int32).toNatClampNeg (vp_nar .boolean 0) = g112 at hP hD
  have hP : va_P (dC, dI) vwCl [(m0, .inr (11, fm)), (mb, .inl (kmb, 23, .inl g84)), (md, .inl (kmd, 14, .inl g112))] H := hP
  have hD : va_D A [(m0, .inr (11, fm)), (mb, .inl (kmb, 23, .inl g84)), (md, .inl (kmd, 14, .inl g112))] := hD
  refine lv_iinc (v := 14) (lv' := [(1, .int 14), (0, .ref m0)]) hx hb dX11_layDefaults_156 hl (k := 0) rfl (by decide) (by decide) rfl (fun ls hl => ?_)
  refine lv_goto (tgt := 143) hx hb dX11_layDefaults_159 (by decide) ?_
  refine lv_iload_n hx hb dX11_layDefaults_143 rfl (lv_at hl 0 rfl) ?_
  refine lv_bipush (v := 14) hx hb dX11_layDefaults_144 (by decide) ?_
  refine lv_icmp_ge (tgt := 162) hx hb dX11_layDefaults_146 (by decide) (fun c113 => ?_) (fun c113 => ?_)
  rotate_left
  · exact absurd (by decide) c113
  exact W.vret hx hb hr (fun t ht9 hW => ⟨⟨(), rfl, trivial, g84, g112, by rw [ht9]; exact hP, va_K.moved hW.alike hK, hD⟩, hS.F ht9⟩) hS.2.2 dX11_layDefaults_162
abbrev cX11_take : ByteArray := prog_13_method_11_code
def yX11_take : MethodName := ⟨RX11, "take", "()V"⟩
theorem dX11_take_0 : decode cX11_take 0 = .ok (.aload_n 0, 1) := by decide +kernel
theorem dX11_take_1 : decode cX11_take 1 = .ok (.getfield 265, 3) := by decide +kernel
theorem kw_1484 : Cond.fieldLink RX11 265 "SportsHouseModel" "at" "I" ∈ lw_g := lw_at 1484 (by decide +kernel) rfl
theorem dX11_take_4 : decode cX11_take 4 = .ok (.aload_n 0, 1) := by decide +kernel
theorem dX11_take_5 : decode cX11_take 5 = .ok (.getfield 252, 3) := by decide +kernel
theorem dX11_take_8 : decode cX11_take 8 = .ok (.if_icmp .ge 44, 3) := by decide +kernel
theorem dX11_take_52 : decode cX11_take 52 = .ok (.aload_n 0, 1) := by decide +kernel
theorem dX11_take_53 : decode cX11_take 53 = .ok (.aload_n 0, 1) := by decide +kernel
theorem dX11_take_54 : decode cX11_take 54 = .ok (.getfield 265, 3) := by decide +kernel
theorem dX11_take_57 : decode cX11_take 57 = .ok (.putfield 268, 3) := by decide +kernel
theorem kw_1486 : Cond.fieldLink RX11 268 "SportsHouseModel" "tFrom" "I" ∈ lw_g := lw_at 1486 (by decide +kernel) rfl
theorem dX11_take_60 : decode cX11_take 60 = .ok (.aload_n 0, 1) := by decide +kernel
theorem dX11_take_61 : decode cX11_take 61 = .ok (.aload_n 0, 1) := by decide +kernel
theorem dX11_take_62 : decode cX11_take 62 = .ok (.getfield 265, 3) := by decide +kernel
theorem dX11_take_65 : decode cX11_take 65 = .ok (.putfield 271, 3) := by decide +kernel
theorem kw_1487 : Cond.fieldLink RX11 271 "SportsHouseModel" "tTo" "I" ∈ lw_g := lw_at 1487 (by decide +kernel) rfl
theorem dX11_take_68 : decode cX11_take 68 = .ok (.aload_n 0, 1) := by decide +kernel
theorem dX11_take_69 : decode cX11_take 69 = .ok (.iconst 0, 1) := by decide +kernel
theorem dX11_take_70 : decode cX11_take 70 = .ok (.putfield 274, 3) := by decide +kernel
theorem kw_1485 : Cond.fieldLink RX11 274 "SportsHouseModel" "tKind" "I" ∈ lw_g := lw_at 1485 (by decide +kernel) rfl
theorem dX11_take_73 : decode cX11_take 73 = .ok (.aload_n 0, 1) := by decide +kernel
theorem dX11_take_74 : decode cX11_take 74 = .ok (.getfield 265, 3) := by decide +kernel
theorem dX11_take_77 : decode cX11_take 77 = .ok (.aload_n 0, 1) := by decide +kernel
theorem dX11_take_78 : decode cX11_take 78 = .ok (.getfield 252, 3) := by decide +kernel
theorem dX11_take_81 : decode cX11_take 81 = .ok (.if_icmp .ne 4, 3) := by decide +kernel
theorem dX11_take_84 : decode cX11_take 84 = .ok (.return_, 1) := by decide +kernel
set_option maxHeartbeats 4000000 in
set_option maxRecDepth 100000 in
theorem ct_X11_take (l : Launch) (dC : Nat → ClassId) (dI : Nat → Nat → Nat) (m0 : Nat) (fm : List Value) (hn_fm : fm.length = 114) (hfm_1 : fm[1]? = some (.int 0)) (hfm_57 : fm[57]? = some (.int 0)) (sz : Nat)  : Met l yX11_take (.code yX11_take cX11_take 2 none :: lw_g) ({ frames := 1, cells := 0, slots := 0, locals := 60 }) (ro_P dC dI [(m0, .inr (11, fm))] [] sz [.ref m0]) (va_Qv (fun (_ : Unit) => True) (fun _ t => va_P (dC, dI) vwCl [(m0, .inr (11, (((fm.set 59 (.int 0)).set 60 (.int 0)).set 58 (.int 0))))] t.heap ∧ va_K (dC, dI) vwCl [] t ∧ va_D (va_A [(m0, .inr (11, fm))] sz) [(m0, .inr (11, (((fm.set 59 (.int 0)).set 60 (.int 0)).set 58 (.int 0))))]) (va_A [(m0, .inr (11, fm))] sz)) 0 0 (va_A [(m0, .inr (11, fm))] sz) := by
  refine ro_entry (by decide) (Nat.le_of_ble_eq_true rfl) ?_
  intro p e s m below meth c ls hx hb hr hlocks ht hown hin hml hsz hP hK hD hE hl
  subst hsz
  have hD := hD.self (sz := s.heap.size)
  generalize hAe : va_A [(m0, .inr (11, fm))] s.heap.size = A at hD ⊢
  have hA : ∀ q, s.heap.size ≤ q → A q := fun q h => by rw [← hAe]; exact Or.inr h
  have hS : va_S A s.heap s.heap [] := va_S.rf
  have hl : lv_has ls 2 [(0, .ref m0)] := hl
  have hown : s.vm.findClass RX11 = some m.cls := hown
  refine lv_aload_n hx hb dX11_take_0 rfl (lv_at hl 0 rfl) ?_
  refine va_get (D := (dC, dI)) (ci := 11) (v := .int 0) (C := RX11) (T := TX11) (N := 114) hx hb ht inX11 hown hK hP 0 rfl rfl 57 (by decide) (ht _ kw_1484) (fun _ h9 => h9) hfm_57 dX11_take_1 ?_
  refine lv_aload_n hx hb dX11_take_4 rfl (lv_at hl 0 rfl) ?_
  refine va_get (D := (dC, dI)) (ci := 11) (v := .int 0) (C := RX11) (T := TX11) (N := 114) hx hb ht inX11 hown hK hP 0 rfl rfl 1 (by decide) (ht _ kw_1428) (fun _ h9 => h9) hfm_1 dX11_take_5 ?_
  refine lv_icmp_ge (tgt := 52) hx hb dX11_take_8 (by decide) (fun c1 => ?_) (fun c1 => ?_)
  rotate_left
  · exact absurd (by decide) c1
  refine lv_aload_n hx hb dX11_take_52 rfl (lv_at hl 0 rfl) ?_
  refine lv_aload_n hx hb dX11_take_53 rfl (lv_at hl 0 rfl) ?_
  refine va_get (D := (dC, dI)) (ci := 11) (v := .int 0) (C := RX11) (T := TX11) (N := 114) hx hb ht inX11 hown hK hP 0 rfl rfl 57 (by decide) (ht _ kw_1484) (fun _ h9 => h9) hfm_57 dX11_take_54 ?_
  refine va_put (D := (dC, dI)) (ci := 11) (v := .int 0) (ty := .int) (C := RX11) (T := TX11) (N := 114) hx hb ht inX11 tyX11 tyX11_ok nmX11 hown hK hP hD hS 0 rfl rfl 59 (by decide) (ht _ kw_1486) (fun _ h9 => h9) rfl (by decide +kernel) rfl rfl (gs_lt hn_fm (by decide)) dX11_take_57 (fun H locs hP hD hS => ?_)
  have hP : va_P (dC, dI) vwCl [(m0, .inr (11, (fm.set 59 (.int 0))))] H := hP
  have hD : va_D A [(m0, .inr (11, (fm.set 59 (.int 0))))] := hD
  refine lv_aload_n hx hb dX11_take_60 rfl (lv_at hl 0 rfl) ?_
  refine lv_aload_n hx hb dX11_take_61 rfl (lv_at hl 0 rfl) ?_
  refine va_get (D := (dC, dI)) (ci := 11) (v := .int 0) (C := RX11) (T := TX11) (N := 114) hx hb ht inX11 hown hK hP 0 rfl rfl 57 (by decide) (ht _ kw_1484) (fun _ h9 => h9) (gs_ne (by decide) hfm_57) dX11_take_62 ?_
  refine va_put (D := (dC, dI)) (ci := 11) (v := .int 0) (ty := .int) (C := RX11) (T := TX11) (N := 114) hx hb ht inX11 tyX11 tyX11_ok nmX11 hown hK hP hD hS 0 rfl rfl 60 (by decide) (ht _ kw_1487) (fun _ h9 => h9) rfl (by decide +kernel) rfl rfl (gs_lt (gs_len hn_fm) (by decide)) dX11_take_65 (fun H locs hP hD hS => ?_)
  have hP : va_P (dC, dI) vwCl [(m0, .inr (11, ((fm.set 59 (.int 0)).set 60 (.int 0))))] H := hP
  have hD : va_D A [(m0, .inr (11, ((fm.set 59 (.int 0)).set 60 (.int 0))))] := hD
  refine lv_aload_n hx hb dX11_take_68 rfl (lv_at hl 0 rfl) ?_
  refine lv_iconst (v := 0) hx hb dX11_take_69 (by decide) ?_
  refine va_put (D := (dC, dI)) (ci := 11) (v := .int 0) (ty := .int) (C := RX11) (T := TX11) (N := 114) hx hb ht inX11 tyX11 tyX11_ok nmX11 hown hK hP hD hS 0 rfl rfl 58 (by decide) (ht _ kw_1485) (fun _ h9 => h9) rfl (by decide +kernel) rfl rfl (gs_lt (gs_len (gs_len hn_fm)) (by decide)) dX11_take_70 (fun H locs hP hD hS => ?_)
  have hP : va_P (dC, dI) vwCl [(m0, .inr (11, (((fm.set 59 (.int 0)).set 60 (.int 0)).set 58 (.int 0))))] H := hP
  have hD : va_D A [(m0, .inr (11, (((fm.set 59 (.int 0)).set 60 (.int 0)).set 58 (.int 0))))] := hD
  refine lv_aload_n hx hb dX11_take_73 rfl (lv_at hl 0 rfl) ?_
  refine va_get (D := (dC, dI)) (ci := 11) (v := .int 0) (C := RX11) (T := TX11) (N := 114) hx hb ht inX11 hown hK hP 0 rfl rfl 57 (by decide) (ht _ kw_1484) (fun _ h9 => h9) (gs_ne (by decide) (gs_ne (by decide) (gs_ne (by decide) hfm_57))) dX11_take_74 ?_
  refine lv_aload_n hx hb dX11_take_77 rfl (lv_at hl 0 rfl) ?_
  refine va_get (D := (dC, dI)) (ci := 11) (v := .int 0) (C := RX11) (T := TX11) (N := 114) hx hb ht inX11 hown hK hP 0 rfl rfl 1 (by decide) (ht _ kw_1428) (fun _ h9 => h9) (gs_ne (by decide) (gs_ne (by decide) (gs_ne (by decide) hfm_1))) dX11_take_78 ?_
  refine lv_icmp_ne (tgt := 85) hx hb dX11_take_81 (by decide) (fun c2 => ?_) (fun c2 => ?_)
  · exact absurd (by decide) c2
  exact W.vret hx hb hr (fun t ht9 hW => ⟨⟨(), rfl, trivial, by rw [ht9]; exact hP, va_K.moved hW.alike hK, hD⟩, hS.F ht9⟩) hS.2.2 dX11_take_84
abbrev cX11_competition : ByteArray := prog_13_method_18_code
def yX11_competition : MethodName := ⟨RX11, "competition", "()I"⟩
theorem dX11_competition_0 : decode cX11_competition 0 = .ok (.aload_n 0, 1) := by decide +kernel
theorem dX11_competition_1 : decode cX11_competition 1 = .ok (.getfield 308, 3) := by decide +kernel
theorem dX11_competition_4 : decode cX11_competition 4 = .ok (.iconst 4, 1) := by decide +kernel
theorem dX11_competition_5 : decode cX11_competition 5 = .ok (.if_icmp .ne 11, 3) := by decide +kernel
theorem dX11_competition_16 : decode cX11_competition 16 = .ok (.aload_n 0, 1) := by decide +kernel
theorem dX11_competition_17 : decode cX11_competition 17 = .ok (.iconst 0, 1) := by decide +kernel
theorem dX11_competition_18 : decode cX11_competition 18 = .ok (.putfield 265, 3) := by decide +kernel
theorem dX11_competition_21 : decode cX11_competition 21 = .ok (.aload_n 0, 1) := by decide +kernel
theorem dX11_competition_22 : decode cX11_competition 22 = .ok (.iconst 0, 1) := by decide +kernel
theorem dX11_competition_23 : decode cX11_competition 23 = .ok (.putfield 259, 3) := by decide +kernel
theorem kw_1489 : Cond.fieldLink RX11 259 "SportsHouseModel" "badNumber" "I" ∈ lw_g := lw_at 1489 (by decide +kernel) rfl
theorem dX11_competition_26 : decode cX11_competition 26 = .ok (.aload_n 0, 1) := by decide +kernel
theorem dX11_competition_27 : decode cX11_competition 27 = .ok (.iconst (-1), 1) := by decide +kernel
theorem dX11_competition_28 : decode cX11_competition 28 = .ok (.putfield 262, 3) := by decide +kernel
theorem kw_1490 : Cond.fieldLink RX11 262 "SportsHouseModel" "badAt" "I" ∈ lw_g := lw_at 1490 (by decide +kernel) rfl
theorem dX11_competition_31 : decode cX11_competition 31 = .ok (.aload_n 0, 1) := by decide +kernel
theorem dX11_competition_32 : decode cX11_competition 32 = .ok (.invokevirtual 311, 3) := by decide +kernel
theorem kw_1786 : Cond.methodLink RX11 311 yX11_layDefaults ∈ lw_g := lw_at 1786 (by decide +kernel) rfl
theorem kw_1788 : Cond.instanceMethod yX11_layDefaults ∈ lw_g := lw_at 1788 (by decide +kernel) rfl
theorem ks_X11_layDefaults : Cond.selects RX11 yX11_layDefaults yX11_layDefaults ∈ lw_g := lw_sel 7 rfl
theorem kw_1789 : Cond.code yX11_layDefaults cX11_layDefaults 2 none ∈ lw_g := lw_at 1789 (by decide +kernel) rfl
theorem gv_X11_311 : GoodIn lw_g (wsV RX11 311 RX11 yX11_layDefaults (.code yX11_layDefaults cX11_layDefaults 2 none :: lw_g)) := gi_V kw_1786 kw_1788 ks_X11_layDefaults kw_10 kw_1789
theorem dX11_competition_35 : decode cX11_competition 35 = .ok (.iconst 1, 1) := by decide +kernel
theorem dX11_competition_36 : decode cX11_competition 36 = .ok (.istore_n 1, 1) := by decide +kernel
theorem dX11_competition_37 : decode cX11_competition 37 = .ok (.iload_n 1, 1) := by decide +kernel
theorem dX11_competition_38 : decode cX11_competition 38 = .ok (.ifCond .eq 45, 3) := by decide +kernel
theorem dX11_competition_41 : decode cX11_competition 41 = .ok (.aload_n 0, 1) := by decide +kernel
theorem dX11_competition_42 : decode cX11_competition 42 = .ok (.getfield 259, 3) := by decide +kernel
theorem dX11_competition_45 : decode cX11_competition 45 = .ok (.ifCond .ne 38, 3) := by decide +kernel
theorem dX11_competition_48 : decode cX11_competition 48 = .ok (.aload_n 0, 1) := by decide +kernel
theorem dX11_competition_49 : decode cX11_competition 49 = .ok (.invokevirtual 291, 3) := by decide +kernel
theorem kw_1790 : Cond.methodLink RX11 291 yX11_take ∈ lw_g := lw_at 1790 (by decide +kernel) rfl
theorem kw_1792 : Cond.instanceMethod yX11_take ∈ lw_g := lw_at 1792 (by decide +kernel) rfl
theorem ks_X11_take : Cond.selects RX11 yX11_take yX11_take ∈ lw_g := lw_sel 8 rfl
theorem kw_1793 : Cond.code yX11_take cX11_take 2 none ∈ lw_g := lw_at 1793 (by decide +kernel) rfl
theorem gv_X11_291 : GoodIn lw_g (wsV RX11 291 RX11 yX11_take (.code yX11_take cX11_take 2 none :: lw_g)) := gi_V kw_1790 kw_1792 ks_X11_take kw_10 kw_1793
theorem dX11_competition_52 : decode cX11_competition 52 = .ok (.aload_n 0, 1) := by decide +kernel
theorem dX11_competition_53 : decode cX11_competition 53 = .ok (.getfield 259, 3) := by decide +kernel
theorem dX11_competition_56 : decode cX11_competition 56 = .ok (.ifCond .ne 14, 3) := by decide +kernel
theorem dX11_competition_59 : decode cX11_competition 59 = .ok (.aload_n 0, 1) := by decide +kernel
theorem dX11_competition_60 : decode cX11_competition 60 = .ok (.getfield 274, 3) := by decide +kernel
theorem dX11_competition_63 : decode cX11_competition 63 = .ok (.ifCond .eq 7, 3) := by decide +kernel
theorem dX11_competition_70 : decode cX11_competition 70 = .ok (.iconst 0, 1) := by decide +kernel
theorem dX11_competition_71 : decode cX11_competition 71 = .ok (.istore_n 1, 1) := by decide +kernel
theorem dX11_competition_72 : decode cX11_competition 72 = .ok (.iload_n 1, 1) := by decide +kernel
theorem dX11_competition_73 : decode cX11_competition 73 = .ok (.ifCond .eq (-36), 3) := by decide +kernel
theorem dX11_competition_83 : decode cX11_competition 83 = .ok (.aload_n 0, 1) := by decide +kernel
theorem dX11_competition_84 : decode cX11_competition 84 = .ok (.iconst 0, 1) := by decide +kernel
theorem dX11_competition_85 : decode cX11_competition 85 = .ok (.putfield 252, 3) := by decide +kernel
theorem dX11_competition_88 : decode cX11_competition 88 = .ok (.aload_n 0, 1) := by decide +kernel
theorem dX11_competition_89 : decode cX11_competition 89 = .ok (.aload_n 0, 1) := by decide +kernel
theorem dX11_competition_90 : decode cX11_competition 90 = .ok (.getfield 262, 3) := by decide +kernel
theorem dX11_competition_93 : decode cX11_competition 93 = .ok (.putfield 13, 3) := by decide +kernel
theorem dX11_competition_96 : decode cX11_competition 96 = .ok (.aload_n 0, 1) := by decide +kernel
theorem dX11_competition_97 : decode cX11_competition 97 = .ok (.getfield 259, 3) := by decide +kernel
theorem dX11_competition_100 : decode cX11_competition 100 = .ok (.ifCond .eq 11, 3) := by decide +kernel
theorem dX11_competition_111 : decode cX11_competition 111 = .ok (.iconst 0, 1) := by decide +kernel
theorem dX11_competition_112 : decode cX11_competition 112 = .ok (.istore_n 2, 1) := by decide +kernel
theorem dX11_competition_113 : decode cX11_competition 113 = .ok (.iload_n 2, 1) := by decide +kernel
theorem dX11_competition_114 : decode cX11_competition 114 = .ok (.bipush 23, 2) := by decide +kernel
theorem dX11_competition_116 : decode cX11_competition 116 = .ok (.if_icmp .ge 29, 3) := by decide +kernel
theorem dX11_competition_119 : decode cX11_competition 119 = .ok (.aload_n 0, 1) := by decide +kernel
theorem dX11_competition_120 : decode cX11_competition 120 = .ok (.getfield 20, 3) := by decide +kernel
theorem dX11_competition_123 : decode cX11_competition 123 = .ok (.bipush 23, 2) := by decide +kernel
theorem dX11_competition_125 : decode cX11_competition 125 = .ok (.aload_n 0, 1) := by decide +kernel
theorem dX11_competition_126 : decode cX11_competition 126 = .ok (.getfield 308, 3) := by decide +kernel
theorem dX11_competition_129 : decode cX11_competition 129 = .ok (.imul, 1) := by decide +kernel
theorem dX11_competition_130 : decode cX11_competition 130 = .ok (.iload_n 2, 1) := by decide +kernel
theorem dX11_competition_131 : decode cX11_competition 131 = .ok (.iadd, 1) := by decide +kernel
theorem dX11_competition_132 : decode cX11_competition 132 = .ok (.aload_n 0, 1) := by decide +kernel
theorem dX11_competition_133 : decode cX11_competition 133 = .ok (.getfield 17, 3) := by decide +kernel
theorem dX11_competition_136 : decode cX11_competition 136 = .ok (.iload_n 2, 1) := by decide +kernel
theorem dX11_competition_137 : decode cX11_competition 137 = .ok (.iaload, 1) := by decide +kernel
theorem dX11_competition_138 : decode cX11_competition 138 = .ok (.iastore, 1) := by decide +kernel
theorem dX11_competition_139 : decode cX11_competition 139 = .ok (.iinc 2 1, 3) := by decide +kernel
theorem dX11_competition_142 : decode cX11_competition 142 = .ok (.goto (-29), 3) := by decide +kernel
theorem dX11_competition_145 : decode cX11_competition 145 = .ok (.aload_n 0, 1) := by decide +kernel
theorem dX11_competition_146 : decode cX11_competition 146 = .ok (.dup, 1) := by decide +kernel
theorem dX11_competition_147 : decode cX11_competition 147 = .ok (.getfield 308, 3) := by decide +kernel
theorem dX11_competition_150 : decode cX11_competition 150 = .ok (.iconst 1, 1) := by decide +kernel
theorem dX11_competition_151 : decode cX11_competition 151 = .ok (.iadd, 1) := by decide +kernel
theorem dX11_competition_152 : decode cX11_competition 152 = .ok (.putfield 308, 3) := by decide +kernel
theorem dX11_competition_155 : decode cX11_competition 155 = .ok (.aload_n 0, 1) := by decide +kernel
theorem dX11_competition_156 : decode cX11_competition 156 = .ok (.getfield 308, 3) := by decide +kernel
theorem dX11_competition_159 : decode cX11_competition 159 = .ok (.iconst 1, 1) := by decide +kernel
theorem dX11_competition_160 : decode cX11_competition 160 = .ok (.isub, 1) := by decide +kernel
theorem dX11_competition_161 : decode cX11_competition 161 = .ok (.ireturn, 1) := by decide +kernel
set_option maxHeartbeats 4000000 in
set_option maxRecDepth 100000 in
theorem ct_X11_competition (l : Launch) (dC : Nat → ClassId) (dI : Nat → Nat → Nat) (m0 : Nat) (mb : Nat) (mc : Nat) (md : Nat) (fm : List Value) (kmb : ClassId) (gmb : Nat → Int32) (kmc : ClassId) (gmc : Nat → Int32) (kmd : ClassId) (gmd : Nat → Int32) (hn_fm : fm.length = 114) (hfm_1 : fm[1]? = some (.int 0)) (hfm_4 : fm[4]? = some (.ref mb)) (hfm_5 : fm[5]? = some (.ref mc)) (hfm_6 : fm[6]? = some (.int 0)) (hfm_57 : fm[57]? = some (.int 0)) (hfm_58 : fm[58]? = some (.int 0)) (hfm_62 : fm[62]? = some (.int 0)) (hfm_63 : fm[63]? = some (.int 0)) (hfm_69 : fm[69]? = some (.ref md)) (sz : Nat)  : Met l yX11_competition (.code yX11_competition cX11_competition 3 (some .int) :: lw_g) ({ frames := 2, cells := 0, slots := 0, locals := 120 }) (ro_P dC dI [(m0, .inr (11, fm)), (mb, .inl (kmb, 23, .inl gmb)), (mc, .inl (kmc, 92, .inl gmc)), (md, .inl (kmd, 14, .inl gmd))] [(kmb, .int), (kmc, .int), (kmd, .boolean)] sz [.ref m0]) (ri_Q 0 (va_A [(m0, .inr (11, fm)), (mb, .inl (kmb, 23, .inl gmb)), (mc, .inl (kmc, 92, .inl gmc)), (md, .inl (kmd, 14, .inl gmd))] sz)) 0 0 (va_A [(m0, .inr (11, fm)), (mb, .inl (kmb, 23, .inl gmb)), (mc, .inl (kmc, 92, .inl gmc)), (md, .inl (kmd, 14, .inl gmd))] sz) := by
  refine ro_entry (by decide) (Nat.le_of_ble_eq_true rfl) ?_
  intro p e s m below meth c ls hx hb hr hlocks ht hown hin hml hsz hP hK hD hE hl
  subst hsz
  have hD := hD.self (sz := s.heap.size)
  generalize hAe : va_A [(m0, .inr (11, fm)), (mb, .inl (kmb, 23, .inl gmb)), (mc, .inl (kmc, 92, .inl gmc)), (md, .inl (kmd, 14, .inl gmd))] s.heap.size = A at hD ⊢
  have hA : ∀ q, s.heap.size ≤ q → A q := fun q h => by rw [← hAe]; exact Or.inr h
  have hS : va_S A s.heap s.heap [] := va_S.rf
  have hl : lv_has ls 3 [(0, .ref m0)] := hl
  have hown : s.vm.findClass RX11 = some m.cls := hown
  refine lv_aload_n hx hb dX11_competition_0 rfl (lv_at hl 0 rfl) ?_
  refine va_get (D := (dC, dI)) (ci := 11) (v := .int 0) (C := RX11) (T := TX11) (N := 114) hx hb ht inX11 hown hK hP 0 rfl rfl 6 (by decide) (ht _ kw_1433) (fun _ h9 => h9) hfm_6 dX11_competition_1 ?_
  refine lv_iconst (v := 4) hx hb dX11_competition_4 (by decide) ?_
  refine lv_icmp_ne (tgt := 16) hx hb dX11_competition_5 (by decide) (fun c1 => ?_) (fun c1 => ?_)
  rotate_left
  · exact absurd c1 (by decide)
  refine lv_aload_n hx hb dX11_competition_16 rfl (lv_at hl 0 rfl) ?_
  refine lv_iconst (v := 0) hx hb dX11_competition_17 (by decide) ?_
  refine va_put (D := (dC, dI)) (ci := 11) (v := .int 0) (ty := .int) (C := RX11) (T := TX11) (N := 114) hx hb ht inX11 tyX11 tyX11_ok nmX11 hown hK hP hD hS 0 rfl rfl 57 (by decide) (ht _ kw_1484) (fun _ h9 => h9) rfl (by decide +kernel) rfl rfl (gs_lt hn_fm (by decide)) dX11_competition_18 (fun H locs hP hD hS => ?_)
  have hP : va_P (dC, dI) vwCl [(m0, .inr (11, (fm.set 57 (.int 0)))), (mb, .inl (kmb, 23, .inl gmb)), (mc, .inl (kmc, 92, .inl gmc)), (md, .inl (kmd, 14, .inl gmd))] H := hP
  have hD : va_D A [(m0, .inr (11, (fm.set 57 (.int 0)))), (mb, .inl (kmb, 23, .inl gmb)), (mc, .inl (kmc, 92, .inl gmc)), (md, .inl (kmd, 14, .inl gmd))] := hD
  refine lv_aload_n hx hb dX11_competition_21 rfl (lv_at hl 0 rfl) ?_
  refine lv_iconst (v := 0) hx hb dX11_competition_22 (by decide) ?_
  refine va_put (D := (dC, dI)) (ci := 11) (v := .int 0) (ty := .int) (C := RX11) (T := TX11) (N := 114) hx hb ht inX11 tyX11 tyX11_ok nmX11 hown hK hP hD hS 0 rfl rfl 62 (by decide) (ht _ kw_1489) (fun _ h9 => h9) rfl (by decide +kernel) rfl rfl (gs_lt (gs_len hn_fm) (by decide)) dX11_competition_23 (fun H locs hP hD hS => ?_)
  have hP : va_P (dC, dI) vwCl [(m0, .inr (11, ((fm.set 57 (.int 0)).set 62 (.int 0)))), (mb, .inl (kmb, 23, .inl gmb)), (mc, .inl (kmc, 92, .inl gmc)), (md, .inl (kmd, 14, .inl gmd))] H := hP
  have hD : va_D A [(m0, .inr (11, ((fm.set 57 (.int 0)).set 62 (.int 0)))), (mb, .inl (kmb, 23, .inl gmb)), (mc, .inl (kmc, 92, .inl gmc)), (md, .inl (kmd, 14, .inl gmd))] := hD
  refine lv_aload_n hx hb dX11_competition_26 rfl (lv_at hl 0 rfl) ?_
  refine lv_iconst (v := (-1)) hx hb dX11_competition_27 (by decide) ?_
  refine va_put (D := (dC, dI)) (ci := 11) (v := .int (-1)) (ty := .int) (C := RX11) (T := TX11) (N := 114) hx hb ht inX11 tyX11 tyX11_ok nmX11 hown hK hP hD hS 0 rfl rfl 63 (by decide) (ht _ kw_1490) (fun _ h9 => h9) rfl (by decide +kernel) rfl rfl (gs_lt (gs_len (gs_len hn_fm)) (by decide)) dX11_competition_28 (fun H locs hP hD hS => ?_)
  have hP : va_P (dC, dI) vwCl [(m0, .inr (11, (((fm.set 57 (.int 0)).set 62 (.int 0)).set 63 (.int (-1))))), (mb, .inl (kmb, 23, .inl gmb)), (mc, .inl (kmc, 92, .inl gmc)), (md, .inl (kmd, 14, .inl gmd))] H := hP
  have hD : va_D A [(m0, .inr (11, (((fm.set 57 (.int 0)).set 62 (.int 0)).set 63 (.int (-1))))), (mb, .inl (kmb, 23, .inl gmb)), (mc, .inl (kmc, 92, .inl gmc)), (md, .inl (kmd, 14, .inl gmd))] := hD
  refine lv_aload_n hx hb dX11_competition_31 rfl (lv_at hl 0 rfl) ?_
  have hPc := hP.sub (ws' := [(m0, .inr (11, (((fm.set 57 (.int 0)).set 62 (.int 0)).set 63 (.int (-1))))), (mb, .inl (kmb, 23, .inl gmb)), (md, .inl (kmd, 14, .inl gmd))]) [0, 1, 3] rfl
  have hDc := hD.sub (ws' := [(m0, .inr (11, (((fm.set 57 (.int 0)).set 62 (.int 0)).set 63 (.int (-1))))), (mb, .inl (kmb, 23, .inl gmb)), (md, .inl (kmd, 14, .inl gmd))]) [0, 1, 3] (by decide) rfl
  have hKc := hK.sub (tys' := [(kmb, .int), (kmd, .boolean)]) [0, 2] rfl
  have hFc := va_free (wc := [(m0, .inr (11, (((fm.set 57 (.int 0)).set 62 (.int 0)).set 63 (.int (-1))))), (mb, .inl (kmb, 23, .inl gmb)), (md, .inl (kmd, 14, .inl gmd))]) hD hS hA [0, 1, 3] rfl
  refine va_callv (va_runV (As := []) (rest := []) ⟨hx, hb, hml, hown, ht⟩ (ct_X11_layDefaults l dC dI m0 mb md ((((fm.set 57 (.int 0)).set 62 (.int 0)).set 63 (.int (-1)))) kmb gmb kmd gmd (gs_ne (by decide) (gs_ne (by decide) (gs_ne (by decide) hfm_4))) (gs_ne (by decide) (gs_ne (by decide) (gs_ne (by decide) hfm_69))) _ ) (cwV 0 ht gv_X11_311 rfl rfl rfl (by decide +kernel) ⟨Nat.le_of_ble_eq_true rfl, Nat.le_of_ble_eq_true rfl⟩) ⟨ro_blind, va_recv hKc hPc (ci := 11) (q0 := 0) rfl rfl, fun U hU hW => ⟨rfl, by rw [hU], by rw [hU]; exact hPc, va_K.moved hW.alike hKc, hDc.weaken (fun _ _ _ _ => trivial), ex_warm hW hE⟩⟩ rfl rfl hl.1 rfl (lv_room (Nat.le_of_ble_eq_true rfl)) dX11_competition_32 ⟨Nat.le_of_ble_eq_true rfl, Nat.le_of_ble_eq_true rfl⟩) hS (fun q _ h => hFc q h) hFc (fun u t H1 locs ht1 hvm hw hB hz1 hk1 hS => ?_)
  obtain ⟨g2, g3, hP1, hK1, hD1⟩ := hB
  rw [ht1] at hP1
  obtain ⟨hP, hD⟩ := va_join (wr := [(mc, .inl (kmc, 92, .inl gmc))]) (w1 := [(m0, .inr (11, (((fm.set 57 (.int 0)).set 62 (.int 0)).set 63 (.int (-1))))), (mb, .inl (kmb, 23, .inl g2)), (md, .inl (kmd, 14, .inl g3))]) hP hD [0, 1, 3] [2] rfl rfl (by decide) (by decide) hk1 hFc hP1 hD1
  generalize H1 = H at hP hS ⊢
  have hP : va_P (dC, dI) vwCl [(mc, .inl (kmc, 92, .inl gmc)), (m0, .inr (11, (((fm.set 57 (.int 0)).set 62 (.int 0)).set 63 (.int (-1))))), (mb, .inl (kmb, 23, .inl g2)), (md, .inl (kmd, 14, .inl g3))] H := hP
  have hD : va_D A [(mc, .inl (kmc, 92, .inl gmc)), (m0, .inr (11, (((fm.set 57 (.int 0)).set 62 (.int 0)).set 63 (.int (-1))))), (mb, .inl (kmb, 23, .inl g2)), (md, .inl (kmd, 14, .inl g3))] := hD
  refine lv_iconst (v := 1) hx hb dX11_competition_35 (by decide) ?_
  refine lv_istore_n (lv' := [(1, .int 1), (0, .ref m0)]) hx hb dX11_competition_36 rfl hl (by decide) rfl (fun ls hl => ?_)
  refine lv_iload_n hx hb dX11_competition_37 rfl (lv_at hl 0 rfl) ?_
  refine lv_if_eq (tgt := 83) hx hb dX11_competition_38 (by decide) (fun c4 => ?_) (fun c4 => ?_)
  · exact absurd c4 (by decide)
  refine lv_aload_n hx hb dX11_competition_41 rfl (lv_at hl 1 rfl) ?_
  refine va_get (D := (dC, dI)) (ci := 11) (v := .int 0) (C := RX11) (T := TX11) (N := 114) hx hb ht inX11 hown hK hP 1 rfl rfl 62 (by decide) (ht _ kw_1489) (fun _ h9 => h9) (gs_ne (by decide) (gs_eq (gs_lt (gs_len hn_fm) (by decide)))) dX11_competition_42 ?_
  refine lv_if_ne (tgt := 83) hx hb dX11_competition_45 (by decide) (fun c5 => ?_) (fun c5 => ?_)
  · exact absurd (by decide) c5
  refine lv_aload_n hx hb dX11_competition_48 rfl (lv_at hl 1 rfl) ?_
  have hPc := hP.sub (ws' := [(m0, .inr (11, (((fm.set 57 (.int 0)).set 62 (.int 0)).set 63 (.int (-1)))))]) [1] rfl
  have hDc := hD.sub (ws' := [(m0, .inr (11, (((fm.set 57 (.int 0)).set 62 (.int 0)).set 63 (.int (-1)))))]) [1] (by decide) rfl
  have hKc := hK.sub (tys' := []) [] rfl
  have hFc := va_free (wc := [(m0, .inr (11, (((fm.set 57 (.int 0)).set 62 (.int 0)).set 63 (.int (-1)))))]) hD hS hA [1] rfl
  refine va_callv (va_runV (As := []) (rest := []) ⟨hx, hb, hml, hown, ht⟩ (ct_X11_take l dC dI m0 ((((fm.set 57 (.int 0)).set 62 (.int 0)).set 63 (.int (-1)))) (gs_len (gs_len (gs_len hn_fm))) (gs_ne (by decide) (gs_ne (by decide) (gs_ne (by decide) hfm_1))) (gs_ne (by decide) (gs_ne (by decide) (gs_eq (gs_lt hn_fm (by decide))))) _ ) (cwV 0 ht gv_X11_291 rfl rfl rfl (by decide +kernel) ⟨Nat.le_of_ble_eq_true rfl, Nat.le_of_ble_eq_true rfl⟩) ⟨ro_blind, va_recv hKc hPc (ci := 11) (q0 := 0) rfl rfl, fun U hU hW => ⟨rfl, by rw [hU], by rw [hU]; exact hPc, va_K.moved hW.alike hKc, hDc.weaken (fun _ _ _ _ => trivial), ex_warm hW hE⟩⟩ rfl rfl hl.1 rfl (lv_room (Nat.le_of_ble_eq_true rfl)) dX11_competition_49 ⟨Nat.le_of_ble_eq_true rfl, Nat.le_of_ble_eq_true rfl⟩) hS (fun q _ h => hFc q h) hFc (fun u t H1 locs ht1 hvm hw hB hz1 hk1 hS => ?_)
  obtain ⟨hP1, hK1, hD1⟩ := hB
  rw [ht1] at hP1
  obtain ⟨hP, hD⟩ := va_join (wr := [(mc, .inl (kmc, 92, .inl gmc)), (mb, .inl (kmb, 23, .inl g2)), (md, .inl (kmd, 14, .inl g3))]) (w1 := [(m0, .inr (11, ((((((fm.set 57 (.int 0)).set 62 (.int 0)).set 63 (.int (-1))).set 59 (.int 0)).set 60 (.int 0)).set 58 (.int 0))))]) hP hD [1] [0, 2, 3] rfl rfl (by decide) (by decide) hk1 hFc hP1 hD1
  generalize H1 = H at hP hS ⊢
  have hP : va_P (dC, dI) vwCl [(mc, .inl (kmc, 92, .inl gmc)), (mb, .inl (kmb, 23, .inl g2)), (md, .inl (kmd, 14, .inl g3)), (m0, .inr (11, ((((((fm.set 57 (.int 0)).set 62 (.int 0)).set 63 (.int (-1))).set 59 (.int 0)).set 60 (.int 0)).set 58 (.int 0))))] H := hP
  have hD : va_D A [(mc, .inl (kmc, 92, .inl gmc)), (mb, .inl (kmb, 23, .inl g2)), (md, .inl (kmd, 14, .inl g3)), (m0, .inr (11, ((((((fm.set 57 (.int 0)).set 62 (.int 0)).set 63 (.int (-1))).set 59 (.int 0)).set 60 (.int 0)).set 58 (.int 0))))] := hD
  refine lv_aload_n hx hb dX11_competition_52 rfl (lv_at hl 1 rfl) ?_
  refine va_get (D := (dC, dI)) (ci := 11) (v := .int 0) (C := RX11) (T := TX11) (N := 114) hx hb ht inX11 hown hK hP 3 rfl rfl 62 (by decide) (ht _ kw_1489) (fun _ h9 => h9) (gs_ne (by decide) (gs_ne (by decide) (gs_ne (by decide) (gs_ne (by decide) (gs_eq (gs_lt (gs_len hn_fm) (by decide))))))) dX11_competition_53 ?_
  refine lv_if_ne (tgt := 70) hx hb dX11_competition_56 (by decide) (fun c6 => ?_) (fun c6 => ?_)
  · exact absurd (by decide) c6
  refine lv_aload_n hx hb dX11_competition_59 rfl (lv_at hl 1 rfl) ?_
  refine va_get (D := (dC, dI)) (ci := 11) (v := .int 0) (C := RX11) (T := TX11) (N := 114) hx hb ht inX11 hown hK hP 3 rfl rfl 58 (by decide) (ht _ kw_1485) (fun _ h9 => h9) (gs_eq (gs_lt (gs_len (gs_len (gs_len (gs_len (gs_len hn_fm))))) (by decide))) dX11_competition_60 ?_
  refine lv_if_eq (tgt := 70) hx hb dX11_competition_63 (by decide) (fun c7 => ?_) (fun c7 => ?_)
  rotate_left
  · exact absurd (by decide) c7
  refine lv_iconst (v := 0) hx hb dX11_competition_70 (by decide) ?_
  refine lv_istore_n (lv' := [(1, .int 0), (0, .ref m0)]) hx hb dX11_competition_71 rfl hl (by decide) rfl (fun ls hl => ?_)
  refine lv_iload_n hx hb dX11_competition_72 rfl (lv_at hl 0 rfl) ?_
  refine lv_if_eq (tgt := 37) hx hb dX11_competition_73 (by decide) (fun c8 => ?_) (fun c8 => ?_)
  rotate_left
  · exact absurd (by decide) c8
  refine lv_iload_n hx hb dX11_competition_37 rfl (lv_at hl 0 rfl) ?_
  refine lv_if_eq (tgt := 83) hx hb dX11_competition_38 (by decide) (fun c9 => ?_) (fun c9 => ?_)
  rotate_left
  · exact absurd (by decide) c9
  refine lv_aload_n hx hb dX11_competition_83 rfl (lv_at hl 1 rfl) ?_
  refine lv_iconst (v := 0) hx hb dX11_competition_84 (by decide) ?_
  refine va_put (D := (dC, dI)) (ci := 11) (v := .int 0) (ty := .int) (C := RX11) (T := TX11) (N := 114) hx hb ht inX11 tyX11 tyX11_ok nmX11 hown hK hP hD hS 3 rfl rfl 1 (by decide) (ht _ kw_1428) (fun _ h9 => h9) rfl (by decide +kernel) rfl rfl (gs_lt (gs_len (gs_len (gs_len (gs_len (gs_len (gs_len hn_fm)))))) (by decide)) dX11_competition_85 (fun H locs hP hD hS => ?_)
  have hP : va_P (dC, dI) vwCl [(mc, .inl (kmc, 92, .inl gmc)), (mb, .inl (kmb, 23, .inl g2)), (md, .inl (kmd, 14, .inl g3)), (m0, .inr (11, (((((((fm.set 57 (.int 0)).set 62 (.int 0)).set 63 (.int (-1))).set 59 (.int 0)).set 60 (.int 0)).set 58 (.int 0)).set 1 (.int 0))))] H := hP
  have hD : va_D A [(mc, .inl (kmc, 92, .inl gmc)), (mb, .inl (kmb, 23, .inl g2)), (md, .inl (kmd, 14, .inl g3)), (m0, .inr (11, (((((((fm.set 57 (.int 0)).set 62 (.int 0)).set 63 (.int (-1))).set 59 (.int 0)).set 60 (.int 0)).set 58 (.int 0)).set 1 (.int 0))))] := hD
  refine lv_aload_n hx hb dX11_competition_88 rfl (lv_at hl 1 rfl) ?_
  refine lv_aload_n hx hb dX11_competition_89 rfl (lv_at hl 1 rfl) ?_
  refine va_get (D := (dC, dI)) (ci := 11) (v := .int (-1)) (C := RX11) (T := TX11) (N := 114) hx hb ht inX11 hown hK hP 3 rfl rfl 63 (by decide) (ht _ kw_1490) (fun _ h9 => h9) (gs_ne (by decide) (gs_ne (by decide) (gs_ne (by decide) (gs_ne (by decide) (gs_eq (gs_lt (gs_len (gs_len hn_fm)) (by decide))))))) dX11_competition_90 ?_
  refine va_put (D := (dC, dI)) (ci := 11) (v := .int (-1)) (ty := .int) (C := RX11) (T := TX11) (N := 114) hx hb ht inX11 tyX11 tyX11_ok nmX11 hown hK hP hD hS 3 rfl rfl 2 (by decide) (ht _ kw_1429) (fun _ h9 => h9) rfl (by decide +kernel) rfl rfl (gs_lt (gs_len (gs_len (gs_len (gs_len (gs_len (gs_len (gs_len hn_fm))))))) (by decide)) dX11_competition_93 (fun H locs hP hD hS => ?_)
  have hP : va_P (dC, dI) vwCl [(mc, .inl (kmc, 92, .inl gmc)), (mb, .inl (kmb, 23, .inl g2)), (md, .inl (kmd, 14, .inl g3)), (m0, .inr (11, ((((((((fm.set 57 (.int 0)).set 62 (.int 0)).set 63 (.int (-1))).set 59 (.int 0)).set 60 (.int 0)).set 58 (.int 0)).set 1 (.int 0)).set 2 (.int (-1)))))] H := hP
  have hD : va_D A [(mc, .inl (kmc, 92, .inl gmc)), (mb, .inl (kmb, 23, .inl g2)), (md, .inl (kmd, 14, .inl g3)), (m0, .inr (11, ((((((((fm.set 57 (.int 0)).set 62 (.int 0)).set 63 (.int (-1))).set 59 (.int 0)).set 60 (.int 0)).set 58 (.int 0)).set 1 (.int 0)).set 2 (.int (-1)))))] := hD
  refine lv_aload_n hx hb dX11_competition_96 rfl (lv_at hl 1 rfl) ?_
  refine va_get (D := (dC, dI)) (ci := 11) (v := .int 0) (C := RX11) (T := TX11) (N := 114) hx hb ht inX11 hown hK hP 3 rfl rfl 62 (by decide) (ht _ kw_1489) (fun _ h9 => h9) (gs_ne (by decide) (gs_ne (by decide) (gs_ne (by decide) (gs_ne (by decide) (gs_ne (by decide) (gs_ne (by decide) (gs_eq (gs_lt (gs_len hn_fm) (by decide))))))))) dX11_competition_97 ?_
  refine lv_if_eq (tgt := 111) hx hb dX11_competition_100 (by decide) (fun c10 => ?_) (fun c10 => ?_)
  rotate_left
  · exact absurd (by decide) c10
  refine lv_iconst (v := 0) hx hb dX11_competition_111 (by decide) ?_
  refine lv_istore_n (lv' := [(2, .int 0), (1, .int 0), (0, .ref m0)]) hx hb dX11_competition_112 rfl hl (by decide) rfl (fun ls hl => ?_)
  refine lv_iload_n hx hb dX11_competition_113 rfl (lv_at hl 0 rfl) ?_
  refine lv_bipush (v := 23) hx hb dX11_competition_114 (by decide) ?_
  refine lv_icmp_ge (tgt := 145) hx hb dX11_competition_116 (by decide) (fun c11 => ?_) (fun c11 => ?_)
  · exact absurd c11 (by decide)
  refine lv_aload_n hx hb dX11_competition_119 rfl (lv_at hl 2 rfl) ?_
  refine va_get (D := (dC, dI)) (ci := 11) (v := .ref mc) (C := RX11) (T := TX11) (N := 114) hx hb ht inX11 hown hK hP 3 rfl rfl 5 (by decide) (ht _ kw_1432) (fun _ h9 => h9) (gs_ne (by decide) (gs_ne (by decide) (gs_ne (by decide) (gs_ne (by decide) (gs_ne (by decide) (gs_ne (by decide) (gs_ne (by decide) (gs_ne (by decide) hfm_5)))))))) dX11_competition_120 ?_
  refine lv_bipush (v := 23) hx hb dX11_competition_123 (by decide) ?_
  refine lv_aload_n hx hb dX11_competition_125 rfl (lv_at hl 2 rfl) ?_
  refine va_get (D := (dC, dI)) (ci := 11) (v := .int 0) (C := RX11) (T := TX11) (N := 114) hx hb ht inX11 hown hK hP 3 rfl rfl 6 (by decide) (ht _ kw_1433) (fun _ h9 => h9) (gs_ne (by decide) (gs_ne (by decide) (gs_ne (by decide) (gs_ne (by decide) (gs_ne (by decide) (gs_ne (by decide) (gs_ne (by decide) (gs_ne (by decide) hfm_6)))))))) dX11_competition_126 ?_
  refine lv_imul hx hb dX11_competition_129 ?_
  refine lv_topi (fun r12 er12 => ?_)
  have er12 : r12 = 0 := er12.trans (by decide)
  subst er12
  refine lv_iload_n hx hb dX11_competition_130 rfl (lv_at hl 0 rfl) ?_
  refine lv_iadd hx hb dX11_competition_131 ?_
  refine lv_topi (fun r13 er13 => ?_)
  have er13 : r13 = 0 := er13.trans (by decide)
  subst er13
  refine lv_aload_n hx hb dX11_competition_132 rfl (lv_at hl 2 rfl) ?_
  refine va_get (D := (dC, dI)) (ci := 11) (v := .ref mb) (C := RX11) (T := TX11) (N := 114) hx hb ht inX11 hown hK hP 3 rfl rfl 4 (by decide) (ht _ kw_1431) (fun _ h9 => h9) (gs_ne (by decide) (gs_ne (by decide) (gs_ne (by decide) (gs_ne (by decide) (gs_ne (by decide) (gs_ne (by decide) (gs_ne (by decide) (gs_ne (by decide) hfm_4)))))))) dX11_competition_133 ?_
  refine lv_iload_n hx hb dX11_competition_136 rfl (lv_at hl 0 rfl) ?_
  refine va_iald hx hb hK hP 1 0 rfl rfl (by unfold vp_in; decide) dX11_competition_137 ?_
  refine lv_topi (fun r14 er14 => ?_)
  refine va_iast hx hb hK hP hD hS 0 1 rfl rfl (by unfold vp_in; decide) dX11_competition_138 (fun H locs hP hD hS => ?_)
  generalize upd gmc (0 : Int32).toNatClampNeg r14 = g15 at hP hD
  have hP : va_P (dC, dI) vwCl [(mc, .inl (kmc, 92, .inl g15)), (mb, .inl (kmb, 23, .inl g2)), (md, .inl (kmd, 14, .inl g3)), (m0, .inr (11, ((((((((fm.set 57 (.int 0)).set 62 (.int 0)).set 63 (.int (-1))).set 59 (.int 0)).set 60 (.int 0)).set 58 (.int 0)).set 1 (.int 0)).set 2 (.int (-1)))))] H := hP
  have hD : va_D A [(mc, .inl (kmc, 92, .inl g15)), (mb, .inl (kmb, 23, .inl g2)), (md, .inl (kmd, 14, .inl g3)), (m0, .inr (11, ((((((((fm.set 57 (.int 0)).set 62 (.int 0)).set 63 (.int (-1))).set 59 (.int 0)).set 60 (.int 0)).set 58 (.int 0)).set 1 (.int 0)).set 2 (.int (-1)))))] := hD
  refine lv_iinc (v := 1) (lv' := [(2, .int 1), (1, .int 0), (0, .ref m0)]) hx hb dX11_competition_139 hl (k := 0) rfl (by decide) (by decide) rfl (fun ls hl => ?_)
  refine lv_goto (tgt := 113) hx hb dX11_competition_142 (by decide) ?_
  refine lv_iload_n hx hb dX11_competition_113 rfl (lv_at hl 0 rfl) ?_
  refine lv_bipush (v := 23) hx hb dX11_competition_114 (by decide) ?_
  refine lv_icmp_ge (tgt := 145) hx hb dX11_competition_116 (by decide) (fun c16 => ?_) (fun c16 => ?_)
  · exact absurd c16 (by decide)
  refine lv_aload_n hx hb dX11_competition_119 rfl (lv_at hl 2 rfl) ?_
  refine va_get (D := (dC, dI)) (ci := 11) (v := .ref mc) (C := RX11) (T := TX11) (N := 114) hx hb ht inX11 hown hK hP 3 rfl rfl 5 (by decide) (ht _ kw_1432) (fun _ h9 => h9) (gs_ne (by decide) (gs_ne (by decide) (gs_ne (by decide) (gs_ne (by decide) (gs_ne (by decide) (gs_ne (by decide) (gs_ne (by decide) (gs_ne (by decide) hfm_5)))))))) dX11_competition_120 ?_
  refine lv_bipush (v := 23) hx hb dX11_competition_123 (by decide) ?_
  refine lv_aload_n hx hb dX11_competition_125 rfl (lv_at hl 2 rfl) ?_
  refine va_get (D := (dC, dI)) (ci := 11) (v := .int 0) (C := RX11) (T := TX11) (N := 114) hx hb ht inX11 hown hK hP 3 rfl rfl 6 (by decide) (ht _ kw_1433) (fun _ h9 => h9) (gs_ne (by decide) (gs_ne (by decide) (gs_ne (by decide) (gs_ne (by decide) (gs_ne (by decide) (gs_ne (by decide) (gs_ne (by decide) (gs_ne (by decide) hfm_6)))))))) dX11_competition_126 ?_
  refine lv_imul hx hb dX11_competition_129 ?_
  refine lv_topi (fun r17 er17 => ?_)
  have er17 : r17 = 0 := er17.trans (by decide)
  subst er17
  refine lv_iload_n hx hb dX11_competition_130 rfl (lv_at hl 0 rfl) ?_
  refine lv_iadd hx hb dX11_competition_131 ?_
  refine lv_topi (fun r18 er18 => ?_)
  have er18 : r18 = 1 := er18.trans (by decide)
  subst er18
  refine lv_aload_n hx hb dX11_competition_132 rfl (lv_at hl 2 rfl) ?_
  refine va_get (D := (dC, dI)) (ci := 11) (v := .ref mb) (C := RX11) (T := TX11) (N := 114) hx hb ht inX11 hown hK hP 3 rfl rfl 4 (by decide) (ht _ kw_1431) (fun _ h9 => h9) (gs_ne (by decide) (gs_ne (by decide) (gs_ne (by decide) (gs_ne (by decide) (gs_ne (by decide) (gs_ne (by decide) (gs_ne (by decide) (gs_ne (by decide) hfm_4)))))))) dX11_competition_133 ?_
  refine lv_iload_n hx hb dX11_competition_136 rfl (lv_at hl 0 rfl) ?_
  refine va_iald hx hb hK hP 1 0 rfl rfl (by unfold vp_in; decide) dX11_competition_137 ?_
  refine lv_topi (fun r19 er19 => ?_)
  refine va_iast hx hb hK hP hD hS 0 1 rfl rfl (by unfold vp_in; decide) dX11_competition_138 (fun H locs hP hD hS => ?_)
  generalize upd g15 (1 : Int32).toNatClampNeg r19 = g20 at hP hD
  have hP : va_P (dC, dI) vwCl [(mc, .inl (kmc, 92, .inl g20)), (mb, .inl (kmb, 23, .inl g2)), (md, .inl (kmd, 14, .inl g3)), (m0, .inr (11, ((((((((fm.set 57 (.int 0)).set 62 (.int 0)).set 63 (.int (-1))).set 59 (.int 0)).set 60 (.int 0)).set 58 (.int 0)).set 1 (.int 0)).set 2 (.int (-1)))))] H := hP
  have hD : va_D A [(mc, .inl (kmc, 92, .inl g20)), (mb, .inl (kmb, 23, .inl g2)), (md, .inl (kmd, 14, .inl g3)), (m0, .inr (11, ((((((((fm.set 57 (.int 0)).set 62 (.int 0)).set 63 (.int (-1))).set 59 (.int 0)).set 60 (.int 0)).set 58 (.int 0)).set 1 (.int 0)).set 2 (.int (-1)))))] := hD
  refine lv_iinc (v := 2) (lv' := [(2, .int 2), (1, .int 0), (0, .ref m0)]) hx hb dX11_competition_139 hl (k := 0) rfl (by decide) (by decide) rfl (fun ls hl => ?_)
  refine lv_goto (tgt := 113) hx hb dX11_competition_142 (by decide) ?_
  refine lv_iload_n hx hb dX11_competition_113 rfl (lv_at hl 0 rfl) ?_
  refine lv_bipush (v := 23) hx hb dX11_competition_114 (by decide) ?_
  refine lv_icmp_ge (tgt := 145) hx hb dX11_competition_116 (by decide) (fun c21 => ?_) (fun c21 => ?_)
  · exact absurd c21 (by decide)
  refine lv_aload_n hx hb dX11_competition_119 rfl (lv_at hl 2 rfl) ?_
  refine va_get (D := (dC, dI)) (ci := 11) (v := .ref mc) (C := RX11) (T := TX11) (N := 114) hx hb ht inX11 hown hK hP 3 rfl rfl 5 (by decide) (ht _ kw_1432) (fun _ h9 => h9) (gs_ne (by decide) (gs_ne (by decide) (gs_ne (by decide) (gs_ne (by decide) (gs_ne (by decide) (gs_ne (by decide) (gs_ne (by decide) (gs_ne (by decide) hfm_5)))))))) dX11_competition_120 ?_
  refine lv_bipush (v := 23) hx hb dX11_competition_123 (by decide) ?_
  refine lv_aload_n hx hb dX11_competition_125 rfl (lv_at hl 2 rfl) ?_
  refine va_get (D := (dC, dI)) (ci := 11) (v := .int 0) (C := RX11) (T := TX11) (N := 114) hx hb ht inX11 hown hK hP 3 rfl rfl 6 (by decide) (ht _ kw_1433) (fun _ h9 => h9) (gs_ne (by decide) (gs_ne (by decide) (gs_ne (by decide) (gs_ne (by decide) (gs_ne (by decide) (gs_ne (by decide) (gs_ne (by decide) (gs_ne (by decide) hfm_6)))))))) dX11_competition_126 ?_
  refine lv_imul hx hb dX11_competition_129 ?_
  refine lv_topi (fun r22 er22 => ?_)
  have er22 : r22 = 0 := er22.trans (by decide)
  subst er22
  refine lv_iload_n hx hb dX11_competition_130 rfl (lv_at hl 0 rfl) ?_
  refine lv_iadd hx hb dX11_competition_131 ?_
  refine lv_topi (fun r23 er23 => ?_)
  have er23 : r23 = 2 := er23.trans (by decide)
  subst er23
  refine lv_aload_n hx hb dX11_competition_132 rfl (lv_at hl 2 rfl) ?_
  refine va_get (D := (dC, dI)) (ci := 11) (v := .ref mb) (C := RX11) (T := TX11) (N := 114) hx hb ht inX11 hown hK hP 3 rfl rfl 4 (by decide) (ht _ kw_1431) (fun _ h9 => h9) (gs_ne (by decide) (gs_ne (by decide) (gs_ne (by decide) (gs_ne (by decide) (gs_ne (by decide) (gs_ne (by decide) (gs_ne (by decide) (gs_ne (by decide) hfm_4)))))))) dX11_competition_133 ?_
  refine lv_iload_n hx hb dX11_competition_136 rfl (lv_at hl 0 rfl) ?_
  refine va_iald hx hb hK hP 1 0 rfl rfl (by unfold vp_in; decide) dX11_competition_137 ?_
  refine lv_topi (fun r24 er24 => ?_)
  refine va_iast hx hb hK hP hD hS 0 1 rfl rfl (by unfold vp_in; decide) dX11_competition_138 (fun H locs hP hD hS => ?_)
  generalize upd g20 (2 : Int32).toNatClampNeg r24 = g25 at hP hD
  have hP : va_P (dC, dI) vwCl [(mc, .inl (kmc, 92, .inl g25)), (mb, .inl (kmb, 23, .inl g2)), (md, .inl (kmd, 14, .inl g3)), (m0, .inr (11, ((((((((fm.set 57 (.int 0)).set 62 (.int 0)).set 63 (.int (-1))).set 59 (.int 0)).set 60 (.int 0)).set 58 (.int 0)).set 1 (.int 0)).set 2 (.int (-1)))))] H := hP
  have hD : va_D A [(mc, .inl (kmc, 92, .inl g25)), (mb, .inl (kmb, 23, .inl g2)), (md, .inl (kmd, 14, .inl g3)), (m0, .inr (11, ((((((((fm.set 57 (.int 0)).set 62 (.int 0)).set 63 (.int (-1))).set 59 (.int 0)).set 60 (.int 0)).set 58 (.int 0)).set 1 (.int 0)).set 2 (.int (-1)))))] := hD
  refine lv_iinc (v := 3) (lv' := [(2, .int 3), (1, .int 0), (0, .ref m0)]) hx hb dX11_competition_139 hl (k := 0) rfl (by decide) (by decide) rfl (fun ls hl => ?_)
  refine lv_goto (tgt := 113) hx hb dX11_competition_142 (by decide) ?_
  refine lv_iload_n hx hb dX11_competition_113 rfl (lv_at hl 0 rfl) ?_
  refine lv_bipush (v := 23) hx hb dX11_competition_114 (by decide) ?_
  refine lv_icmp_ge (tgt := 145) hx hb dX11_competition_116 (by decide) (fun c26 => ?_) (fun c26 => ?_)
  · exact absurd c26 (by decide)
  refine lv_aload_n hx hb dX11_competition_119 rfl (lv_at hl 2 rfl) ?_
  refine va_get (D := (dC, dI)) (ci := 11) (v := .ref mc) (C := RX11) (T := TX11) (N := 114) hx hb ht inX11 hown hK hP 3 rfl rfl 5 (by decide) (ht _ kw_1432) (fun _ h9 => h9) (gs_ne (by decide) (gs_ne (by decide) (gs_ne (by decide) (gs_ne (by decide) (gs_ne (by decide) (gs_ne (by decide) (gs_ne (by decide) (gs_ne (by decide) hfm_5)))))))) dX11_competition_120 ?_
  refine lv_bipush (v := 23) hx hb dX11_competition_123 (by decide) ?_
  refine lv_aload_n hx hb dX11_competition_125 rfl (lv_at hl 2 rfl) ?_
  refine va_get (D := (dC, dI)) (ci := 11) (v := .int 0) (C := RX11) (T := TX11) (N := 114) hx hb ht inX11 hown hK hP 3 rfl rfl 6 (by decide) (ht _ kw_1433) (fun _ h9 => h9) (gs_ne (by decide) (gs_ne (by decide) (gs_ne (by decide) (gs_ne (by decide) (gs_ne (by decide) (gs_ne (by decide) (gs_ne (by decide) (gs_ne (by decide) hfm_6)))))))) dX11_competition_126 ?_
  refine lv_imul hx hb dX11_competition_129 ?_
  refine lv_topi (fun r27 er27 => ?_)
  have er27 : r27 = 0 := er27.trans (by decide)
  subst er27
  refine lv_iload_n hx hb dX11_competition_130 rfl (lv_at hl 0 rfl) ?_
  refine lv_iadd hx hb dX11_competition_131 ?_
  refine lv_topi (fun r28 er28 => ?_)
  have er28 : r28 = 3 := er28.trans (by decide)
  subst er28
  refine lv_aload_n hx hb dX11_competition_132 rfl (lv_at hl 2 rfl) ?_
  refine va_get (D := (dC, dI)) (ci := 11) (v := .ref mb) (C := RX11) (T := TX11) (N := 114) hx hb ht inX11 hown hK hP 3 rfl rfl 4 (by decide) (ht _ kw_1431) (fun _ h9 => h9) (gs_ne (by decide) (gs_ne (by decide) (gs_ne (by decide) (gs_ne (by decide) (gs_ne (by decide) (gs_ne (by decide) (gs_ne (by decide) (gs_ne (by decide) hfm_4)))))))) dX11_competition_133 ?_
  refine lv_iload_n hx hb dX11_competition_136 rfl (lv_at hl 0 rfl) ?_
  refine va_iald hx hb hK hP 1 0 rfl rfl (by unfold vp_in; decide) dX11_competition_137 ?_
  refine lv_topi (fun r29 er29 => ?_)
  refine va_iast hx hb hK hP hD hS 0 1 rfl rfl (by unfold vp_in; decide) dX11_competition_138 (fun H locs hP hD hS => ?_)
  generalize upd g25 (3 : Int32).toNatClampNeg r29 = g30 at hP hD
  have hP : va_P (dC, dI) vwCl [(mc, .inl (kmc, 92, .inl g30)), (mb, .inl (kmb, 23, .inl g2)), (md, .inl (kmd, 14, .inl g3)), (m0, .inr (11, ((((((((fm.set 57 (.int 0)).set 62 (.int 0)).set 63 (.int (-1))).set 59 (.int 0)).set 60 (.int 0)).set 58 (.int 0)).set 1 (.int 0)).set 2 (.int (-1)))))] H := hP
  have hD : va_D A [(mc, .inl (kmc, 92, .inl g30)), (mb, .inl (kmb, 23, .inl g2)), (md, .inl (kmd, 14, .inl g3)), (m0, .inr (11, ((((((((fm.set 57 (.int 0)).set 62 (.int 0)).set 63 (.int (-1))).set 59 (.int 0)).set 60 (.int 0)).set 58 (.int 0)).set 1 (.int 0)).set 2 (.int (-1)))))] := hD
  refine lv_iinc (v := 4) (lv' := [(2, .int 4), (1, .int 0), (0, .ref m0)]) hx hb dX11_competition_139 hl (k := 0) rfl (by decide) (by decide) rfl (fun ls hl => ?_)
  refine lv_goto (tgt := 113) hx hb dX11_competition_142 (by decide) ?_
  refine lv_iload_n hx hb dX11_competition_113 rfl (lv_at hl 0 rfl) ?_
  refine lv_bipush (v := 23) hx hb dX11_competition_114 (by decide) ?_
  refine lv_icmp_ge (tgt := 145) hx hb dX11_competition_116 (by decide) (fun c31 => ?_) (fun c31 => ?_)
  · exact absurd c31 (by decide)
  refine lv_aload_n hx hb dX11_competition_119 rfl (lv_at hl 2 rfl) ?_
  refine va_get (D := (dC, dI)) (ci := 11) (v := .ref mc) (C := RX11) (T := TX11) (N := 114) hx hb ht inX11 hown hK hP 3 rfl rfl 5 (by decide) (ht _ kw_1432) (fun _ h9 => h9) (gs_ne (by decide) (gs_ne (by decide) (gs_ne (by decide) (gs_ne (by decide) (gs_ne (by decide) (gs_ne (by decide) (gs_ne (by decide) (gs_ne (by decide) hfm_5)))))))) dX11_competition_120 ?_
  refine lv_bipush (v := 23) hx hb dX11_competition_123 (by decide) ?_
  refine lv_aload_n hx hb dX11_competition_125 rfl (lv_at hl 2 rfl) ?_
  refine va_get (D := (dC, dI)) (ci := 11) (v := .int 0) (C := RX11) (T := TX11) (N := 114) hx hb ht inX11 hown hK hP 3 rfl rfl 6 (by decide) (ht _ kw_1433) (fun _ h9 => h9) (gs_ne (by decide) (gs_ne (by decide) (gs_ne (by decide) (gs_ne (by decide) (gs_ne (by decide) (gs_ne (by decide) (gs_ne (by decide) (gs_ne (by decide) hfm_6)))))))) dX11_competition_126 ?_
  refine lv_imul hx hb dX11_competition_129 ?_
  refine lv_topi (fun r32 er32 => ?_)
  have er32 : r32 = 0 := er32.trans (by decide)
  subst er32
  refine lv_iload_n hx hb dX11_competition_130 rfl (lv_at hl 0 rfl) ?_
  refine lv_iadd hx hb dX11_competition_131 ?_
  refine lv_topi (fun r33 er33 => ?_)
  have er33 : r33 = 4 := er33.trans (by decide)
  subst er33
  refine lv_aload_n hx hb dX11_competition_132 rfl (lv_at hl 2 rfl) ?_
  refine va_get (D := (dC, dI)) (ci := 11) (v := .ref mb) (C := RX11) (T := TX11) (N := 114) hx hb ht inX11 hown hK hP 3 rfl rfl 4 (by decide) (ht _ kw_1431) (fun _ h9 => h9) (gs_ne (by decide) (gs_ne (by decide) (gs_ne (by decide) (gs_ne (by decide) (gs_ne (by decide) (gs_ne (by decide) (gs_ne (by decide) (gs_ne (by decide) hfm_4)))))))) dX11_competition_133 ?_
  refine lv_iload_n hx hb dX11_competition_136 rfl (lv_at hl 0 rfl) ?_
  refine va_iald hx hb hK hP 1 0 rfl rfl (by unfold vp_in; decide) dX11_competition_137 ?_
  refine lv_topi (fun r34 er34 => ?_)
  refine va_iast hx hb hK hP hD hS 0 1 rfl rfl (by unfold vp_in; decide) dX11_competition_138 (fun H locs hP hD hS => ?_)
  generalize upd g30 (4 : Int32).toNatClampNeg r34 = g35 at hP hD
  have hP : va_P (dC, dI) vwCl [(mc, .inl (kmc, 92, .inl g35)), (mb, .inl (kmb, 23, .inl g2)), (md, .inl (kmd, 14, .inl g3)), (m0, .inr (11, ((((((((fm.set 57 (.int 0)).set 62 (.int 0)).set 63 (.int (-1))).set 59 (.int 0)).set 60 (.int 0)).set 58 (.int 0)).set 1 (.int 0)).set 2 (.int (-1)))))] H := hP
  have hD : va_D A [(mc, .inl (kmc, 92, .inl g35)), (mb, .inl (kmb, 23, .inl g2)), (md, .inl (kmd, 14, .inl g3)), (m0, .inr (11, ((((((((fm.set 57 (.int 0)).set 62 (.int 0)).set 63 (.int (-1))).set 59 (.int 0)).set 60 (.int 0)).set 58 (.int 0)).set 1 (.int 0)).set 2 (.int (-1)))))] := hD
  refine lv_iinc (v := 5) (lv' := [(2, .int 5), (1, .int 0), (0, .ref m0)]) hx hb dX11_competition_139 hl (k := 0) rfl (by decide) (by decide) rfl (fun ls hl => ?_)
  refine lv_goto (tgt := 113) hx hb dX11_competition_142 (by decide) ?_
  refine lv_iload_n hx hb dX11_competition_113 rfl (lv_at hl 0 rfl) ?_
  refine lv_bipush (v := 23) hx hb dX11_competition_114 (by decide) ?_
  refine lv_icmp_ge (tgt := 145) hx hb dX11_competition_116 (by decide) (fun c36 => ?_) (fun c36 => ?_)
  · exact absurd c36 (by decide)
  refine lv_aload_n hx hb dX11_competition_119 rfl (lv_at hl 2 rfl) ?_
  refine va_get (D := (dC, dI)) (ci := 11) (v := .ref mc) (C := RX11) (T := TX11) (N := 114) hx hb ht inX11 hown hK hP 3 rfl rfl 5 (by decide) (ht _ kw_1432) (fun _ h9 => h9) (gs_ne (by decide) (gs_ne (by decide) (gs_ne (by decide) (gs_ne (by decide) (gs_ne (by decide) (gs_ne (by decide) (gs_ne (by decide) (gs_ne (by decide) hfm_5)))))))) dX11_competition_120 ?_
  refine lv_bipush (v := 23) hx hb dX11_competition_123 (by decide) ?_
  refine lv_aload_n hx hb dX11_competition_125 rfl (lv_at hl 2 rfl) ?_
  refine va_get (D := (dC, dI)) (ci := 11) (v := .int 0) (C := RX11) (T := TX11) (N := 114) hx hb ht inX11 hown hK hP 3 rfl rfl 6 (by decide) (ht _ kw_1433) (fun _ h9 => h9) (gs_ne (by decide) (gs_ne (by decide) (gs_ne (by decide) (gs_ne (by decide) (gs_ne (by decide) (gs_ne (by decide) (gs_ne (by decide) (gs_ne (by decide) hfm_6)))))))) dX11_competition_126 ?_
  refine lv_imul hx hb dX11_competition_129 ?_
  refine lv_topi (fun r37 er37 => ?_)
  have er37 : r37 = 0 := er37.trans (by decide)
  subst er37
  refine lv_iload_n hx hb dX11_competition_130 rfl (lv_at hl 0 rfl) ?_
  refine lv_iadd hx hb dX11_competition_131 ?_
  refine lv_topi (fun r38 er38 => ?_)
  have er38 : r38 = 5 := er38.trans (by decide)
  subst er38
  refine lv_aload_n hx hb dX11_competition_132 rfl (lv_at hl 2 rfl) ?_
  refine va_get (D := (dC, dI)) (ci := 11) (v := .ref mb) (C := RX11) (T := TX11) (N := 114) hx hb ht inX11 hown hK hP 3 rfl rfl 4 (by decide) (ht _ kw_1431) (fun _ h9 => h9) (gs_ne (by decide) (gs_ne (by decide) (gs_ne (by decide) (gs_ne (by decide) (gs_ne (by decide) (gs_ne (by decide) (gs_ne (by decide) (gs_ne (by decide) hfm_4)))))))) dX11_competition_133 ?_
  refine lv_iload_n hx hb dX11_competition_136 rfl (lv_at hl 0 rfl) ?_
  refine va_iald hx hb hK hP 1 0 rfl rfl (by unfold vp_in; decide) dX11_competition_137 ?_
  refine lv_topi (fun r39 er39 => ?_)
  refine va_iast hx hb hK hP hD hS 0 1 rfl rfl (by unfold vp_in; decide) dX11_competition_138 (fun H locs hP hD hS => ?_)
  generalize upd g35 (5 : Int32).toNatClampNeg r39 = g40 at hP hD
  have hP : va_P (dC, dI) vwCl [(mc, .inl (kmc, 92, .inl g40)), (mb, .inl (kmb, 23, .inl g2)), (md, .inl (kmd, 14, .inl g3)), (m0, .inr (11, ((((((((fm.set 57 (.int 0)).set 62 (.int 0)).set 63 (.int (-1))).set 59 (.int 0)).set 60 (.int 0)).set 58 (.int 0)).set 1 (.int 0)).set 2 (.int (-1)))))] H := hP
  have hD : va_D A [(mc, .inl (kmc, 92, .inl g40)), (mb, .inl (kmb, 23, .inl g2)), (md, .inl (kmd, 14, .inl g3)), (m0, .inr (11, ((((((((fm.set 57 (.int 0)).set 62 (.int 0)).set 63 (.int (-1))).set 59 (.int 0)).set 60 (.int 0)).set 58 (.int 0)).set 1 (.int 0)).set 2 (.int (-1)))))] := hD
  refine lv_iinc (v := 6) (lv' := [(2, .int 6), (1, .int 0), (0, .ref m0)]) hx hb dX11_competition_139 hl (k := 0) rfl (by decide) (by decide) rfl (fun ls hl => ?_)
  refine lv_goto (tgt := 113) hx hb dX11_competition_142 (by decide) ?_
  refine lv_iload_n hx hb dX11_competition_113 rfl (lv_at hl 0 rfl) ?_
  refine lv_bipush (v := 23) hx hb dX11_competition_114 (by decide) ?_
  refine lv_icmp_ge (tgt := 145) hx hb dX11_competition_116 (by decide) (fun c41 => ?_) (fun c41 => ?_)
  · exact absurd c41 (by decide)
  refine lv_aload_n hx hb dX11_competition_119 rfl (lv_at hl 2 rfl) ?_
  refine va_get (D := (dC, dI)) (ci := 11) (v := .ref mc) (C := RX11) (T := TX11) (N := 114) hx hb ht inX11 hown hK hP 3 rfl rfl 5 (by decide) (ht _ kw_1432) (fun _ h9 => h9) (gs_ne (by decide) (gs_ne (by decide) (gs_ne (by decide) (gs_ne (by decide) (gs_ne (by decide) (gs_ne (by decide) (gs_ne (by decide) (gs_ne (by decide) hfm_5)))))))) dX11_competition_120 ?_
  refine lv_bipush (v := 23) hx hb dX11_competition_123 (by decide) ?_
  refine lv_aload_n hx hb dX11_competition_125 rfl (lv_at hl 2 rfl) ?_
  refine va_get (D := (dC, dI)) (ci := 11) (v := .int 0) (C := RX11) (T := TX11) (N := 114) hx hb ht inX11 hown hK hP 3 rfl rfl 6 (by decide) (ht _ kw_1433) (fun _ h9 => h9) (gs_ne (by decide) (gs_ne (by decide) (gs_ne (by decide) (gs_ne (by decide) (gs_ne (by decide) (gs_ne (by decide) (gs_ne (by decide) (gs_ne (by decide) hfm_6)))))))) dX11_competition_126 ?_
  refine lv_imul hx hb dX11_competition_129 ?_
  refine lv_topi (fun r42 er42 => ?_)
  have er42 : r42 = 0 := er42.trans (by decide)
  subst er42
  refine lv_iload_n hx hb dX11_competition_130 rfl (lv_at hl 0 rfl) ?_
  refine lv_iadd hx hb dX11_competition_131 ?_
  refine lv_topi (fun r43 er43 => ?_)
  have er43 : r43 = 6 := er43.trans (by decide)
  subst er43
  refine lv_aload_n hx hb dX11_competition_132 rfl (lv_at hl 2 rfl) ?_
  refine va_get (D := (dC, dI)) (ci := 11) (v := .ref mb) (C := RX11) (T := TX11) (N := 114) hx hb ht inX11 hown hK hP 3 rfl rfl 4 (by decide) (ht _ kw_1431) (fun _ h9 => h9) (gs_ne (by decide) (gs_ne (by decide) (gs_ne (by decide) (gs_ne (by decide) (gs_ne (by decide) (gs_ne (by decide) (gs_ne (by decide) (gs_ne (by decide) hfm_4)))))))) dX11_competition_133 ?_
  refine lv_iload_n hx hb dX11_competition_136 rfl (lv_at hl 0 rfl) ?_
  refine va_iald hx hb hK hP 1 0 rfl rfl (by unfold vp_in; decide) dX11_competition_137 ?_
  refine lv_topi (fun r44 er44 => ?_)
  refine va_iast hx hb hK hP hD hS 0 1 rfl rfl (by unfold vp_in; decide) dX11_competition_138 (fun H locs hP hD hS => ?_)
  generalize upd g40 (6 : Int32).toNatClampNeg r44 = g45 at hP hD
  have hP : va_P (dC, dI) vwCl [(mc, .inl (kmc, 92, .inl g45)), (mb, .inl (kmb, 23, .inl g2)), (md, .inl (kmd, 14, .inl g3)), (m0, .inr (11, ((((((((fm.set 57 (.int 0)).set 62 (.int 0)).set 63 (.int (-1))).set 59 (.int 0)).set 60 (.int 0)).set 58 (.int 0)).set 1 (.int 0)).set 2 (.int (-1)))))] H := hP
  have hD : va_D A [(mc, .inl (kmc, 92, .inl g45)), (mb, .inl (kmb, 23, .inl g2)), (md, .inl (kmd, 14, .inl g3)), (m0, .inr (11, ((((((((fm.set 57 (.int 0)).set 62 (.int 0)).set 63 (.int (-1))).set 59 (.int 0)).set 60 (.int 0)).set 58 (.int 0)).set 1 (.int 0)).set 2 (.int (-1)))))] := hD
  refine lv_iinc (v := 7) (lv' := [(2, .int 7), (1, .int 0), (0, .ref m0)]) hx hb dX11_competition_139 hl (k := 0) rfl (by decide) (by decide) rfl (fun ls hl => ?_)
  refine lv_goto (tgt := 113) hx hb dX11_competition_142 (by decide) ?_
  refine lv_iload_n hx hb dX11_competition_113 rfl (lv_at hl 0 rfl) ?_
  refine lv_bipush (v := 23) hx hb dX11_competition_114 (by decide) ?_
  refine lv_icmp_ge (tgt := 145) hx hb dX11_competition_116 (by decide) (fun c46 => ?_) (fun c46 => ?_)
  · exact absurd c46 (by decide)
  refine lv_aload_n hx hb dX11_competition_119 rfl (lv_at hl 2 rfl) ?_
  refine va_get (D := (dC, dI)) (ci := 11) (v := .ref mc) (C := RX11) (T := TX11) (N := 114) hx hb ht inX11 hown hK hP 3 rfl rfl 5 (by decide) (ht _ kw_1432) (fun _ h9 => h9) (gs_ne (by decide) (gs_ne (by decide) (gs_ne (by decide) (gs_ne (by decide) (gs_ne (by decide) (gs_ne (by decide) (gs_ne (by decide) (gs_ne (by decide) hfm_5)))))))) dX11_competition_120 ?_
  refine lv_bipush (v := 23) hx hb dX11_competition_123 (by decide) ?_
  refine lv_aload_n hx hb dX11_competition_125 rfl (lv_at hl 2 rfl) ?_
  refine va_get (D := (dC, dI)) (ci := 11) (v := .int 0) (C := RX11) (T := TX11) (N := 114) hx hb ht inX11 hown hK hP 3 rfl rfl 6 (by decide) (ht _ kw_1433) (fun _ h9 => h9) (gs_ne (by decide) (gs_ne (by decide) (gs_ne (by decide) (gs_ne (by decide) (gs_ne (by decide) (gs_ne (by decide) (gs_ne (by decide) (gs_ne (by decide) hfm_6)))))))) dX11_competition_126 ?_
  refine lv_imul hx hb dX11_competition_129 ?_
  refine lv_topi (fun r47 er47 => ?_)
  have er47 : r47 = 0 := er47.trans (by decide)
  subst er47
  refine lv_iload_n hx hb dX11_competition_130 rfl (lv_at hl 0 rfl) ?_
  refine lv_iadd hx hb dX11_competition_131 ?_
  refine lv_topi (fun r48 er48 => ?_)
  have er48 : r48 = 7 := er48.trans (by decide)
  subst er48
  refine lv_aload_n hx hb dX11_competition_132 rfl (lv_at hl 2 rfl) ?_
  refine va_get (D := (dC, dI)) (ci := 11) (v := .ref mb) (C := RX11) (T := TX11) (N := 114) hx hb ht inX11 hown hK hP 3 rfl rfl 4 (by decide) (ht _ kw_1431) (fun _ h9 => h9) (gs_ne (by decide) (gs_ne (by decide) (gs_ne (by decide) (gs_ne (by decide) (gs_ne (by decide) (gs_ne (by decide) (gs_ne (by decide) (gs_ne (by decide) hfm_4)))))))) dX11_competition_133 ?_
  refine lv_iload_n hx hb dX11_competition_136 rfl (lv_at hl 0 rfl) ?_
  refine va_iald hx hb hK hP 1 0 rfl rfl (by unfold vp_in; decide) dX11_competition_137 ?_
  refine lv_topi (fun r49 er49 => ?_)
  refine va_iast hx hb hK hP hD hS 0 1 rfl rfl (by unfold vp_in; decide) dX11_competition_138 (fun H locs hP hD hS => ?_)
  generalize upd g45 (7 : Int32).toNatClampNeg r49 = g50 at hP hD
  have hP : va_P (dC, dI) vwCl [(mc, .inl (kmc, 92, .inl g50)), (mb, .inl (kmb, 23, .inl g2)), (md, .inl (kmd, 14, .inl g3)), (m0, .inr (11, ((((((((fm.set 57 (.int 0)).set 62 (.int 0)).set 63 (.int (-1))).set 59 (.int 0)).set 60 (.int 0)).set 58 (.int 0)).set 1 (.int 0)).set 2 (.int (-1)))))] H := hP
  have hD : va_D A [(mc, .inl (kmc, 92, .inl g50)), (mb, .inl (kmb, 23, .inl g2)), (md, .inl (kmd, 14, .inl g3)), (m0, .inr (11, ((((((((fm.set 57 (.int 0)).set 62 (.int 0)).set 63 (.int (-1))).set 59 (.int 0)).set 60 (.int 0)).set 58 (.int 0)).set 1 (.int 0)).set 2 (.int (-1)))))] := hD
  refine lv_iinc (v := 8) (lv' := [(2, .int 8), (1, .int 0), (0, .ref m0)]) hx hb dX11_competition_139 hl (k := 0) rfl (by decide) (by decide) rfl (fun ls hl => ?_)
  refine lv_goto (tgt := 113) hx hb dX11_competition_142 (by decide) ?_
  refine lv_iload_n hx hb dX11_competition_113 rfl (lv_at hl 0 rfl) ?_
  refine lv_bipush (v := 23) hx hb dX11_competition_114 (by decide) ?_
  refine lv_icmp_ge (tgt := 145) hx hb dX11_competition_116 (by decide) (fun c51 => ?_) (fun c51 => ?_)
  · exact absurd c51 (by decide)
  refine lv_aload_n hx hb dX11_competition_119 rfl (lv_at hl 2 rfl) ?_
  refine va_get (D := (dC, dI)) (ci := 11) (v := .ref mc) (C := RX11) (T := TX11) (N := 114) hx hb ht inX11 hown hK hP 3 rfl rfl 5 (by decide) (ht _ kw_1432) (fun _ h9 => h9) (gs_ne (by decide) (gs_ne (by decide) (gs_ne (by decide) (gs_ne (by decide) (gs_ne (by decide) (gs_ne (by decide) (gs_ne (by decide) (gs_ne (by decide) hfm_5)))))))) dX11_competition_120 ?_
  refine lv_bipush (v := 23) hx hb dX11_competition_123 (by decide) ?_
  refine lv_aload_n hx hb dX11_competition_125 rfl (lv_at hl 2 rfl) ?_
  refine va_get (D := (dC, dI)) (ci := 11) (v := .int 0) (C := RX11) (T := TX11) (N := 114) hx hb ht inX11 hown hK hP 3 rfl rfl 6 (by decide) (ht _ kw_1433) (fun _ h9 => h9) (gs_ne (by decide) (gs_ne (by decide) (gs_ne (by decide) (gs_ne (by decide) (gs_ne (by decide) (gs_ne (by decide) (gs_ne (by decide) (gs_ne (by decide) hfm_6)))))))) dX11_competition_126 ?_
  refine lv_imul hx hb dX11_competition_129 ?_
  refine lv_topi (fun r52 er52 => ?_)
  have er52 : r52 = 0 := er52.trans (by decide)
  subst er52
  refine lv_iload_n hx hb dX11_competition_130 rfl (lv_at hl 0 rfl) ?_
  refine lv_iadd hx hb dX11_competition_131 ?_
  refine lv_topi (fun r53 er53 => ?_)
  have er53 : r53 = 8 := er53.trans (by decide)
  subst er53
  refine lv_aload_n hx hb dX11_competition_132 rfl (lv_at hl 2 rfl) ?_
  refine va_get (D := (dC, dI)) (ci := 11) (v := .ref mb) (C := RX11) (T := TX11) (N := 114) hx hb ht inX11 hown hK hP 3 rfl rfl 4 (by decide) (ht _ kw_1431) (fun _ h9 => h9) (gs_ne (by decide) (gs_ne (by decide) (gs_ne (by decide) (gs_ne (by decide) (gs_ne (by decide) (gs_ne (by decide) (gs_ne (by decide) (gs_ne (by decide) hfm_4)))))))) dX11_competition_133 ?_
  refine lv_iload_n hx hb dX11_competition_136 rfl (lv_at hl 0 rfl) ?_
  refine va_iald hx hb hK hP 1 0 rfl rfl (by unfold vp_in; decide) dX11_competition_137 ?_
  refine lv_topi (fun r54 er54 => ?_)
  refine va_iast hx hb hK hP hD hS 0 1 rfl rfl (by unfold vp_in; decide) dX11_competition_138 (fun H locs hP hD hS => ?_)
  generalize upd g50 (8 : Int32).toNatClampNeg r54 = g55 at hP hD
  have hP : va_P (dC, dI) vwCl [(mc, .inl (kmc, 92, .inl g55)), (mb, .inl (kmb, 23, .inl g2)), (md, .inl (kmd, 14, .inl g3)), (m0, .inr (11, ((((((((fm.set 57 (.int 0)).set 62 (.int 0)).set 63 (.int (-1))).set 59 (.int 0)).set 60 (.int 0)).set 58 (.int 0)).set 1 (.int 0)).set 2 (.int (-1)))))] H := hP
  have hD : va_D A [(mc, .inl (kmc, 92, .inl g55)), (mb, .inl (kmb, 23, .inl g2)), (md, .inl (kmd, 14, .inl g3)), (m0, .inr (11, ((((((((fm.set 57 (.int 0)).set 62 (.int 0)).set 63 (.int (-1))).set 59 (.int 0)).set 60 (.int 0)).set 58 (.int 0)).set 1 (.int 0)).set 2 (.int (-1)))))] := hD
  refine lv_iinc (v := 9) (lv' := [(2, .int 9), (1, .int 0), (0, .ref m0)]) hx hb dX11_competition_139 hl (k := 0) rfl (by decide) (by decide) rfl (fun ls hl => ?_)
  refine lv_goto (tgt := 113) hx hb dX11_competition_142 (by decide) ?_
  refine lv_iload_n hx hb dX11_competition_113 rfl (lv_at hl 0 rfl) ?_
  refine lv_bipush (v := 23) hx hb dX11_competition_114 (by decide) ?_
  refine lv_icmp_ge (tgt := 145) hx hb dX11_competition_116 (by decide) (fun c56 => ?_) (fun c56 => ?_)
  · exact absurd c56 (by decide)
  refine lv_aload_n hx hb dX11_competition_119 rfl (lv_at hl 2 rfl) ?_
  refine va_get (D := (dC, dI)) (ci := 11) (v := .ref mc) (C := RX11) (T := TX11) (N := 114) hx hb ht inX11 hown hK hP 3 rfl rfl 5 (by decide) (ht _ kw_1432) (fun _ h9 => h9) (gs_ne (by decide) (gs_ne (by decide) (gs_ne (by decide) (gs_ne (by decide) (gs_ne (by decide) (gs_ne (by decide) (gs_ne (by decide) (gs_ne (by decide) hfm_5)))))))) dX11_competition_120 ?_
  refine lv_bipush (v := 23) hx hb dX11_competition_123 (by decide) ?_
  refine lv_aload_n hx hb dX11_competition_125 rfl (lv_at hl 2 rfl) ?_
  refine va_get (D := (dC, dI)) (ci := 11) (v := .int 0) (C := RX11) (T := TX11) (N := 114) hx hb ht inX11 hown hK hP 3 rfl rfl 6 (by decide) (ht _ kw_1433) (fun _ h9 => h9) (gs_ne (by decide) (gs_ne (by decide) (gs_ne (by decide) (gs_ne (by decide) (gs_ne (by decide) (gs_ne (by decide) (gs_ne (by decide) (gs_ne (by decide) hfm_6)))))))) dX11_competition_126 ?_
  refine lv_imul hx hb dX11_competition_129 ?_
  refine lv_topi (fun r57 er57 => ?_)
  have er57 : r57 = 0 := er57.trans (by decide)
  subst er57
  refine lv_iload_n hx hb dX11_competition_130 rfl (lv_at hl 0 rfl) ?_
  refine lv_iadd hx hb dX11_competition_131 ?_
  refine lv_topi (fun r58 er58 => ?_)
  have er58 : r58 = 9 := er58.trans (by decide)
  subst er58
  refine lv_aload_n hx hb dX11_competition_132 rfl (lv_at hl 2 rfl) ?_
  refine va_get (D := (dC, dI)) (ci := 11) (v := .ref mb) (C := RX11) (T := TX11) (N := 114) hx hb ht inX11 hown hK hP 3 rfl rfl 4 (by decide) (ht _ kw_1431) (fun _ h9 => h9) (gs_ne (by decide) (gs_ne (by decide) (gs_ne (by decide) (gs_ne (by decide) (gs_ne (by decide) (gs_ne (by decide) (gs_ne (by decide) (gs_ne (by decide) hfm_4)))))))) dX11_competition_133 ?_
  refine lv_iload_n hx hb dX11_competition_136 rfl (lv_at hl 0 rfl) ?_
  refine va_iald hx hb hK hP 1 0 rfl rfl (by unfold vp_in; decide) dX11_competition_137 ?_
  refine lv_topi (fun r59 er59 => ?_)
  refine va_iast hx hb hK hP hD hS 0 1 rfl rfl (by unfold vp_in; decide) dX11_competition_138 (fun H locs hP hD hS => ?_)
  generalize upd g55 (9 : Int32).toNatClampNeg r59 = g60 at hP hD
  have hP : va_P (dC, dI) vwCl [(mc, .inl (kmc, 92, .inl g60)), (mb, .inl (kmb, 23, .inl g2)), (md, .inl (kmd, 14, .inl g3)), (m0, .inr (11, ((((((((fm.set 57 (.int 0)).set 62 (.int 0)).set 63 (.int (-1))).set 59 (.int 0)).set 60 (.int 0)).set 58 (.int 0)).set 1 (.int 0)).set 2 (.int (-1)))))] H := hP
  have hD : va_D A [(mc, .inl (kmc, 92, .inl g60)), (mb, .inl (kmb, 23, .inl g2)), (md, .inl (kmd, 14, .inl g3)), (m0, .inr (11, ((((((((fm.set 57 (.int 0)).set 62 (.int 0)).set 63 (.int (-1))).set 59 (.int 0)).set 60 (.int 0)).set 58 (.int 0)).set 1 (.int 0)).set 2 (.int (-1)))))] := hD
  refine lv_iinc (v := 10) (lv' := [(2, .int 10), (1, .int 0), (0, .ref m0)]) hx hb dX11_competition_139 hl (k := 0) rfl (by decide) (by decide) rfl (fun ls hl => ?_)
  refine lv_goto (tgt := 113) hx hb dX11_competition_142 (by decide) ?_
  refine lv_iload_n hx hb dX11_competition_113 rfl (lv_at hl 0 rfl) ?_
  refine lv_bipush (v := 23) hx hb dX11_competition_114 (by decide) ?_
  refine lv_icmp_ge (tgt := 145) hx hb dX11_competition_116 (by decide) (fun c61 => ?_) (fun c61 => ?_)
  · exact absurd c61 (by decide)
  refine lv_aload_n hx hb dX11_competition_119 rfl (lv_at hl 2 rfl) ?_
  refine va_get (D := (dC, dI)) (ci := 11) (v := .ref mc) (C := RX11) (T := TX11) (N := 114) hx hb ht inX11 hown hK hP 3 rfl rfl 5 (by decide) (ht _ kw_1432) (fun _ h9 => h9) (gs_ne (by decide) (gs_ne (by decide) (gs_ne (by decide) (gs_ne (by decide) (gs_ne (by decide) (gs_ne (by decide) (gs_ne (by decide) (gs_ne (by decide) hfm_5)))))))) dX11_competition_120 ?_
  refine lv_bipush (v := 23) hx hb dX11_competition_123 (by decide) ?_
  refine lv_aload_n hx hb dX11_competition_125 rfl (lv_at hl 2 rfl) ?_
  refine va_get (D := (dC, dI)) (ci := 11) (v := .int 0) (C := RX11) (T := TX11) (N := 114) hx hb ht inX11 hown hK hP 3 rfl rfl 6 (by decide) (ht _ kw_1433) (fun _ h9 => h9) (gs_ne (by decide) (gs_ne (by decide) (gs_ne (by decide) (gs_ne (by decide) (gs_ne (by decide) (gs_ne (by decide) (gs_ne (by decide) (gs_ne (by decide) hfm_6)))))))) dX11_competition_126 ?_
  refine lv_imul hx hb dX11_competition_129 ?_
  refine lv_topi (fun r62 er62 => ?_)
  have er62 : r62 = 0 := er62.trans (by decide)
  subst er62
  refine lv_iload_n hx hb dX11_competition_130 rfl (lv_at hl 0 rfl) ?_
  refine lv_iadd hx hb dX11_competition_131 ?_
  refine lv_topi (fun r63 er63 => ?_)
  have er63 : r63 = 10 := er63.trans (by decide)
  subst er63
  refine lv_aload_n hx hb dX11_competition_132 rfl (lv_at hl 2 rfl) ?_
  refine va_get (D := (dC, dI)) (ci := 11) (v := .ref mb) (C := RX11) (T := TX11) (N := 114) hx hb ht inX11 hown hK hP 3 rfl rfl 4 (by decide) (ht _ kw_1431) (fun _ h9 => h9) (gs_ne (by decide) (gs_ne (by decide) (gs_ne (by decide) (gs_ne (by decide) (gs_ne (by decide) (gs_ne (by decide) (gs_ne (by decide) (gs_ne (by decide) hfm_4)))))))) dX11_competition_133 ?_
  refine lv_iload_n hx hb dX11_competition_136 rfl (lv_at hl 0 rfl) ?_
  refine va_iald hx hb hK hP 1 0 rfl rfl (by unfold vp_in; decide) dX11_competition_137 ?_
  refine lv_topi (fun r64 er64 => ?_)
  refine va_iast hx hb hK hP hD hS 0 1 rfl rfl (by unfold vp_in; decide) dX11_competition_138 (fun H locs hP hD hS => ?_)
  generalize upd g60 (10 : Int32).toNatClampNeg r64 = g65 at hP hD
  have hP : va_P (dC, dI) vwCl [(mc, .inl (kmc, 92, .inl g65)), (mb, .inl (kmb, 23, .inl g2)), (md, .inl (kmd, 14, .inl g3)), (m0, .inr (11, ((((((((fm.set 57 (.int 0)).set 62 (.int 0)).set 63 (.int (-1))).set 59 (.int 0)).set 60 (.int 0)).set 58 (.int 0)).set 1 (.int 0)).set 2 (.int (-1)))))] H := hP
  have hD : va_D A [(mc, .inl (kmc, 92, .inl g65)), (mb, .inl (kmb, 23, .inl g2)), (md, .inl (kmd, 14, .inl g3)), (m0, .inr (11, ((((((((fm.set 57 (.int 0)).set 62 (.int 0)).set 63 (.int (-1))).set 59 (.int 0)).set 60 (.int 0)).set 58 (.int 0)).set 1 (.int 0)).set 2 (.int (-1)))))] := hD
  refine lv_iinc (v := 11) (lv' := [(2, .int 11), (1, .int 0), (0, .ref m0)]) hx hb dX11_competition_139 hl (k := 0) rfl (by decide) (by decide) rfl (fun ls hl => ?_)
  refine lv_goto (tgt := 113) hx hb dX11_competition_142 (by decide) ?_
  refine lv_iload_n hx hb dX11_competition_113 rfl (lv_at hl 0 rfl) ?_
  refine lv_bipush (v := 23) hx hb dX11_competition_114 (by decide) ?_
  refine lv_icmp_ge (tgt := 145) hx hb dX11_competition_116 (by decide) (fun c66 => ?_) (fun c66 => ?_)
  · exact absurd c66 (by decide)
  refine lv_aload_n hx hb dX11_competition_119 rfl (lv_at hl 2 rfl) ?_
  refine va_get (D := (dC, dI)) (ci := 11) (v := .ref mc) (C := RX11) (T := TX11) (N := 114) hx hb ht inX11 hown hK hP 3 rfl rfl 5 (by decide) (ht _ kw_1432) (fun _ h9 => h9) (gs_ne (by decide) (gs_ne (by decide) (gs_ne (by decide) (gs_ne (by decide) (gs_ne (by decide) (gs_ne (by decide) (gs_ne (by decide) (gs_ne (by decide) hfm_5)))))))) dX11_competition_120 ?_
  refine lv_bipush (v := 23) hx hb dX11_competition_123 (by decide) ?_
  refine lv_aload_n hx hb dX11_competition_125 rfl (lv_at hl 2 rfl) ?_
  refine va_get (D := (dC, dI)) (ci := 11) (v := .int 0) (C := RX11) (T := TX11) (N := 114) hx hb ht inX11 hown hK hP 3 rfl rfl 6 (by decide) (ht _ kw_1433) (fun _ h9 => h9) (gs_ne (by decide) (gs_ne (by decide) (gs_ne (by decide) (gs_ne (by decide) (gs_ne (by decide) (gs_ne (by decide) (gs_ne (by decide) (gs_ne (by decide) hfm_6)))))))) dX11_competition_126 ?_
  refine lv_imul hx hb dX11_competition_129 ?_
  refine lv_topi (fun r67 er67 => ?_)
  have er67 : r67 = 0 := er67.trans (by decide)
  subst er67
  refine lv_iload_n hx hb dX11_competition_130 rfl (lv_at hl 0 rfl) ?_
  refine lv_iadd hx hb dX11_competition_131 ?_
  refine lv_topi (fun r68 er68 => ?_)
  have er68 : r68 = 11 := er68.trans (by decide)
  subst er68
  refine lv_aload_n hx hb dX11_competition_132 rfl (lv_at hl 2 rfl) ?_
  refine va_get (D := (dC, dI)) (ci := 11) (v := .ref mb) (C := RX11) (T := TX11) (N := 114) hx hb ht inX11 hown hK hP 3 rfl rfl 4 (by decide) (ht _ kw_1431) (fun _ h9 => h9) (gs_ne (by decide) (gs_ne (by decide) (gs_ne (by decide) (gs_ne (by decide) (gs_ne (by decide) (gs_ne (by decide) (gs_ne (by decide) (gs_ne (by decide) hfm_4)))))))) dX11_competition_133 ?_
  refine lv_iload_n hx hb dX11_competition_136 rfl (lv_at hl 0 rfl) ?_
  refine va_iald hx hb hK hP 1 0 rfl rfl (by unfold vp_in; decide) dX11_competition_137 ?_
  refine lv_topi (fun r69 er69 => ?_)
  refine va_iast hx hb hK hP hD hS 0 1 rfl rfl (by unfold vp_in; decide) dX11_competition_138 (fun H locs hP hD hS => ?_)
  generalize upd g65 (11 : Int32).toNatClampNeg r69 = g70 at hP hD
  have hP : va_P (dC, dI) vwCl [(mc, .inl (kmc, 92, .inl g70)), (mb, .inl (kmb, 23, .inl g2)), (md, .inl (kmd, 14, .inl g3)), (m0, .inr (11, ((((((((fm.set 57 (.int 0)).set 62 (.int 0)).set 63 (.int (-1))).set 59 (.int 0)).set 60 (.int 0)).set 58 (.int 0)).set 1 (.int 0)).set 2 (.int (-1)))))] H := hP
  have hD : va_D A [(mc, .inl (kmc, 92, .inl g70)), (mb, .inl (kmb, 23, .inl g2)), (md, .inl (kmd, 14, .inl g3)), (m0, .inr (11, ((((((((fm.set 57 (.int 0)).set 62 (.int 0)).set 63 (.int (-1))).set 59 (.int 0)).set 60 (.int 0)).set 58 (.int 0)).set 1 (.int 0)).set 2 (.int (-1)))))] := hD
  refine lv_iinc (v := 12) (lv' := [(2, .int 12), (1, .int 0), (0, .ref m0)]) hx hb dX11_competition_139 hl (k := 0) rfl (by decide) (by decide) rfl (fun ls hl => ?_)
  refine lv_goto (tgt := 113) hx hb dX11_competition_142 (by decide) ?_
  refine lv_iload_n hx hb dX11_competition_113 rfl (lv_at hl 0 rfl) ?_
  refine lv_bipush (v := 23) hx hb dX11_competition_114 (by decide) ?_
  refine lv_icmp_ge (tgt := 145) hx hb dX11_competition_116 (by decide) (fun c71 => ?_) (fun c71 => ?_)
  · exact absurd c71 (by decide)
  refine lv_aload_n hx hb dX11_competition_119 rfl (lv_at hl 2 rfl) ?_
  refine va_get (D := (dC, dI)) (ci := 11) (v := .ref mc) (C := RX11) (T := TX11) (N := 114) hx hb ht inX11 hown hK hP 3 rfl rfl 5 (by decide) (ht _ kw_1432) (fun _ h9 => h9) (gs_ne (by decide) (gs_ne (by decide) (gs_ne (by decide) (gs_ne (by decide) (gs_ne (by decide) (gs_ne (by decide) (gs_ne (by decide) (gs_ne (by decide) hfm_5)))))))) dX11_competition_120 ?_
  refine lv_bipush (v := 23) hx hb dX11_competition_123 (by decide) ?_
  refine lv_aload_n hx hb dX11_competition_125 rfl (lv_at hl 2 rfl) ?_
  refine va_get (D := (dC, dI)) (ci := 11) (v := .int 0) (C := RX11) (T := TX11) (N := 114) hx hb ht inX11 hown hK hP 3 rfl rfl 6 (by decide) (ht _ kw_1433) (fun _ h9 => h9) (gs_ne (by decide) (gs_ne (by decide) (gs_ne (by decide) (gs_ne (by decide) (gs_ne (by decide) (gs_ne (by decide) (gs_ne (by decide) (gs_ne (by decide) hfm_6)))))))) dX11_competition_126 ?_
  refine lv_imul hx hb dX11_competition_129 ?_
  refine lv_topi (fun r72 er72 => ?_)
  have er72 : r72 = 0 := er72.trans (by decide)
  subst er72
  refine lv_iload_n hx hb dX11_competition_130 rfl (lv_at hl 0 rfl) ?_
  refine lv_iadd hx hb dX11_competition_131 ?_
  refine lv_topi (fun r73 er73 => ?_)
  have er73 : r73 = 12 := er73.trans (by decide)
  subst er73
  refine lv_aload_n hx hb dX11_competition_132 rfl (lv_at hl 2 rfl) ?_
  refine va_get (D := (dC, dI)) (ci := 11) (v := .ref mb) (C := RX11) (T := TX11) (N := 114) hx hb ht inX11 hown hK hP 3 rfl rfl 4 (by decide) (ht _ kw_1431) (fun _ h9 => h9) (gs_ne (by decide) (gs_ne (by decide) (gs_ne (by decide) (gs_ne (by decide) (gs_ne (by decide) (gs_ne (by decide) (gs_ne (by decide) (gs_ne (by decide) hfm_4)))))))) dX11_competition_133 ?_
  refine lv_iload_n hx hb dX11_competition_136 rfl (lv_at hl 0 rfl) ?_
  refine va_iald hx hb hK hP 1 0 rfl rfl (by unfold vp_in; decide) dX11_competition_137 ?_
  refine lv_topi (fun r74 er74 => ?_)
  refine va_iast hx hb hK hP hD hS 0 1 rfl rfl (by unfold vp_in; decide) dX11_competition_138 (fun H locs hP hD hS => ?_)
  generalize upd g70 (12 : Int32).toNatClampNeg r74 = g75 at hP hD
  have hP : va_P (dC, dI) vwCl [(mc, .inl (kmc, 92, .inl g75)), (mb, .inl (kmb, 23, .inl g2)), (md, .inl (kmd, 14, .inl g3)), (m0, .inr (11, ((((((((fm.set 57 (.int 0)).set 62 (.int 0)).set 63 (.int (-1))).set 59 (.int 0)).set 60 (.int 0)).set 58 (.int 0)).set 1 (.int 0)).set 2 (.int (-1)))))] H := hP
  have hD : va_D A [(mc, .inl (kmc, 92, .inl g75)), (mb, .inl (kmb, 23, .inl g2)), (md, .inl (kmd, 14, .inl g3)), (m0, .inr (11, ((((((((fm.set 57 (.int 0)).set 62 (.int 0)).set 63 (.int (-1))).set 59 (.int 0)).set 60 (.int 0)).set 58 (.int 0)).set 1 (.int 0)).set 2 (.int (-1)))))] := hD
  refine lv_iinc (v := 13) (lv' := [(2, .int 13), (1, .int 0), (0, .ref m0)]) hx hb dX11_competition_139 hl (k := 0) rfl (by decide) (by decide) rfl (fun ls hl => ?_)
  refine lv_goto (tgt := 113) hx hb dX11_competition_142 (by decide) ?_
  refine lv_iload_n hx hb dX11_competition_113 rfl (lv_at hl 0 rfl) ?_
  refine lv_bipush (v := 23) hx hb dX11_competition_114 (by decide) ?_
  refine lv_icmp_ge (tgt := 145) hx hb dX11_competition_116 (by decide) (fun c76 => ?_) (fun c76 => ?_)
  · exact absurd c76 (by decide)
  refine lv_aload_n hx hb dX11_competition_119 rfl (lv_at hl 2 rfl) ?_
  refine va_get (D := (dC, dI)) (ci := 11) (v := .ref mc) (C := RX11) (T := TX11) (N := 114) hx hb ht inX11 hown hK hP 3 rfl rfl 5 (by decide) (ht _ kw_1432) (fun _ h9 => h9) (gs_ne (by decide) (gs_ne (by decide) (gs_ne (by decide) (gs_ne (by decide) (gs_ne (by decide) (gs_ne (by decide) (gs_ne (by decide) (gs_ne (by decide) hfm_5)))))))) dX11_competition_120 ?_
  refine lv_bipush (v := 23) hx hb dX11_competition_123 (by decide) ?_
  refine lv_aload_n hx hb dX11_competition_125 rfl (lv_at hl 2 rfl) ?_
  refine va_get (D := (dC, dI)) (ci := 11) (v := .int 0) (C := RX11) (T := TX11) (N := 114) hx hb ht inX11 hown hK hP 3 rfl rfl 6 (by decide) (ht _ kw_1433) (fun _ h9 => h9) (gs_ne (by decide) (gs_ne (by decide) (gs_ne (by decide) (gs_ne (by decide) (gs_ne (by decide) (gs_ne (by decide) (gs_ne (by decide) (gs_ne (by decide) hfm_6)))))))) dX11_competition_126 ?_
  refine lv_imul hx hb dX11_competition_129 ?_
  refine lv_topi (fun r77 er77 => ?_)
  have er77 : r77 = 0 := er77.trans (by decide)
  subst er77
  refine lv_iload_n hx hb dX11_competition_130 rfl (lv_at hl 0 rfl) ?_
  refine lv_iadd hx hb dX11_competition_131 ?_
  refine lv_topi (fun r78 er78 => ?_)
  have er78 : r78 = 13 := er78.trans (by decide)
  subst er78
  refine lv_aload_n hx hb dX11_competition_132 rfl (lv_at hl 2 rfl) ?_
  refine va_get (D := (dC, dI)) (ci := 11) (v := .ref mb) (C := RX11) (T := TX11) (N := 114) hx hb ht inX11 hown hK hP 3 rfl rfl 4 (by decide) (ht _ kw_1431) (fun _ h9 => h9) (gs_ne (by decide) (gs_ne (by decide) (gs_ne (by decide) (gs_ne (by decide) (gs_ne (by decide) (gs_ne (by decide) (gs_ne (by decide) (gs_ne (by decide) hfm_4)))))))) dX11_competition_133 ?_
  refine lv_iload_n hx hb dX11_competition_136 rfl (lv_at hl 0 rfl) ?_
  refine va_iald hx hb hK hP 1 0 rfl rfl (by unfold vp_in; decide) dX11_competition_137 ?_
  refine lv_topi (fun r79 er79 => ?_)
  refine va_iast hx hb hK hP hD hS 0 1 rfl rfl (by unfold vp_in; decide) dX11_competition_138 (fun H locs hP hD hS => ?_)
  generalize upd g75 (13 : Int32).toNatClampNeg r79 = g80 at hP hD
  have hP : va_P (dC, dI) vwCl [(mc, .inl (kmc, 92, .inl g80)), (mb, .inl (kmb, 23, .inl g2)), (md, .inl (kmd, 14, .inl g3)), (m0, .inr (11, ((((((((fm.set 57 (.int 0)).set 62 (.int 0)).set 63 (.int (-1))).set 59 (.int 0)).set 60 (.int 0)).set 58 (.int 0)).set 1 (.int 0)).set 2 (.int (-1)))))] H := hP
  have hD : va_D A [(mc, .inl (kmc, 92, .inl g80)), (mb, .inl (kmb, 23, .inl g2)), (md, .inl (kmd, 14, .inl g3)), (m0, .inr (11, ((((((((fm.set 57 (.int 0)).set 62 (.int 0)).set 63 (.int (-1))).set 59 (.int 0)).set 60 (.int 0)).set 58 (.int 0)).set 1 (.int 0)).set 2 (.int (-1)))))] := hD
  refine lv_iinc (v := 14) (lv' := [(2, .int 14), (1, .int 0), (0, .ref m0)]) hx hb dX11_competition_139 hl (k := 0) rfl (by decide) (by decide) rfl (fun ls hl => ?_)
  refine lv_goto (tgt := 113) hx hb dX11_competition_142 (by decide) ?_
  refine lv_iload_n hx hb dX11_competition_113 rfl (lv_at hl 0 rfl) ?_
  refine lv_bipush (v := 23) hx hb dX11_competition_114 (by decide) ?_
  refine lv_icmp_ge (tgt := 145) hx hb dX11_competition_116 (by decide) (fun c81 => ?_) (fun c81 => ?_)
  · exact absurd c81 (by decide)
  refine lv_aload_n hx hb dX11_competition_119 rfl (lv_at hl 2 rfl) ?_
  refine va_get (D := (dC, dI)) (ci := 11) (v := .ref mc) (C := RX11) (T := TX11) (N := 114) hx hb ht inX11 hown hK hP 3 rfl rfl 5 (by decide) (ht _ kw_1432) (fun _ h9 => h9) (gs_ne (by decide) (gs_ne (by decide) (gs_ne (by decide) (gs_ne (by decide) (gs_ne (by decide) (gs_ne (by decide) (gs_ne (by decide) (gs_ne (by decide) hfm_5)))))))) dX11_competition_120 ?_
  refine lv_bipush (v := 23) hx hb dX11_competition_123 (by decide) ?_
  refine lv_aload_n hx hb dX11_competition_125 rfl (lv_at hl 2 rfl) ?_
  refine va_get (D := (dC, dI)) (ci := 11) (v := .int 0) (C := RX11) (T := TX11) (N := 114) hx hb ht inX11 hown hK hP 3 rfl rfl 6 (by decide) (ht _ kw_1433) (fun _ h9 => h9) (gs_ne (by decide) (gs_ne (by decide) (gs_ne (by decide) (gs_ne (by decide) (gs_ne (by decide) (gs_ne (by decide) (gs_ne (by decide) (gs_ne (by decide) hfm_6)))))))) dX11_competition_126 ?_
  refine lv_imul hx hb dX11_competition_129 ?_
  refine lv_topi (fun r82 er82 => ?_)
  have er82 : r82 = 0 := er82.trans (by decide)
  subst er82
  refine lv_iload_n hx hb dX11_competition_130 rfl (lv_at hl 0 rfl) ?_
  refine lv_iadd hx hb dX11_competition_131 ?_
  refine lv_topi (fun r83 er83 => ?_)
  have er83 : r83 = 14 := er83.trans (by decide)
  subst er83
  refine lv_aload_n hx hb dX11_competition_132 rfl (lv_at hl 2 rfl) ?_
  refine va_get (D := (dC, dI)) (ci := 11) (v := .ref mb) (C := RX11) (T := TX11) (N := 114) hx hb ht inX11 hown hK hP 3 rfl rfl 4 (by decide) (ht _ kw_1431) (fun _ h9 => h9) (gs_ne (by decide) (gs_ne (by decide) (gs_ne (by decide) (gs_ne (by decide) (gs_ne (by decide) (gs_ne (by decide) (gs_ne (by decide) (gs_ne (by decide) hfm_4)))))))) dX11_competition_133 ?_
  refine lv_iload_n hx hb dX11_competition_136 rfl (lv_at hl 0 rfl) ?_
  refine va_iald hx hb hK hP 1 0 rfl rfl (by unfold vp_in; decide) dX11_competition_137 ?_
  refine lv_topi (fun r84 er84 => ?_)
  refine va_iast hx hb hK hP hD hS 0 1 rfl rfl (by unfold vp_in; decide) dX11_competition_138 (fun H locs hP hD hS => ?_)
  generalize upd g80 (14 : Int32).toNatClampNeg r84 = g85 at hP hD
  have hP : va_P (dC, dI) vwCl [(mc, .inl (kmc, 92, .inl g85)), (mb, .inl (kmb, 23, .inl g2)), (md, .inl (kmd, 14, .inl g3)), (m0, .inr (11, ((((((((fm.set 57 (.int 0)).set 62 (.int 0)).set 63 (.int (-1))).set 59 (.int 0)).set 60 (.int 0)).set 58 (.int 0)).set 1 (.int 0)).set 2 (.int (-1)))))] H := hP
  have hD : va_D A [(mc, .inl (kmc, 92, .inl g85)), (mb, .inl (kmb, 23, .inl g2)), (md, .inl (kmd, 14, .inl g3)), (m0, .inr (11, ((((((((fm.set 57 (.int 0)).set 62 (.int 0)).set 63 (.int (-1))).set 59 (.int 0)).set 60 (.int 0)).set 58 (.int 0)).set 1 (.int 0)).set 2 (.int (-1)))))] := hD
  refine lv_iinc (v := 15) (lv' := [(2, .int 15), (1, .int 0), (0, .ref m0)]) hx hb dX11_competition_139 hl (k := 0) rfl (by decide) (by decide) rfl (fun ls hl => ?_)
  refine lv_goto (tgt := 113) hx hb dX11_competition_142 (by decide) ?_
  refine lv_iload_n hx hb dX11_competition_113 rfl (lv_at hl 0 rfl) ?_
  refine lv_bipush (v := 23) hx hb dX11_competition_114 (by decide) ?_
  refine lv_icmp_ge (tgt := 145) hx hb dX11_competition_116 (by decide) (fun c86 => ?_) (fun c86 => ?_)
  · exact absurd c86 (by decide)
  refine lv_aload_n hx hb dX11_competition_119 rfl (lv_at hl 2 rfl) ?_
  refine va_get (D := (dC, dI)) (ci := 11) (v := .ref mc) (C := RX11) (T := TX11) (N := 114) hx hb ht inX11 hown hK hP 3 rfl rfl 5 (by decide) (ht _ kw_1432) (fun _ h9 => h9) (gs_ne (by decide) (gs_ne (by decide) (gs_ne (by decide) (gs_ne (by decide) (gs_ne (by decide) (gs_ne (by decide) (gs_ne (by decide) (gs_ne (by decide) hfm_5)))))))) dX11_competition_120 ?_
  refine lv_bipush (v := 23) hx hb dX11_competition_123 (by decide) ?_
  refine lv_aload_n hx hb dX11_competition_125 rfl (lv_at hl 2 rfl) ?_
  refine va_get (D := (dC, dI)) (ci := 11) (v := .int 0) (C := RX11) (T := TX11) (N := 114) hx hb ht inX11 hown hK hP 3 rfl rfl 6 (by decide) (ht _ kw_1433) (fun _ h9 => h9) (gs_ne (by decide) (gs_ne (by decide) (gs_ne (by decide) (gs_ne (by decide) (gs_ne (by decide) (gs_ne (by decide) (gs_ne (by decide) (gs_ne (by decide) hfm_6)))))))) dX11_competition_126 ?_
  refine lv_imul hx hb dX11_competition_129 ?_
  refine lv_topi (fun r87 er87 => ?_)
  have er87 : r87 = 0 := er87.trans (by decide)
  subst er87
  refine lv_iload_n hx hb dX11_competition_130 rfl (lv_at hl 0 rfl) ?_
  refine lv_iadd hx hb dX11_competition_131 ?_
  refine lv_topi (fun r88 er88 => ?_)
  have er88 : r88 = 15 := er88.trans (by decide)
  subst er88
  refine lv_aload_n hx hb dX11_competition_132 rfl (lv_at hl 2 rfl) ?_
  refine va_get (D := (dC, dI)) (ci := 11) (v := .ref mb) (C := RX11) (T := TX11) (N := 114) hx hb ht inX11 hown hK hP 3 rfl rfl 4 (by decide) (ht _ kw_1431) (fun _ h9 => h9) (gs_ne (by decide) (gs_ne (by decide) (gs_ne (by decide) (gs_ne (by decide) (gs_ne (by decide) (gs_ne (by decide) (gs_ne (by decide) (gs_ne (by decide) hfm_4)))))))) dX11_competition_133 ?_
  refine lv_iload_n hx hb dX11_competition_136 rfl (lv_at hl 0 rfl) ?_
  refine va_iald hx hb hK hP 1 0 rfl rfl (by unfold vp_in; decide) dX11_competition_137 ?_
  refine lv_topi (fun r89 er89 => ?_)
  refine va_iast hx hb hK hP hD hS 0 1 rfl rfl (by unfold vp_in; decide) dX11_competition_138 (fun H locs hP hD hS => ?_)
  generalize upd g85 (15 : Int32).toNatClampNeg r89 = g90 at hP hD
  have hP : va_P (dC, dI) vwCl [(mc, .inl (kmc, 92, .inl g90)), (mb, .inl (kmb, 23, .inl g2)), (md, .inl (kmd, 14, .inl g3)), (m0, .inr (11, ((((((((fm.set 57 (.int 0)).set 62 (.int 0)).set 63 (.int (-1))).set 59 (.int 0)).set 60 (.int 0)).set 58 (.int 0)).set 1 (.int 0)).set 2 (.int (-1)))))] H := hP
  have hD : va_D A [(mc, .inl (kmc, 92, .inl g90)), (mb, .inl (kmb, 23, .inl g2)), (md, .inl (kmd, 14, .inl g3)), (m0, .inr (11, ((((((((fm.set 57 (.int 0)).set 62 (.int 0)).set 63 (.int (-1))).set 59 (.int 0)).set 60 (.int 0)).set 58 (.int 0)).set 1 (.int 0)).set 2 (.int (-1)))))] := hD
  refine lv_iinc (v := 16) (lv' := [(2, .int 16), (1, .int 0), (0, .ref m0)]) hx hb dX11_competition_139 hl (k := 0) rfl (by decide) (by decide) rfl (fun ls hl => ?_)
  refine lv_goto (tgt := 113) hx hb dX11_competition_142 (by decide) ?_
  refine lv_iload_n hx hb dX11_competition_113 rfl (lv_at hl 0 rfl) ?_
  refine lv_bipush (v := 23) hx hb dX11_competition_114 (by decide) ?_
  refine lv_icmp_ge (tgt := 145) hx hb dX11_competition_116 (by decide) (fun c91 => ?_) (fun c91 => ?_)
  · exact absurd c91 (by decide)
  refine lv_aload_n hx hb dX11_competition_119 rfl (lv_at hl 2 rfl) ?_
  refine va_get (D := (dC, dI)) (ci := 11) (v := .ref mc) (C := RX11) (T := TX11) (N := 114) hx hb ht inX11 hown hK hP 3 rfl rfl 5 (by decide) (ht _ kw_1432) (fun _ h9 => h9) (gs_ne (by decide) (gs_ne (by decide) (gs_ne (by decide) (gs_ne (by decide) (gs_ne (by decide) (gs_ne (by decide) (gs_ne (by decide) (gs_ne (by decide) hfm_5)))))))) dX11_competition_120 ?_
  refine lv_bipush (v := 23) hx hb dX11_competition_123 (by decide) ?_
  refine lv_aload_n hx hb dX11_competition_125 rfl (lv_at hl 2 rfl) ?_
  refine va_get (D := (dC, dI)) (ci := 11) (v := .int 0) (C := RX11) (T := TX11) (N := 114) hx hb ht inX11 hown hK hP 3 rfl rfl 6 (by decide) (ht _ kw_1433) (fun _ h9 => h9) (gs_ne (by decide) (gs_ne (by decide) (gs_ne (by decide) (gs_ne (by decide) (gs_ne (by decide) (gs_ne (by decide) (gs_ne (by decide) (gs_ne (by decide) hfm_6)))))))) dX11_competition_126 ?_
  refine lv_imul hx hb dX11_competition_129 ?_
  refine lv_topi (fun r92 er92 => ?_)
  have er92 : r92 = 0 := er92.trans (by decide)
  subst er92
  refine lv_iload_n hx hb dX11_competition_130 rfl (lv_at hl 0 rfl) ?_
  refine lv_iadd hx hb dX11_competition_131 ?_
  refine lv_topi (fun r93 er93 => ?_)
  have er93 : r93 = 16 := er93.trans (by decide)
  subst er93
  refine lv_aload_n hx hb dX11_competition_132 rfl (lv_at hl 2 rfl) ?_
  refine va_get (D := (dC, dI)) (ci := 11) (v := .ref mb) (C := RX11) (T := TX11) (N := 114) hx hb ht inX11 hown hK hP 3 rfl rfl 4 (by decide) (ht _ kw_1431) (fun _ h9 => h9) (gs_ne (by decide) (gs_ne (by decide) (gs_ne (by decide) (gs_ne (by decide) (gs_ne (by decide) (gs_ne (by decide) (gs_ne (by decide) (gs_ne (by decide) hfm_4)))))))) dX11_competition_133 ?_
  refine lv_iload_n hx hb dX11_competition_136 rfl (lv_at hl 0 rfl) ?_
  refine va_iald hx hb hK hP 1 0 rfl rfl (by unfold vp_in; decide) dX11_competition_137 ?_
  refine lv_topi (fun r94 er94 => ?_)
  refine va_iast hx hb hK hP hD hS 0 1 rfl rfl (by unfold vp_in; decide) dX11_competition_138 (fun H locs hP hD hS => ?_)
  generalize upd g90 (16 : Int32).toNatClampNeg r94 = g95 at hP hD
  have hP : va_P (dC, dI) vwCl [(mc, .inl (kmc, 92, .inl g95)), (mb, .inl (kmb, 23, .inl g2)), (md, .inl (kmd, 14, .inl g3)), (m0, .inr (11, ((((((((fm.set 57 (.int 0)).set 62 (.int 0)).set 63 (.int (-1))).set 59 (.int 0)).set 60 (.int 0)).set 58 (.int 0)).set 1 (.int 0)).set 2 (.int (-1)))))] H := hP
  have hD : va_D A [(mc, .inl (kmc, 92, .inl g95)), (mb, .inl (kmb, 23, .inl g2)), (md, .inl (kmd, 14, .inl g3)), (m0, .inr (11, ((((((((fm.set 57 (.int 0)).set 62 (.int 0)).set 63 (.int (-1))).set 59 (.int 0)).set 60 (.int 0)).set 58 (.int 0)).set 1 (.int 0)).set 2 (.int (-1)))))] := hD
  refine lv_iinc (v := 17) (lv' := [(2, .int 17), (1, .int 0), (0, .ref m0)]) hx hb dX11_competition_139 hl (k := 0) rfl (by decide) (by decide) rfl (fun ls hl => ?_)
  refine lv_goto (tgt := 113) hx hb dX11_competition_142 (by decide) ?_
  refine lv_iload_n hx hb dX11_competition_113 rfl (lv_at hl 0 rfl) ?_
  refine lv_bipush (v := 23) hx hb dX11_competition_114 (by decide) ?_
  refine lv_icmp_ge (tgt := 145) hx hb dX11_competition_116 (by decide) (fun c96 => ?_) (fun c96 => ?_)
  · exact absurd c96 (by decide)
  refine lv_aload_n hx hb dX11_competition_119 rfl (lv_at hl 2 rfl) ?_
  refine va_get (D := (dC, dI)) (ci := 11) (v := .ref mc) (C := RX11) (T := TX11) (N := 114) hx hb ht inX11 hown hK hP 3 rfl rfl 5 (by decide) (ht _ kw_1432) (fun _ h9 => h9) (gs_ne (by decide) (gs_ne (by decide) (gs_ne (by decide) (gs_ne (by decide) (gs_ne (by decide) (gs_ne (by decide) (gs_ne (by decide) (gs_ne (by decide) hfm_5)))))))) dX11_competition_120 ?_
  refine lv_bipush (v := 23) hx hb dX11_competition_123 (by decide) ?_
  refine lv_aload_n hx hb dX11_competition_125 rfl (lv_at hl 2 rfl) ?_
  refine va_get (D := (dC, dI)) (ci := 11) (v := .int 0) (C := RX11) (T := TX11) (N := 114) hx hb ht inX11 hown hK hP 3 rfl rfl 6 (by decide) (ht _ kw_1433) (fun _ h9 => h9) (gs_ne (by decide) (gs_ne (by decide) (gs_ne (by decide) (gs_ne (by decide) (gs_ne (by decide) (gs_ne (by decide) (gs_ne (by decide) (gs_ne (by decide) hfm_6)))))))) dX11_competition_126 ?_
  refine lv_imul hx hb dX11_competition_129 ?_
  refine lv_topi (fun r97 er97 => ?_)
  have er97 : r97 = 0 := er97.trans (by decide)
  subst er97
  refine lv_iload_n hx hb dX11_competition_130 rfl (lv_at hl 0 rfl) ?_
  refine lv_iadd hx hb dX11_competition_131 ?_
  refine lv_topi (fun r98 er98 => ?_)
  have er98 : r98 = 17 := er98.trans (by decide)
  subst er98
  refine lv_aload_n hx hb dX11_competition_132 rfl (lv_at hl 2 rfl) ?_
  refine va_get (D := (dC, dI)) (ci := 11) (v := .ref mb) (C := RX11) (T := TX11) (N := 114) hx hb ht inX11 hown hK hP 3 rfl rfl 4 (by decide) (ht _ kw_1431) (fun _ h9 => h9) (gs_ne (by decide) (gs_ne (by decide) (gs_ne (by decide) (gs_ne (by decide) (gs_ne (by decide) (gs_ne (by decide) (gs_ne (by decide) (gs_ne (by decide) hfm_4)))))))) dX11_competition_133 ?_
  refine lv_iload_n hx hb dX11_competition_136 rfl (lv_at hl 0 rfl) ?_
  refine va_iald hx hb hK hP 1 0 rfl rfl (by unfold vp_in; decide) dX11_competition_137 ?_
  refine lv_topi (fun r99 er99 => ?_)
  refine va_iast hx hb hK hP hD hS 0 1 rfl rfl (by unfold vp_in; decide) dX11_competition_138 (fun H locs hP hD hS => ?_)
  generalize upd g95 (17 : Int32).toNatClampNeg r99 = g100 at hP hD
  have hP : va_P (dC, dI) vwCl [(mc, .inl (kmc, 92, .inl g100)), (mb, .inl (kmb, 23, .inl g2)), (md, .inl (kmd, 14, .inl g3)), (m0, .inr (11, ((((((((fm.set 57 (.int 0)).set 62 (.int 0)).set 63 (.int (-1))).set 59 (.int 0)).set 60 (.int 0)).set 58 (.int 0)).set 1 (.int 0)).set 2 (.int (-1)))))] H := hP
  have hD : va_D A [(mc, .inl (kmc, 92, .inl g100)), (mb, .inl (kmb, 23, .inl g2)), (md, .inl (kmd, 14, .inl g3)), (m0, .inr (11, ((((((((fm.set 57 (.int 0)).set 62 (.int 0)).set 63 (.int (-1))).set 59 (.int 0)).set 60 (.int 0)).set 58 (.int 0)).set 1 (.int 0)).set 2 (.int (-1)))))] := hD
  refine lv_iinc (v := 18) (lv' := [(2, .int 18), (1, .int 0), (0, .ref m0)]) hx hb dX11_competition_139 hl (k := 0) rfl (by decide) (by decide) rfl (fun ls hl => ?_)
  refine lv_goto (tgt := 113) hx hb dX11_competition_142 (by decide) ?_
  refine lv_iload_n hx hb dX11_competition_113 rfl (lv_at hl 0 rfl) ?_
  refine lv_bipush (v := 23) hx hb dX11_competition_114 (by decide) ?_
  refine lv_icmp_ge (tgt := 145) hx hb dX11_competition_116 (by decide) (fun c101 => ?_) (fun c101 => ?_)
  · exact absurd c101 (by decide)
  refine lv_aload_n hx hb dX11_competition_119 rfl (lv_at hl 2 rfl) ?_
  refine va_get (D := (dC, dI)) (ci := 11) (v := .ref mc) (C := RX11) (T := TX11) (N := 114) hx hb ht inX11 hown hK hP 3 rfl rfl 5 (by decide) (ht _ kw_1432) (fun _ h9 => h9) (gs_ne (by decide) (gs_ne (by decide) (gs_ne (by decide) (gs_ne (by decide) (gs_ne (by decide) (gs_ne (by decide) (gs_ne (by decide) (gs_ne (by decide) hfm_5)))))))) dX11_competition_120 ?_
  refine lv_bipush (v := 23) hx hb dX11_competition_123 (by decide) ?_
  refine lv_aload_n hx hb dX11_competition_125 rfl (lv_at hl 2 rfl) ?_
  refine va_get (D := (dC, dI)) (ci := 11) (v := .int 0) (C := RX11) (T := TX11) (N := 114) hx hb ht inX11 hown hK hP 3 rfl rfl 6 (by decide) (ht _ kw_1433) (fun _ h9 => h9) (gs_ne (by decide) (gs_ne (by decide) (gs_ne (by decide) (gs_ne (by decide) (gs_ne (by decide) (gs_ne (by decide) (gs_ne (by decide) (gs_ne (by decide) hfm_6)))))))) dX11_competition_126 ?_
  refine lv_imul hx hb dX11_competition_129 ?_
  refine lv_topi (fun r102 er102 => ?_)
  have er102 : r102 = 0 := er102.trans (by decide)
  subst er102
  refine lv_iload_n hx hb dX11_competition_130 rfl (lv_at hl 0 rfl) ?_
  refine lv_iadd hx hb dX11_competition_131 ?_
  refine lv_topi (fun r103 er103 => ?_)
  have er103 : r103 = 18 := er103.trans (by decide)
  subst er103
  refine lv_aload_n hx hb dX11_competition_132 rfl (lv_at hl 2 rfl) ?_
  refine va_get (D := (dC, dI)) (ci := 11) (v := .ref mb) (C := RX11) (T := TX11) (N := 114) hx hb ht inX11 hown hK hP 3 rfl rfl 4 (by decide) (ht _ kw_1431) (fun _ h9 => h9) (gs_ne (by decide) (gs_ne (by decide) (gs_ne (by decide) (gs_ne (by decide) (gs_ne (by decide) (gs_ne (by decide) (gs_ne (by decide) (gs_ne (by decide) hfm_4)))))))) dX11_competition_133 ?_
  refine lv_iload_n hx hb dX11_competition_136 rfl (lv_at hl 0 rfl) ?_
  refine va_iald hx hb hK hP 1 0 rfl rfl (by unfold vp_in; decide) dX11_competition_137 ?_
  refine lv_topi (fun r104 er104 => ?_)
  refine va_iast hx hb hK hP hD hS 0 1 rfl rfl (by unfold vp_in; decide) dX11_competition_138 (fun H locs hP hD hS => ?_)
  generalize upd g100 (18 : Int32).toNatClampNeg r104 = g105 at hP hD
  have hP : va_P (dC, dI) vwCl [(mc, .inl (kmc, 92, .inl g105)), (mb, .inl (kmb, 23, .inl g2)), (md, .inl (kmd, 14, .inl g3)), (m0, .inr (11, ((((((((fm.set 57 (.int 0)).set 62 (.int 0)).set 63 (.int (-1))).set 59 (.int 0)).set 60 (.int 0)).set 58 (.int 0)).set 1 (.int 0)).set 2 (.int (-1)))))] H := hP
  have hD : va_D A [(mc, .inl (kmc, 92, .inl g105)), (mb, .inl (kmb, 23, .inl g2)), (md, .inl (kmd, 14, .inl g3)), (m0, .inr (11, ((((((((fm.set 57 (.int 0)).set 62 (.int 0)).set 63 (.int (-1))).set 59 (.int 0)).set 60 (.int 0)).set 58 (.int 0)).set 1 (.int 0)).set 2 (.int (-1)))))] := hD
  refine lv_iinc (v := 19) (lv' := [(2, .int 19), (1, .int 0), (0, .ref m0)]) hx hb dX11_competition_139 hl (k := 0) rfl (by decide) (by decide) rfl (fun ls hl => ?_)
  refine lv_goto (tgt := 113) hx hb dX11_competition_142 (by decide) ?_
  refine lv_iload_n hx hb dX11_competition_113 rfl (lv_at hl 0 rfl) ?_
  refine lv_bipush (v := 23) hx hb dX11_competition_114 (by decide) ?_
  refine lv_icmp_ge (tgt := 145) hx hb dX11_competition_116 (by decide) (fun c106 => ?_) (fun c106 => ?_)
  · exact absurd c106 (by decide)
  refine lv_aload_n hx hb dX11_competition_119 rfl (lv_at hl 2 rfl) ?_
  refine va_get (D := (dC, dI)) (ci := 11) (v := .ref mc) (C := RX11) (T := TX11) (N := 114) hx hb ht inX11 hown hK hP 3 rfl rfl 5 (by decide) (ht _ kw_1432) (fun _ h9 => h9) (gs_ne (by decide) (gs_ne (by decide) (gs_ne (by decide) (gs_ne (by decide) (gs_ne (by decide) (gs_ne (by decide) (gs_ne (by decide) (gs_ne (by decide) hfm_5)))))))) dX11_competition_120 ?_
  refine lv_bipush (v := 23) hx hb dX11_competition_123 (by decide) ?_
  refine lv_aload_n hx hb dX11_competition_125 rfl (lv_at hl 2 rfl) ?_
  refine va_get (D := (dC, dI)) (ci := 11) (v := .int 0) (C := RX11) (T := TX11) (N := 114) hx hb ht inX11 hown hK hP 3 rfl rfl 6 (by decide) (ht _ kw_1433) (fun _ h9 => h9) (gs_ne (by decide) (gs_ne (by decide) (gs_ne (by decide) (gs_ne (by decide) (gs_ne (by decide) (gs_ne (by decide) (gs_ne (by decide) (gs_ne (by decide) hfm_6)))))))) dX11_competition_126 ?_
  refine lv_imul hx hb dX11_competition_129 ?_
  refine lv_topi (fun r107 er107 => ?_)
  have er107 : r107 = 0 := er107.trans (by decide)
  subst er107
  refine lv_iload_n hx hb dX11_competition_130 rfl (lv_at hl 0 rfl) ?_
  refine lv_iadd hx hb dX11_competition_131 ?_
  refine lv_topi (fun r108 er108 => ?_)
  have er108 : r108 = 19 := er108.trans (by decide)
  subst er108
  refine lv_aload_n hx hb dX11_competition_132 rfl (lv_at hl 2 rfl) ?_
  refine va_get (D := (dC, dI)) (ci := 11) (v := .ref mb) (C := RX11) (T := TX11) (N := 114) hx hb ht inX11 hown hK hP 3 rfl rfl 4 (by decide) (ht _ kw_1431) (fun _ h9 => h9) (gs_ne (by decide) (gs_ne (by decide) (gs_ne (by decide) (gs_ne (by decide) (gs_ne (by decide) (gs_ne (by decide) (gs_ne (by decide) (gs_ne (by decide) hfm_4)))))))) dX11_competition_133 ?_
  refine lv_iload_n hx hb dX11_competition_136 rfl (lv_at hl 0 rfl) ?_
  refine va_iald hx hb hK hP 1 0 rfl rfl (by unfold vp_in; decide) dX11_competition_137 ?_
  refine lv_topi (fun r109 er109 => ?_)
  refine va_iast hx hb hK hP hD hS 0 1 rfl rfl (by unfold vp_in; decide) dX11_competition_138 (fun H locs hP hD hS => ?_)
  generalize upd g105 (19 : Int32).toNatClampNeg r109 = g110 at hP hD
  have hP : va_P (dC, dI) vwCl [(mc, .inl (kmc, 92, .inl g110)), (mb, .inl (kmb, 23, .inl g2)), (md, .inl (kmd, 14, .inl g3)), (m0, .inr (11, ((((((((fm.set 57 (.int 0)).set 62 (.int 0)).set 63 (.int (-1))).set 59 (.int 0)).set 60 (.int 0)).set 58 (.int 0)).set 1 (.int 0)).set 2 (.int (-1)))))] H := hP
  have hD : va_D A [(mc, .inl (kmc, 92, .inl g110)), (mb, .inl (kmb, 23, .inl g2)), (md, .inl (kmd, 14, .inl g3)), (m0, .inr (11, ((((((((fm.set 57 (.int 0)).set 62 (.int 0)).set 63 (.int (-1))).set 59 (.int 0)).set 60 (.int 0)).set 58 (.int 0)).set 1 (.int 0)).set 2 (.int (-1)))))] := hD
  refine lv_iinc (v := 20) (lv' := [(2, .int 20), (1, .int 0), (0, .ref m0)]) hx hb dX11_competition_139 hl (k := 0) rfl (by decide) (by decide) rfl (fun ls hl => ?_)
  refine lv_goto (tgt := 113) hx hb dX11_competition_142 (by decide) ?_
  refine lv_iload_n hx hb dX11_competition_113 rfl (lv_at hl 0 rfl) ?_
  refine lv_bipush (v := 23) hx hb dX11_competition_114 (by decide) ?_
  refine lv_icmp_ge (tgt := 145) hx hb dX11_competition_116 (by decide) (fun c111 => ?_) (fun c111 => ?_)
  · exact absurd c111 (by decide)
  refine lv_aload_n hx hb dX11_competition_119 rfl (lv_at hl 2 rfl) ?_
  refine va_get (D := (dC, dI)) (ci := 11) (v := .ref mc) (C := RX11) (T := TX11) (N := 114) hx hb ht inX11 hown hK hP 3 rfl rfl 5 (by decide) (ht _ kw_1432) (fun _ h9 => h9) (gs_ne (by decide) (gs_ne (by decide) (gs_ne (by decide) (gs_ne (by decide) (gs_ne (by decide) (gs_ne (by decide) (gs_ne (by decide) (gs_ne (by decide) hfm_5)))))))) dX11_competition_120 ?_
  refine lv_bipush (v := 23) hx hb dX11_competition_123 (by decide) ?_
  refine lv_aload_n hx hb dX11_competition_125 rfl (lv_at hl 2 rfl) ?_
  refine va_get (D := (dC, dI)) (ci := 11) (v := .int 0) (C := RX11) (T := TX11) (N := 114) hx hb ht inX11 hown hK hP 3 rfl rfl 6 (by decide) (ht _ kw_1433) (fun _ h9 => h9) (gs_ne (by decide) (gs_ne (by decide) (gs_ne (by decide) (gs_ne (by decide) (gs_ne (by decide) (gs_ne (by decide) (gs_ne (by decide) (gs_ne (by decide) hfm_6)))))))) dX11_competition_126 ?_
  refine lv_imul hx hb dX11_competition_129 ?_
  refine lv_topi (fun r112 er112 => ?_)
  have er112 : r112 = 0 := er112.trans (by decide)
  subst er112
  refine lv_iload_n hx hb dX11_competition_130 rfl (lv_at hl 0 rfl) ?_
  refine lv_iadd hx hb dX11_competition_131 ?_
  refine lv_topi (fun r113 er113 => ?_)
  have er113 : r113 = 20 := er113.trans (by decide)
  subst er113
  refine lv_aload_n hx hb dX11_competition_132 rfl (lv_at hl 2 rfl) ?_
  refine va_get (D := (dC, dI)) (ci := 11) (v := .ref mb) (C := RX11) (T := TX11) (N := 114) hx hb ht inX11 hown hK hP 3 rfl rfl 4 (by decide) (ht _ kw_1431) (fun _ h9 => h9) (gs_ne (by decide) (gs_ne (by decide) (gs_ne (by decide) (gs_ne (by decide) (gs_ne (by decide) (gs_ne (by decide) (gs_ne (by decide) (gs_ne (by decide) hfm_4)))))))) dX11_competition_133 ?_
  refine lv_iload_n hx hb dX11_competition_136 rfl (lv_at hl 0 rfl) ?_
  refine va_iald hx hb hK hP 1 0 rfl rfl (by unfold vp_in; decide) dX11_competition_137 ?_
  refine lv_topi (fun r114 er114 => ?_)
  refine va_iast hx hb hK hP hD hS 0 1 rfl rfl (by unfold vp_in; decide) dX11_competition_138 (fun H locs hP hD hS => ?_)
  generalize upd g110 (20 : Int32).toNatClampNeg r114 = g115 at hP hD
  have hP : va_P (dC, dI) vwCl [(mc, .inl (kmc, 92, .inl g115)), (mb, .inl (kmb, 23, .inl g2)), (md, .inl (kmd, 14, .inl g3)), (m0, .inr (11, ((((((((fm.set 57 (.int 0)).set 62 (.int 0)).set 63 (.int (-1))).set 59 (.int 0)).set 60 (.int 0)).set 58 (.int 0)).set 1 (.int 0)).set 2 (.int (-1)))))] H := hP
  have hD : va_D A [(mc, .inl (kmc, 92, .inl g115)), (mb, .inl (kmb, 23, .inl g2)), (md, .inl (kmd, 14, .inl g3)), (m0, .inr (11, ((((((((fm.set 57 (.int 0)).set 62 (.int 0)).set 63 (.int (-1))).set 59 (.int 0)).set 60 (.int 0)).set 58 (.int 0)).set 1 (.int 0)).set 2 (.int (-1)))))] := hD
  refine lv_iinc (v := 21) (lv' := [(2, .int 21), (1, .int 0), (0, .ref m0)]) hx hb dX11_competition_139 hl (k := 0) rfl (by decide) (by decide) rfl (fun ls hl => ?_)
  refine lv_goto (tgt := 113) hx hb dX11_competition_142 (by decide) ?_
  refine lv_iload_n hx hb dX11_competition_113 rfl (lv_at hl 0 rfl) ?_
  refine lv_bipush (v := 23) hx hb dX11_competition_114 (by decide) ?_
  refine lv_icmp_ge (tgt := 145) hx hb dX11_competition_116 (by decide) (fun c116 => ?_) (fun c116 => ?_)
  · exact absurd c116 (by decide)
  refine lv_aload_n hx hb dX11_competition_119 rfl (lv_at hl 2 rfl) ?_
  refine va_get (D := (dC, dI)) (ci := 11) (v := .ref mc) (C := RX11) (T := TX11) (N := 114) hx hb ht inX11 hown hK hP 3 rfl rfl 5 (by decide) (ht _ kw_1432) (fun _ h9 => h9) (gs_ne (by decide) (gs_ne (by decide) (gs_ne (by decide) (gs_ne (by decide) (gs_ne (by decide) (gs_ne (by decide) (gs_ne (by decide) (gs_ne (by decide) hfm_5)))))))) dX11_competition_120 ?_
  refine lv_bipush (v := 23) hx hb dX11_competition_123 (by decide) ?_
  refine lv_aload_n hx hb dX11_competition_125 rfl (lv_at hl 2 rfl) ?_
  refine va_get (D := (dC, dI)) (ci := 11) (v := .int 0) (C := RX11) (T := TX11) (N := 114) hx hb ht inX11 hown hK hP 3 rfl rfl 6 (by decide) (ht _ kw_1433) (fun _ h9 => h9) (gs_ne (by decide) (gs_ne (by decide) (gs_ne (by decide) (gs_ne (by decide) (gs_ne (by decide) (gs_ne (by decide) (gs_ne (by decide) (gs_ne (by decide) hfm_6)))))))) dX11_competition_126 ?_
  refine lv_imul hx hb dX11_competition_129 ?_
  refine lv_topi (fun r117 er117 => ?_)
  have er117 : r117 = 0 := er117.trans (by decide)
  subst er117
  refine lv_iload_n hx hb dX11_competition_130 rfl (lv_at hl 0 rfl) ?_
  refine lv_iadd hx hb dX11_competition_131 ?_
  refine lv_topi (fun r118 er118 => ?_)
  have er118 : r118 = 21 := er118.trans (by decide)
  subst er118
  refine lv_aload_n hx hb dX11_competition_132 rfl (lv_at hl 2 rfl) ?_
  refine va_get (D := (dC, dI)) (ci := 11) (v := .ref mb) (C := RX11) (T := TX11) (N := 114) hx hb ht inX11 hown hK hP 3 rfl rfl 4 (by decide) (ht _ kw_1431) (fun _ h9 => h9) (gs_ne (by decide) (gs_ne (by decide) (gs_ne (by decide) (gs_ne (by decide) (gs_ne (by decide) (gs_ne (by decide) (gs_ne (by decide) (gs_ne (by decide) hfm_4)))))))) dX11_competition_133 ?_
  refine lv_iload_n hx hb dX11_competition_136 rfl (lv_at hl 0 rfl) ?_
  refine va_iald hx hb hK hP 1 0 rfl rfl (by unfold vp_in; decide) dX11_competition_137 ?_
  refine lv_topi (fun r119 er119 => ?_)
  refine va_iast hx hb hK hP hD hS 0 1 rfl rfl (by unfold vp_in; decide) dX11_competition_138 (fun H locs hP hD hS => ?_)
  generalize upd g115 (21 : Int32).toNatClampNeg r119 = g120 at hP hD
  have hP : va_P (dC, dI) vwCl [(mc, .inl (kmc, 92, .inl g120)), (mb, .inl (kmb, 23, .inl g2)), (md, .inl (kmd, 14, .inl g3)), (m0, .inr (11, ((((((((fm.set 57 (.int 0)).set 62 (.int 0)).set 63 (.int (-1))).set 59 (.int 0)).set 60 (.int 0)).set 58 (.int 0)).set 1 (.int 0)).set 2 (.int (-1)))))] H := hP
  have hD : va_D A [(mc, .inl (kmc, 92, .inl g120)), (mb, .inl (kmb, 23, .inl g2)), (md, .inl (kmd, 14, .inl g3)), (m0, .inr (11, ((((((((fm.set 57 (.int 0)).set 62 (.int 0)).set 63 (.int (-1))).set 59 (.int 0)).set 60 (.int 0)).set 58 (.int 0)).set 1 (.int 0)).set 2 (.int (-1)))))] := hD
  refine lv_iinc (v := 22) (lv' := [(2, .int 22), (1, .int 0), (0, .ref m0)]) hx hb dX11_competition_139 hl (k := 0) rfl (by decide) (by decide) rfl (fun ls hl => ?_)
  refine lv_goto (tgt := 113) hx hb dX11_competition_142 (by decide) ?_
  refine lv_iload_n hx hb dX11_competition_113 rfl (lv_at hl 0 rfl) ?_
  refine lv_bipush (v := 23) hx hb dX11_competition_114 (by decide) ?_
  refine lv_icmp_ge (tgt := 145) hx hb dX11_competition_116 (by decide) (fun c121 => ?_) (fun c121 => ?_)
  · exact absurd c121 (by decide)
  refine lv_aload_n hx hb dX11_competition_119 rfl (lv_at hl 2 rfl) ?_
  refine va_get (D := (dC, dI)) (ci := 11) (v := .ref mc) (C := RX11) (T := TX11) (N := 114) hx hb ht inX11 hown hK hP 3 rfl rfl 5 (by decide) (ht _ kw_1432) (fun _ h9 => h9) (gs_ne (by decide) (gs_ne (by decide) (gs_ne (by decide) (gs_ne (by decide) (gs_ne (by decide) (gs_ne (by decide) (gs_ne (by decide) (gs_ne (by decide) hfm_5)))))))) dX11_competition_120 ?_
  refine lv_bipush (v := 23) hx hb dX11_competition_123 (by decide) ?_
  refine lv_aload_n hx hb dX11_competition_125 rfl (lv_at hl 2 rfl) ?_
  refine va_get (D := (dC, dI)) (ci := 11) (v := .int 0) (C := RX11) (T := TX11) (N := 114) hx hb ht inX11 hown hK hP 3 rfl rfl 6 (by decide) (ht _ kw_1433) (fun _ h9 => h9) (gs_ne (by decide) (gs_ne (by decide) (gs_ne (by decide) (gs_ne (by decide) (gs_ne (by decide) (gs_ne (by decide) (gs_ne (by decide) (gs_ne (by decide) hfm_6)))))))) dX11_competition_126 ?_
  refine lv_imul hx hb dX11_competition_129 ?_
  refine lv_topi (fun r122 er122 => ?_)
  have er122 : r122 = 0 := er122.trans (by decide)
  subst er122
  refine lv_iload_n hx hb dX11_competition_130 rfl (lv_at hl 0 rfl) ?_
  refine lv_iadd hx hb dX11_competition_131 ?_
  refine lv_topi (fun r123 er123 => ?_)
  have er123 : r123 = 22 := er123.trans (by decide)
  subst er123
  refine lv_aload_n hx hb dX11_competition_132 rfl (lv_at hl 2 rfl) ?_
  refine va_get (D := (dC, dI)) (ci := 11) (v := .ref mb) (C := RX11) (T := TX11) (N := 114) hx hb ht inX11 hown hK hP 3 rfl rfl 4 (by decide) (ht _ kw_1431) (fun _ h9 => h9) (gs_ne (by decide) (gs_ne (by decide) (gs_ne (by decide) (gs_ne (by decide) (gs_ne (by decide) (gs_ne (by decide) (gs_ne (by decide) (gs_ne (by decide) hfm_4)))))))) dX11_competition_133 ?_
  refine lv_iload_n hx hb dX11_competition_136 rfl (lv_at hl 0 rfl) ?_
  refine va_iald hx hb hK hP 1 0 rfl rfl (by unfold vp_in; decide) dX11_competition_137 ?_
  refine lv_topi (fun r124 er124 => ?_)
  refine va_iast hx hb hK hP hD hS 0 1 rfl rfl (by unfold vp_in; decide) dX11_competition_138 (fun H locs hP hD hS => ?_)
  generalize upd g120 (22 : Int32).toNatClampNeg r124 = g125 at hP hD
  have hP : va_P (dC, dI) vwCl [(mc, .inl (kmc, 92, .inl g125)), (mb, .inl (kmb, 23, .inl g2)), (md, .inl (kmd, 14, .inl g3)), (m0, .inr (11, ((((((((fm.set 57 (.int 0)).set 62 (.int 0)).set 63 (.int (-1))).set 59 (.int 0)).set 60 (.int 0)).set 58 (.int 0)).set 1 (.int 0)).set 2 (.int (-1)))))] H := hP
  have hD : va_D A [(mc, .inl (kmc, 92, .inl g125)), (mb, .inl (kmb, 23, .inl g2)), (md, .inl (kmd, 14, .inl g3)), (m0, .inr (11, ((((((((fm.set 57 (.int 0)).set 62 (.int 0)).set 63 (.int (-1))).set 59 (.int 0)).set 60 (.int 0)).set 58 (.int 0)).set 1 (.int 0)).set 2 (.int (-1)))))] := hD
  refine lv_iinc (v := 23) (lv' := [(2, .int 23), (1, .int 0), (0, .ref m0)]) hx hb dX11_competition_139 hl (k := 0) rfl (by decide) (by decide) rfl (fun ls hl => ?_)
  refine lv_goto (tgt := 113) hx hb dX11_competition_142 (by decide) ?_
  refine lv_iload_n hx hb dX11_competition_113 rfl (lv_at hl 0 rfl) ?_
  refine lv_bipush (v := 23) hx hb dX11_competition_114 (by decide) ?_
  refine lv_icmp_ge (tgt := 145) hx hb dX11_competition_116 (by decide) (fun c126 => ?_) (fun c126 => ?_)
  rotate_left
  · exact absurd (by decide) c126
  refine lv_aload_n hx hb dX11_competition_145 rfl (lv_at hl 2 rfl) ?_
  refine lv_dup hx hb dX11_competition_146 rfl ?_
  refine va_get (D := (dC, dI)) (ci := 11) (v := .int 0) (C := RX11) (T := TX11) (N := 114) hx hb ht inX11 hown hK hP 3 rfl rfl 6 (by decide) (ht _ kw_1433) (fun _ h9 => h9) (gs_ne (by decide) (gs_ne (by decide) (gs_ne (by decide) (gs_ne (by decide) (gs_ne (by decide) (gs_ne (by decide) (gs_ne (by decide) (gs_ne (by decide) hfm_6)))))))) dX11_competition_147 ?_
  refine lv_iconst (v := 1) hx hb dX11_competition_150 (by decide) ?_
  refine lv_iadd hx hb dX11_competition_151 ?_
  refine lv_topi (fun r127 er127 => ?_)
  have er127 : r127 = 1 := er127.trans (by decide)
  subst er127
  refine va_put (D := (dC, dI)) (ci := 11) (v := .int 1) (ty := .int) (C := RX11) (T := TX11) (N := 114) hx hb ht inX11 tyX11 tyX11_ok nmX11 hown hK hP hD hS 3 rfl rfl 6 (by decide) (ht _ kw_1433) (fun _ h9 => h9) rfl (by decide +kernel) rfl rfl (gs_lt (gs_len (gs_len (gs_len (gs_len (gs_len (gs_len (gs_len (gs_len hn_fm)))))))) (by decide)) dX11_competition_152 (fun H locs hP hD hS => ?_)
  have hP : va_P (dC, dI) vwCl [(mc, .inl (kmc, 92, .inl g125)), (mb, .inl (kmb, 23, .inl g2)), (md, .inl (kmd, 14, .inl g3)), (m0, .inr (11, (((((((((fm.set 57 (.int 0)).set 62 (.int 0)).set 63 (.int (-1))).set 59 (.int 0)).set 60 (.int 0)).set 58 (.int 0)).set 1 (.int 0)).set 2 (.int (-1))).set 6 (.int 1))))] H := hP
  have hD : va_D A [(mc, .inl (kmc, 92, .inl g125)), (mb, .inl (kmb, 23, .inl g2)), (md, .inl (kmd, 14, .inl g3)), (m0, .inr (11, (((((((((fm.set 57 (.int 0)).set 62 (.int 0)).set 63 (.int (-1))).set 59 (.int 0)).set 60 (.int 0)).set 58 (.int 0)).set 1 (.int 0)).set 2 (.int (-1))).set 6 (.int 1))))] := hD
  refine lv_aload_n hx hb dX11_competition_155 rfl (lv_at hl 2 rfl) ?_
  refine va_get (D := (dC, dI)) (ci := 11) (v := .int 1) (C := RX11) (T := TX11) (N := 114) hx hb ht inX11 hown hK hP 3 rfl rfl 6 (by decide) (ht _ kw_1433) (fun _ h9 => h9) (gs_eq (gs_lt (gs_len (gs_len (gs_len (gs_len (gs_len (gs_len (gs_len (gs_len hn_fm)))))))) (by decide))) dX11_competition_156 ?_
  refine lv_iconst (v := 1) hx hb dX11_competition_159 (by decide) ?_
  refine lv_isub hx hb dX11_competition_160 ?_
  refine lv_topi (fun r128 er128 => ?_)
  have er128 : r128 = 0 := er128.trans (by decide)
  subst er128
  exact W.iret hx hb hr (fun t ht9 hW => ⟨⟨_, (), rfl, rfl, trivial⟩, hS.F ht9⟩) hS.2.2 dX11_competition_161
abbrev cX11_findPaths : ByteArray := prog_13_method_125_code
def yX11_findPaths : MethodName := ⟨RX11, "findPaths", "(II)V"⟩
theorem dX11_findPaths_0 : decode cX11_findPaths 0 = .ok (.iconst 0, 1) := by decide +kernel
theorem dX11_findPaths_1 : decode cX11_findPaths 1 = .ok (.istore_n 3, 1) := by decide +kernel
theorem dX11_findPaths_2 : decode cX11_findPaths 2 = .ok (.iload_n 3, 1) := by decide +kernel
theorem dX11_findPaths_3 : decode cX11_findPaths 3 = .ok (.aload_n 0, 1) := by decide +kernel
theorem dX11_findPaths_4 : decode cX11_findPaths 4 = .ok (.getfield 334, 3) := by decide +kernel
theorem dX11_findPaths_7 : decode cX11_findPaths 7 = .ok (.if_icmp .ge 16, 3) := by decide +kernel
theorem dX11_findPaths_23 : decode cX11_findPaths 23 = .ok (.iconst 1, 1) := by decide +kernel
theorem dX11_findPaths_24 : decode cX11_findPaths 24 = .ok (.istore_n 3, 1) := by decide +kernel
theorem dX11_findPaths_25 : decode cX11_findPaths 25 = .ok (.iload_n 3, 1) := by decide +kernel
theorem dX11_findPaths_26 : decode cX11_findPaths 26 = .ok (.ifCond .eq 205, 3) := by decide +kernel
theorem dX11_findPaths_29 : decode cX11_findPaths 29 = .ok (.iconst 0, 1) := by decide +kernel
theorem dX11_findPaths_30 : decode cX11_findPaths 30 = .ok (.istore_n 3, 1) := by decide +kernel
theorem dX11_findPaths_31 : decode cX11_findPaths 31 = .ok (.iload_n 1, 1) := by decide +kernel
theorem dX11_findPaths_32 : decode cX11_findPaths 32 = .ok (.istore 4, 2) := by decide +kernel
theorem dX11_findPaths_34 : decode cX11_findPaths 34 = .ok (.iload 4, 2) := by decide +kernel
theorem dX11_findPaths_36 : decode cX11_findPaths 36 = .ok (.aload_n 0, 1) := by decide +kernel
theorem dX11_findPaths_37 : decode cX11_findPaths 37 = .ok (.getfield 607, 3) := by decide +kernel
theorem kw_1534 : Cond.fieldLink RX11 607 "SportsHouseModel" "dayMany" "I" ∈ lw_g := lw_at 1534 (by decide +kernel) rfl
theorem dX11_findPaths_40 : decode cX11_findPaths 40 = .ok (.if_icmp .ge 188, 3) := by decide +kernel
theorem dX11_findPaths_228 : decode cX11_findPaths 228 = .ok (.goto (-203), 3) := by decide +kernel
theorem dX11_findPaths_231 : decode cX11_findPaths 231 = .ok (.return_, 1) := by decide +kernel
set_option maxHeartbeats 4000000 in
set_option maxRecDepth 100000 in
theorem ct_X11_findPaths (l : Launch) (dC : Nat → ClassId) (dI : Nat → Nat → Nat) (m0 : Nat) (fm : List Value) (hfm_21 : fm[21]? = some (.int 0)) (hfm_107 : fm[107]? = some (.int 0)) (sz : Nat)  : Met l yX11_findPaths (.code yX11_findPaths cX11_findPaths 8 none :: lw_g) ({ frames := 1, cells := 0, slots := 0, locals := 60 }) (ro_P dC dI [(m0, .inr (11, fm))] [] sz [.ref m0, .int 0, .int 0]) (va_Qv (fun (_ : Unit) => True) (fun _ t => va_P (dC, dI) vwCl [(m0, .inr (11, fm))] t.heap ∧ va_K (dC, dI) vwCl [] t ∧ va_D (va_A [(m0, .inr (11, fm))] sz) [(m0, .inr (11, fm))]) (va_A [(m0, .inr (11, fm))] sz)) 0 0 (va_A [(m0, .inr (11, fm))] sz) := by
  refine ro_entry (by decide) (Nat.le_of_ble_eq_true rfl) ?_
  intro p e s m below meth c ls hx hb hr hlocks ht hown hin hml hsz hP hK hD hE hl
  subst hsz
  have hD := hD.self (sz := s.heap.size)
  generalize hAe : va_A [(m0, .inr (11, fm))] s.heap.size = A at hD ⊢
  have hA : ∀ q, s.heap.size ≤ q → A q := fun q h => by rw [← hAe]; exact Or.inr h
  have hS : va_S A s.heap s.heap [] := va_S.rf
  have hl : lv_has ls 8 [(0, .ref m0), (1, .int 0), (2, .int 0)] := hl
  have hown : s.vm.findClass RX11 = some m.cls := hown
  refine lv_iconst (v := 0) hx hb dX11_findPaths_0 (by decide) ?_
  refine lv_istore_n (lv' := [(3, .int 0), (0, .ref m0), (1, .int 0), (2, .int 0)]) hx hb dX11_findPaths_1 rfl hl (by decide) rfl (fun ls hl => ?_)
  refine lv_iload_n hx hb dX11_findPaths_2 rfl (lv_at hl 0 rfl) ?_
  refine lv_aload_n hx hb dX11_findPaths_3 rfl (lv_at hl 1 rfl) ?_
  refine va_get (D := (dC, dI)) (ci := 11) (v := .int 0) (C := RX11) (T := TX11) (N := 114) hx hb ht inX11 hown hK hP 0 rfl rfl 21 (by decide) (ht _ kw_1448) (fun _ h9 => h9) hfm_21 dX11_findPaths_4 ?_
  refine lv_icmp_ge (tgt := 23) hx hb dX11_findPaths_7 (by decide) (fun c1 => ?_) (fun c1 => ?_)
  rotate_left
  · exact absurd (by decide) c1
  refine lv_iconst (v := 1) hx hb dX11_findPaths_23 (by decide) ?_
  refine lv_istore_n (lv' := [(3, .int 1), (0, .ref m0), (1, .int 0), (2, .int 0)]) hx hb dX11_findPaths_24 rfl hl (by decide) rfl (fun ls hl => ?_)
  refine lv_iload_n hx hb dX11_findPaths_25 rfl (lv_at hl 0 rfl) ?_
  refine lv_if_eq (tgt := 231) hx hb dX11_findPaths_26 (by decide) (fun c2 => ?_) (fun c2 => ?_)
  · exact absurd c2 (by decide)
  refine lv_iconst (v := 0) hx hb dX11_findPaths_29 (by decide) ?_
  refine lv_istore_n (lv' := [(3, .int 0), (0, .ref m0), (1, .int 0), (2, .int 0)]) hx hb dX11_findPaths_30 rfl hl (by decide) rfl (fun ls hl => ?_)
  refine lv_iload_n hx hb dX11_findPaths_31 rfl (lv_at hl 2 rfl) ?_
  refine lv_istore (lv' := [(4, .int 0), (3, .int 0), (0, .ref m0), (1, .int 0), (2, .int 0)]) hx hb dX11_findPaths_32 hl (by decide) rfl (fun ls hl => ?_)
  refine lv_iload hx hb dX11_findPaths_34 (lv_at hl 0 rfl) ?_
  refine lv_aload_n hx hb dX11_findPaths_36 rfl (lv_at hl 2 rfl) ?_
  refine va_get (D := (dC, dI)) (ci := 11) (v := .int 0) (C := RX11) (T := TX11) (N := 114) hx hb ht inX11 hown hK hP 0 rfl rfl 107 (by decide) (ht _ kw_1534) (fun _ h9 => h9) hfm_107 dX11_findPaths_37 ?_
  refine lv_icmp_ge (tgt := 228) hx hb dX11_findPaths_40 (by decide) (fun c3 => ?_) (fun c3 => ?_)
  rotate_left
  · exact absurd (by decide) c3
  refine lv_goto (tgt := 25) hx hb dX11_findPaths_228 (by decide) ?_
  refine lv_iload_n hx hb dX11_findPaths_25 rfl (lv_at hl 1 rfl) ?_
  refine lv_if_eq (tgt := 231) hx hb dX11_findPaths_26 (by decide) (fun c4 => ?_) (fun c4 => ?_)
  rotate_left
  · exact absurd (by decide) c4
  exact W.vret hx hb hr (fun t ht9 hW => ⟨⟨(), rfl, trivial, by rw [ht9]; exact hP, va_K.moved hW.alike hK, hD⟩, hS.F ht9⟩) hS.2.2 dX11_findPaths_231
abbrev cX11_matchRest : ByteArray := prog_13_method_126_code
def yX11_matchRest : MethodName := ⟨RX11, "matchRest", "(II)V"⟩
theorem dX11_matchRest_0 : decode cX11_matchRest 0 = .ok (.aload_n 0, 1) := by decide +kernel
theorem dX11_matchRest_1 : decode cX11_matchRest 1 = .ok (.iconst 0, 1) := by decide +kernel
theorem dX11_matchRest_2 : decode cX11_matchRest 2 = .ok (.putfield 619, 3) := by decide +kernel
theorem kw_1539 : Cond.fieldLink RX11 619 "SportsHouseModel" "foundMany" "I" ∈ lw_g := lw_at 1539 (by decide +kernel) rfl
theorem dX11_matchRest_5 : decode cX11_matchRest 5 = .ok (.aload_n 0, 1) := by decide +kernel
theorem dX11_matchRest_6 : decode cX11_matchRest 6 = .ok (.iconst 0, 1) := by decide +kernel
theorem dX11_matchRest_7 : decode cX11_matchRest 7 = .ok (.putfield 622, 3) := by decide +kernel
theorem kw_1540 : Cond.fieldLink RX11 622 "SportsHouseModel" "foundSum" "I" ∈ lw_g := lw_at 1540 (by decide +kernel) rfl
theorem dX11_matchRest_10 : decode cX11_matchRest 10 = .ok (.iconst 0, 1) := by decide +kernel
theorem dX11_matchRest_11 : decode cX11_matchRest 11 = .ok (.istore_n 3, 1) := by decide +kernel
theorem dX11_matchRest_12 : decode cX11_matchRest 12 = .ok (.iload_n 3, 1) := by decide +kernel
theorem dX11_matchRest_13 : decode cX11_matchRest 13 = .ok (.bipush 8, 2) := by decide +kernel
theorem dX11_matchRest_15 : decode cX11_matchRest 15 = .ok (.if_icmp .ge 16, 3) := by decide +kernel
theorem dX11_matchRest_18 : decode cX11_matchRest 18 = .ok (.aload_n 0, 1) := by decide +kernel
theorem dX11_matchRest_19 : decode cX11_matchRest 19 = .ok (.getfield 240, 3) := by decide +kernel
theorem dX11_matchRest_22 : decode cX11_matchRest 22 = .ok (.iload_n 3, 1) := by decide +kernel
theorem dX11_matchRest_23 : decode cX11_matchRest 23 = .ok (.iconst (-1), 1) := by decide +kernel
theorem dX11_matchRest_24 : decode cX11_matchRest 24 = .ok (.iastore, 1) := by decide +kernel
theorem dX11_matchRest_25 : decode cX11_matchRest 25 = .ok (.iinc 3 1, 3) := by decide +kernel
theorem dX11_matchRest_28 : decode cX11_matchRest 28 = .ok (.goto (-16), 3) := by decide +kernel
theorem dX11_matchRest_31 : decode cX11_matchRest 31 = .ok (.iload_n 1, 1) := by decide +kernel
theorem dX11_matchRest_32 : decode cX11_matchRest 32 = .ok (.istore_n 3, 1) := by decide +kernel
theorem dX11_matchRest_33 : decode cX11_matchRest 33 = .ok (.iload_n 3, 1) := by decide +kernel
theorem dX11_matchRest_34 : decode cX11_matchRest 34 = .ok (.aload_n 0, 1) := by decide +kernel
theorem dX11_matchRest_35 : decode cX11_matchRest 35 = .ok (.getfield 607, 3) := by decide +kernel
theorem dX11_matchRest_38 : decode cX11_matchRest 38 = .ok (.if_icmp .ge 16, 3) := by decide +kernel
theorem dX11_matchRest_54 : decode cX11_matchRest 54 = .ok (.iconst 1, 1) := by decide +kernel
theorem dX11_matchRest_55 : decode cX11_matchRest 55 = .ok (.istore_n 3, 1) := by decide +kernel
theorem dX11_matchRest_56 : decode cX11_matchRest 56 = .ok (.iload_n 3, 1) := by decide +kernel
theorem dX11_matchRest_57 : decode cX11_matchRest 57 = .ok (.ifCond .eq 185, 3) := by decide +kernel
theorem dX11_matchRest_60 : decode cX11_matchRest 60 = .ok (.aload_n 0, 1) := by decide +kernel
theorem dX11_matchRest_61 : decode cX11_matchRest 61 = .ok (.iload_n 1, 1) := by decide +kernel
theorem dX11_matchRest_62 : decode cX11_matchRest 62 = .ok (.iload_n 2, 1) := by decide +kernel
theorem dX11_matchRest_63 : decode cX11_matchRest 63 = .ok (.invokevirtual 625, 3) := by decide +kernel
theorem kw_2254 : Cond.methodLink RX11 625 yX11_findPaths ∈ lw_g := lw_at 2254 (by decide +kernel) rfl
theorem kw_2256 : Cond.instanceMethod yX11_findPaths ∈ lw_g := lw_at 2256 (by decide +kernel) rfl
theorem ks_X11_findPaths : Cond.selects RX11 yX11_findPaths yX11_findPaths ∈ lw_g := lw_sel 10 rfl
theorem kw_2257 : Cond.code yX11_findPaths cX11_findPaths 8 none ∈ lw_g := lw_at 2257 (by decide +kernel) rfl
theorem gv_X11_625 : GoodIn lw_g (wsV RX11 625 RX11 yX11_findPaths (.code yX11_findPaths cX11_findPaths 8 none :: lw_g)) := gi_V kw_2254 kw_2256 ks_X11_findPaths kw_10 kw_2257
theorem dX11_matchRest_66 : decode cX11_matchRest 66 = .ok (.iconst (-1), 1) := by decide +kernel
theorem dX11_matchRest_67 : decode cX11_matchRest 67 = .ok (.istore 4, 2) := by decide +kernel
theorem dX11_matchRest_69 : decode cX11_matchRest 69 = .ok (.iconst 0, 1) := by decide +kernel
theorem dX11_matchRest_70 : decode cX11_matchRest 70 = .ok (.istore 5, 2) := by decide +kernel
theorem dX11_matchRest_72 : decode cX11_matchRest 72 = .ok (.iload 5, 2) := by decide +kernel
theorem dX11_matchRest_74 : decode cX11_matchRest 74 = .ok (.aload_n 0, 1) := by decide +kernel
theorem dX11_matchRest_75 : decode cX11_matchRest 75 = .ok (.getfield 334, 3) := by decide +kernel
theorem dX11_matchRest_78 : decode cX11_matchRest 78 = .ok (.if_icmp .ge 62, 3) := by decide +kernel
theorem dX11_matchRest_140 : decode cX11_matchRest 140 = .ok (.iload 4, 2) := by decide +kernel
theorem dX11_matchRest_142 : decode cX11_matchRest 142 = .ok (.iconst (-1), 1) := by decide +kernel
theorem dX11_matchRest_143 : decode cX11_matchRest 143 = .ok (.if_icmp .eq 7, 3) := by decide +kernel
theorem dX11_matchRest_150 : decode cX11_matchRest 150 = .ok (.iconst 0, 1) := by decide +kernel
theorem dX11_matchRest_151 : decode cX11_matchRest 151 = .ok (.istore_n 3, 1) := by decide +kernel
theorem dX11_matchRest_152 : decode cX11_matchRest 152 = .ok (.iload_n 3, 1) := by decide +kernel
theorem dX11_matchRest_153 : decode cX11_matchRest 153 = .ok (.ifCond .eq 33, 3) := by decide +kernel
theorem dX11_matchRest_186 : decode cX11_matchRest 186 = .ok (.iload 4, 2) := by decide +kernel
theorem dX11_matchRest_188 : decode cX11_matchRest 188 = .ok (.istore 5, 2) := by decide +kernel
theorem dX11_matchRest_190 : decode cX11_matchRest 190 = .ok (.iload 5, 2) := by decide +kernel
theorem dX11_matchRest_192 : decode cX11_matchRest 192 = .ok (.iconst (-1), 1) := by decide +kernel
theorem dX11_matchRest_193 : decode cX11_matchRest 193 = .ok (.if_icmp .eq 46, 3) := by decide +kernel
theorem dX11_matchRest_239 : decode cX11_matchRest 239 = .ok (.goto (-183), 3) := by decide +kernel
theorem dX11_matchRest_242 : decode cX11_matchRest 242 = .ok (.return_, 1) := by decide +kernel
set_option maxHeartbeats 4000000 in
set_option maxRecDepth 100000 in
theorem ct_X11_matchRest (l : Launch) (dC : Nat → ClassId) (dI : Nat → Nat → Nat) (m0 : Nat) (mk : Nat) (fm : List Value) (kmk : ClassId) (gmk : Nat → Int32) (hn_fm : fm.length = 114) (hfm_21 : fm[21]? = some (.int 0)) (hfm_107 : fm[107]? = some (.int 0)) (hfm_108 : fm[108]? = some (.ref mk)) (sz : Nat)  : Met l yX11_matchRest (.code yX11_matchRest cX11_matchRest 8 none :: lw_g) ({ frames := 2, cells := 0, slots := 0, locals := 120 }) (ro_P dC dI [(m0, .inr (11, fm)), (mk, .inl (kmk, 8, .inl gmk))] [(kmk, .int)] sz [.ref m0, .int 0, .int 0]) (va_Qv (fun (_ : Unit) => True) (fun _ t => ∃ (g16 : Nat → Int32), va_P (dC, dI) vwCl [(mk, .inl (kmk, 8, .inl g16)), (m0, .inr (11, ((fm.set 112 (.int 0)).set 113 (.int 0))))] t.heap ∧ va_K (dC, dI) vwCl [(kmk, .int)] t ∧ va_D (va_A [(m0, .inr (11, fm)), (mk, .inl (kmk, 8, .inl gmk))] sz) [(mk, .inl (kmk, 8, .inl g16)), (m0, .inr (11, ((fm.set 112 (.int 0)).set 113 (.int 0))))]) (va_A [(m0, .inr (11, fm)), (mk, .inl (kmk, 8, .inl gmk))] sz)) 0 0 (va_A [(m0, .inr (11, fm)), (mk, .inl (kmk, 8, .inl gmk))] sz) := by
  refine ro_entry (by decide) (Nat.le_of_ble_eq_true rfl) ?_
  intro p e s m below meth c ls hx hb hr hlocks ht hown hin hml hsz hP hK hD hE hl
  subst hsz
  have hD := hD.self (sz := s.heap.size)
  generalize hAe : va_A [(m0, .inr (11, fm)), (mk, .inl (kmk, 8, .inl gmk))] s.heap.size = A at hD ⊢
  have hA : ∀ q, s.heap.size ≤ q → A q := fun q h => by rw [← hAe]; exact Or.inr h
  have hS : va_S A s.heap s.heap [] := va_S.rf
  have hl : lv_has ls 8 [(0, .ref m0), (1, .int 0), (2, .int 0)] := hl
  have hown : s.vm.findClass RX11 = some m.cls := hown
  refine lv_aload_n hx hb dX11_matchRest_0 rfl (lv_at hl 0 rfl) ?_
  refine lv_iconst (v := 0) hx hb dX11_matchRest_1 (by decide) ?_
  refine va_put (D := (dC, dI)) (ci := 11) (v := .int 0) (ty := .int) (C := RX11) (T := TX11) (N := 114) hx hb ht inX11 tyX11 tyX11_ok nmX11 hown hK hP hD hS 0 rfl rfl 112 (by decide) (ht _ kw_1539) (fun _ h9 => h9) rfl (by decide +kernel) rfl rfl (gs_lt hn_fm (by decide)) dX11_matchRest_2 (fun H locs hP hD hS => ?_)
  have hP : va_P (dC, dI) vwCl [(m0, .inr (11, (fm.set 112 (.int 0)))), (mk, .inl (kmk, 8, .inl gmk))] H := hP
  have hD : va_D A [(m0, .inr (11, (fm.set 112 (.int 0)))), (mk, .inl (kmk, 8, .inl gmk))] := hD
  refine lv_aload_n hx hb dX11_matchRest_5 rfl (lv_at hl 0 rfl) ?_
  refine lv_iconst (v := 0) hx hb dX11_matchRest_6 (by decide) ?_
  refine va_put (D := (dC, dI)) (ci := 11) (v := .int 0) (ty := .int) (C := RX11) (T := TX11) (N := 114) hx hb ht inX11 tyX11 tyX11_ok nmX11 hown hK hP hD hS 0 rfl rfl 113 (by decide) (ht _ kw_1540) (fun _ h9 => h9) rfl (by decide +kernel) rfl rfl (gs_lt (gs_len hn_fm) (by decide)) dX11_matchRest_7 (fun H locs hP hD hS => ?_)
  have hP : va_P (dC, dI) vwCl [(m0, .inr (11, ((fm.set 112 (.int 0)).set 113 (.int 0)))), (mk, .inl (kmk, 8, .inl gmk))] H := hP
  have hD : va_D A [(m0, .inr (11, ((fm.set 112 (.int 0)).set 113 (.int 0)))), (mk, .inl (kmk, 8, .inl gmk))] := hD
  refine lv_iconst (v := 0) hx hb dX11_matchRest_10 (by decide) ?_
  refine lv_istore_n (lv' := [(3, .int 0), (0, .ref m0), (1, .int 0), (2, .int 0)]) hx hb dX11_matchRest_11 rfl hl (by decide) rfl (fun ls hl => ?_)
  refine lv_iload_n hx hb dX11_matchRest_12 rfl (lv_at hl 0 rfl) ?_
  refine lv_bipush (v := 8) hx hb dX11_matchRest_13 (by decide) ?_
  refine lv_icmp_ge (tgt := 31) hx hb dX11_matchRest_15 (by decide) (fun c1 => ?_) (fun c1 => ?_)
  · exact absurd c1 (by decide)
  refine lv_aload_n hx hb dX11_matchRest_18 rfl (lv_at hl 1 rfl) ?_
  refine va_get (D := (dC, dI)) (ci := 11) (v := .ref mk) (C := RX11) (T := TX11) (N := 114) hx hb ht inX11 hown hK hP 0 rfl rfl 108 (by decide) (ht _ kw_1535) (fun _ h9 => h9) (gs_ne (by decide) (gs_ne (by decide) hfm_108)) dX11_matchRest_19 ?_
  refine lv_iload_n hx hb dX11_matchRest_22 rfl (lv_at hl 0 rfl) ?_
  refine lv_iconst (v := (-1)) hx hb dX11_matchRest_23 (by decide) ?_
  refine va_iast hx hb hK hP hD hS 1 0 rfl rfl (by unfold vp_in; decide) dX11_matchRest_24 (fun H locs hP hD hS => ?_)
  generalize upd gmk (0 : Int32).toNatClampNeg (-1) = g2 at hP hD
  have hP : va_P (dC, dI) vwCl [(m0, .inr (11, ((fm.set 112 (.int 0)).set 113 (.int 0)))), (mk, .inl (kmk, 8, .inl g2))] H := hP
  have hD : va_D A [(m0, .inr (11, ((fm.set 112 (.int 0)).set 113 (.int 0)))), (mk, .inl (kmk, 8, .inl g2))] := hD
  refine lv_iinc (v := 1) (lv' := [(3, .int 1), (0, .ref m0), (1, .int 0), (2, .int 0)]) hx hb dX11_matchRest_25 hl (k := 0) rfl (by decide) (by decide) rfl (fun ls hl => ?_)
  refine lv_goto (tgt := 12) hx hb dX11_matchRest_28 (by decide) ?_
  refine lv_iload_n hx hb dX11_matchRest_12 rfl (lv_at hl 0 rfl) ?_
  refine lv_bipush (v := 8) hx hb dX11_matchRest_13 (by decide) ?_
  refine lv_icmp_ge (tgt := 31) hx hb dX11_matchRest_15 (by decide) (fun c3 => ?_) (fun c3 => ?_)
  · exact absurd c3 (by decide)
  refine lv_aload_n hx hb dX11_matchRest_18 rfl (lv_at hl 1 rfl) ?_
  refine va_get (D := (dC, dI)) (ci := 11) (v := .ref mk) (C := RX11) (T := TX11) (N := 114) hx hb ht inX11 hown hK hP 0 rfl rfl 108 (by decide) (ht _ kw_1535) (fun _ h9 => h9) (gs_ne (by decide) (gs_ne (by decide) hfm_108)) dX11_matchRest_19 ?_
  refine lv_iload_n hx hb dX11_matchRest_22 rfl (lv_at hl 0 rfl) ?_
  refine lv_iconst (v := (-1)) hx hb dX11_matchRest_23 (by decide) ?_
  refine va_iast hx hb hK hP hD hS 1 0 rfl rfl (by unfold vp_in; decide) dX11_matchRest_24 (fun H locs hP hD hS => ?_)
  generalize upd g2 (1 : Int32).toNatClampNeg (-1) = g4 at hP hD
  have hP : va_P (dC, dI) vwCl [(m0, .inr (11, ((fm.set 112 (.int 0)).set 113 (.int 0)))), (mk, .inl (kmk, 8, .inl g4))] H := hP
  have hD : va_D A [(m0, .inr (11, ((fm.set 112 (.int 0)).set 113 (.int 0)))), (mk, .inl (kmk, 8, .inl g4))] := hD
  refine lv_iinc (v := 2) (lv' := [(3, .int 2), (0, .ref m0), (1, .int 0), (2, .int 0)]) hx hb dX11_matchRest_25 hl (k := 0) rfl (by decide) (by decide) rfl (fun ls hl => ?_)
  refine lv_goto (tgt := 12) hx hb dX11_matchRest_28 (by decide) ?_
  refine lv_iload_n hx hb dX11_matchRest_12 rfl (lv_at hl 0 rfl) ?_
  refine lv_bipush (v := 8) hx hb dX11_matchRest_13 (by decide) ?_
  refine lv_icmp_ge (tgt := 31) hx hb dX11_matchRest_15 (by decide) (fun c5 => ?_) (fun c5 => ?_)
  · exact absurd c5 (by decide)
  refine lv_aload_n hx hb dX11_matchRest_18 rfl (lv_at hl 1 rfl) ?_
  refine va_get (D := (dC, dI)) (ci := 11) (v := .ref mk) (C := RX11) (T := TX11) (N := 114) hx hb ht inX11 hown hK hP 0 rfl rfl 108 (by decide) (ht _ kw_1535) (fun _ h9 => h9) (gs_ne (by decide) (gs_ne (by decide) hfm_108)) dX11_matchRest_19 ?_
  refine lv_iload_n hx hb dX11_matchRest_22 rfl (lv_at hl 0 rfl) ?_
  refine lv_iconst (v := (-1)) hx hb dX11_matchRest_23 (by decide) ?_
  refine va_iast hx hb hK hP hD hS 1 0 rfl rfl (by unfold vp_in; decide) dX11_matchRest_24 (fun H locs hP hD hS => ?_)
  generalize upd g4 (2 : Int32).toNatClampNeg (-1) = g6 at hP hD
  have hP : va_P (dC, dI) vwCl [(m0, .inr (11, ((fm.set 112 (.int 0)).set 113 (.int 0)))), (mk, .inl (kmk, 8, .inl g6))] H := hP
  have hD : va_D A [(m0, .inr (11, ((fm.set 112 (.int 0)).set 113 (.int 0)))), (mk, .inl (kmk, 8, .inl g6))] := hD
  refine lv_iinc (v := 3) (lv' := [(3, .int 3), (0, .ref m0), (1, .int 0), (2, .int 0)]) hx hb dX11_matchRest_25 hl (k := 0) rfl (by decide) (by decide) rfl (fun ls hl => ?_)
  refine lv_goto (tgt := 12) hx hb dX11_matchRest_28 (by decide) ?_
  refine lv_iload_n hx hb dX11_matchRest_12 rfl (lv_at hl 0 rfl) ?_
  refine lv_bipush (v := 8) hx hb dX11_matchRest_13 (by decide) ?_
  refine lv_icmp_ge (tgt := 31) hx hb dX11_matchRest_15 (by decide) (fun c7 => ?_) (fun c7 => ?_)
  · exact absurd c7 (by decide)
  refine lv_aload_n hx hb dX11_matchRest_18 rfl (lv_at hl 1 rfl) ?_
  refine va_get (D := (dC, dI)) (ci := 11) (v := .ref mk) (C := RX11) (T := TX11) (N := 114) hx hb ht inX11 hown hK hP 0 rfl rfl 108 (by decide) (ht _ kw_1535) (fun _ h9 => h9) (gs_ne (by decide) (gs_ne (by decide) hfm_108)) dX11_matchRest_19 ?_
  refine lv_iload_n hx hb dX11_matchRest_22 rfl (lv_at hl 0 rfl) ?_
  refine lv_iconst (v := (-1)) hx hb dX11_matchRest_23 (by decide) ?_
  refine va_iast hx hb hK hP hD hS 1 0 rfl rfl (by unfold vp_in; decide) dX11_matchRest_24 (fun H locs hP hD hS => ?_)
  generalize upd g6 (3 : Int32).toNatClampNeg (-1) = g8 at hP hD
  have hP : va_P (dC, dI) vwCl [(m0, .inr (11, ((fm.set 112 (.int 0)).set 113 (.int 0)))), (mk, .inl (kmk, 8, .inl g8))] H := hP
  have hD : va_D A [(m0, .inr (11, ((fm.set 112 (.int 0)).set 113 (.int 0)))), (mk, .inl (kmk, 8, .inl g8))] := hD
  refine lv_iinc (v := 4) (lv' := [(3, .int 4), (0, .ref m0), (1, .int 0), (2, .int 0)]) hx hb dX11_matchRest_25 hl (k := 0) rfl (by decide) (by decide) rfl (fun ls hl => ?_)
  refine lv_goto (tgt := 12) hx hb dX11_matchRest_28 (by decide) ?_
  refine lv_iload_n hx hb dX11_matchRest_12 rfl (lv_at hl 0 rfl) ?_
  refine lv_bipush (v := 8) hx hb dX11_matchRest_13 (by decide) ?_
  refine lv_icmp_ge (tgt := 31) hx hb dX11_matchRest_15 (by decide) (fun c9 => ?_) (fun c9 => ?_)
  · exact absurd c9 (by decide)
  refine lv_aload_n hx hb dX11_matchRest_18 rfl (lv_at hl 1 rfl) ?_
  refine va_get (D := (dC, dI)) (ci := 11) (v := .ref mk) (C := RX11) (T := TX11) (N := 114) hx hb ht inX11 hown hK hP 0 rfl rfl 108 (by decide) (ht _ kw_1535) (fun _ h9 => h9) (gs_ne (by decide) (gs_ne (by decide) hfm_108)) dX11_matchRest_19 ?_
  refine lv_iload_n hx hb dX11_matchRest_22 rfl (lv_at hl 0 rfl) ?_
  refine lv_iconst (v := (-1)) hx hb dX11_matchRest_23 (by decide) ?_
  refine va_iast hx hb hK hP hD hS 1 0 rfl rfl (by unfold vp_in; decide) dX11_matchRest_24 (fun H locs hP hD hS => ?_)
  generalize upd g8 (4 : Int32).toNatClampNeg (-1) = g10 at hP hD
  have hP : va_P (dC, dI) vwCl [(m0, .inr (11, ((fm.set 112 (.int 0)).set 113 (.int 0)))), (mk, .inl (kmk, 8, .inl g10))] H := hP
  have hD : va_D A [(m0, .inr (11, ((fm.set 112 (.int 0)).set 113 (.int 0)))), (mk, .inl (kmk, 8, .inl g10))] := hD
  refine lv_iinc (v := 5) (lv' := [(3, .int 5), (0, .ref m0), (1, .int 0), (2, .int 0)]) hx hb dX11_matchRest_25 hl (k := 0) rfl (by decide) (by decide) rfl (fun ls hl => ?_)
  refine lv_goto (tgt := 12) hx hb dX11_matchRest_28 (by decide) ?_
  refine lv_iload_n hx hb dX11_matchRest_12 rfl (lv_at hl 0 rfl) ?_
  refine lv_bipush (v := 8) hx hb dX11_matchRest_13 (by decide) ?_
  refine lv_icmp_ge (tgt := 31) hx hb dX11_matchRest_15 (by decide) (fun c11 => ?_) (fun c11 => ?_)
  · exact absurd c11 (by decide)
  refine lv_aload_n hx hb dX11_matchRest_18 rfl (lv_at hl 1 rfl) ?_
  refine va_get (D := (dC, dI)) (ci := 11) (v := .ref mk) (C := RX11) (T := TX11) (N := 114) hx hb ht inX11 hown hK hP 0 rfl rfl 108 (by decide) (ht _ kw_1535) (fun _ h9 => h9) (gs_ne (by decide) (gs_ne (by decide) hfm_108)) dX11_matchRest_19 ?_
  refine lv_iload_n hx hb dX11_matchRest_22 rfl (lv_at hl 0 rfl) ?_
  refine lv_iconst (v := (-1)) hx hb dX11_matchRest_23 (by decide) ?_
  refine va_iast hx hb hK hP hD hS 1 0 rfl rfl (by unfold vp_in; decide) dX11_matchRest_24 (fun H locs hP hD hS => ?_)
  generalize upd g10 (5 : Int32).toNatClampNeg (-1) = g12 at hP hD
  have hP : va_P (dC, dI) vwCl [(m0, .inr (11, ((fm.set 112 (.int 0)).set 113 (.int 0)))), (mk, .inl (kmk, 8, .inl g12))] H := hP
  have hD : va_D A [(m0, .inr (11, ((fm.set 112 (.int 0)).set 113 (.int 0)))), (mk, .inl (kmk, 8, .inl g12))] := hD
  refine lv_iinc (v := 6) (lv' := [(3, .int 6), (0, .ref m0), (1, .int 0), (2, .int 0)]) hx hb dX11_matchRest_25 hl (k := 0) rfl (by decide) (by decide) rfl (fun ls hl => ?_)
  refine lv_goto (tgt := 12) hx hb dX11_matchRest_28 (by decide) ?_
  refine lv_iload_n hx hb dX11_matchRest_12 rfl (lv_at hl 0 rfl) ?_
  refine lv_bipush (v := 8) hx hb dX11_matchRest_13 (by decide) ?_
  refine lv_icmp_ge (tgt := 31) hx hb dX11_matchRest_15 (by decide) (fun c13 => ?_) (fun c13 => ?_)
  · exact absurd c13 (by decide)
  refine lv_aload_n hx hb dX11_matchRest_18 rfl (lv_at hl 1 rfl) ?_
  refine va_get (D := (dC, dI)) (ci := 11) (v := .ref mk) (C := RX11) (T := TX11) (N := 114) hx hb ht inX11 hown hK hP 0 rfl rfl 108 (by decide) (ht _ kw_1535) (fun _ h9 => h9) (gs_ne (by decide) (gs_ne (by decide) hfm_108)) dX11_matchRest_19 ?_
  refine lv_iload_n hx hb dX11_matchRest_22 rfl (lv_at hl 0 rfl) ?_
  refine lv_iconst (v := (-1)) hx hb dX11_matchRest_23 (by decide) ?_
  refine va_iast hx hb hK hP hD hS 1 0 rfl rfl (by unfold vp_in; decide) dX11_matchRest_24 (fun H locs hP hD hS => ?_)
  generalize upd g12 (6 : Int32).toNatClampNeg (-1) = g14 at hP hD
  have hP : va_P (dC, dI) vwCl [(m0, .inr (11, ((fm.set 112 (.int 0)).set 113 (.int 0)))), (mk, .inl (kmk, 8, .inl g14))] H := hP
  have hD : va_D A [(m0, .inr (11, ((fm.set 112 (.int 0)).set 113 (.int 0)))), (mk, .inl (kmk, 8, .inl g14))] := hD
  refine lv_iinc (v := 7) (lv' := [(3, .int 7), (0, .ref m0), (1, .int 0), (2, .int 0)]) hx hb dX11_matchRest_25 hl (k := 0) rfl (by decide) (by decide) rfl (fun ls hl => ?_)
  refine lv_goto (tgt := 12) hx hb dX11_matchRest_28 (by decide) ?_
  refine lv_iload_n hx hb dX11_matchRest_12 rfl (lv_at hl 0 rfl) ?_
  refine lv_bipush (v := 8) hx hb dX11_matchRest_13 (by decide) ?_
  refine lv_icmp_ge (tgt := 31) hx hb dX11_matchRest_15 (by decide) (fun c15 => ?_) (fun c15 => ?_)
  · exact absurd c15 (by decide)
  refine lv_aload_n hx hb dX11_matchRest_18 rfl (lv_at hl 1 rfl) ?_
  refine va_get (D := (dC, dI)) (ci := 11) (v := .ref mk) (C := RX11) (T := TX11) (N := 114) hx hb ht inX11 hown hK hP 0 rfl rfl 108 (by decide) (ht _ kw_1535) (fun _ h9 => h9) (gs_ne (by decide) (gs_ne (by decide) hfm_108)) dX11_matchRest_19 ?_
  refine lv_iload_n hx hb dX11_matchRest_22 rfl (lv_at hl 0 rfl) ?_
  refine lv_iconst (v := (-1)) hx hb dX11_matchRest_23 (by decide) ?_
  refine va_iast hx hb hK hP hD hS 1 0 rfl rfl (by unfold vp_in; decide) dX11_matchRest_24 (fun H locs hP hD hS => ?_)
  generalize upd g14 (7 : Int32).toNatClampNeg (-1) = g16 at hP hD
  have hP : va_P (dC, dI) vwCl [(m0, .inr (11, ((fm.set 112 (.int 0)).set 113 (.int 0)))), (mk, .inl (kmk, 8, .inl g16))] H := hP
  have hD : va_D A [(m0, .inr (11, ((fm.set 112 (.int 0)).set 113 (.int 0)))), (mk, .inl (kmk, 8, .inl g16))] := hD
  refine lv_iinc (v := 8) (lv' := [(3, .int 8), (0, .ref m0), (1, .int 0), (2, .int 0)]) hx hb dX11_matchRest_25 hl (k := 0) rfl (by decide) (by decide) rfl (fun ls hl => ?_)
  refine lv_goto (tgt := 12) hx hb dX11_matchRest_28 (by decide) ?_
  refine lv_iload_n hx hb dX11_matchRest_12 rfl (lv_at hl 0 rfl) ?_
  refine lv_bipush (v := 8) hx hb dX11_matchRest_13 (by decide) ?_
  refine lv_icmp_ge (tgt := 31) hx hb dX11_matchRest_15 (by decide) (fun c17 => ?_) (fun c17 => ?_)
  rotate_left
  · exact absurd (by decide) c17
  refine lv_iload_n hx hb dX11_matchRest_31 rfl (lv_at hl 2 rfl) ?_
  refine lv_istore_n (lv' := [(3, .int 0), (0, .ref m0), (1, .int 0), (2, .int 0)]) hx hb dX11_matchRest_32 rfl hl (by decide) rfl (fun ls hl => ?_)
  refine lv_iload_n hx hb dX11_matchRest_33 rfl (lv_at hl 0 rfl) ?_
  refine lv_aload_n hx hb dX11_matchRest_34 rfl (lv_at hl 1 rfl) ?_
  refine va_get (D := (dC, dI)) (ci := 11) (v := .int 0) (C := RX11) (T := TX11) (N := 114) hx hb ht inX11 hown hK hP 0 rfl rfl 107 (by decide) (ht _ kw_1534) (fun _ h9 => h9) (gs_ne (by decide) (gs_ne (by decide) hfm_107)) dX11_matchRest_35 ?_
  refine lv_icmp_ge (tgt := 54) hx hb dX11_matchRest_38 (by decide) (fun c18 => ?_) (fun c18 => ?_)
  rotate_left
  · exact absurd (by decide) c18
  refine lv_iconst (v := 1) hx hb dX11_matchRest_54 (by decide) ?_
  refine lv_istore_n (lv' := [(3, .int 1), (0, .ref m0), (1, .int 0), (2, .int 0)]) hx hb dX11_matchRest_55 rfl hl (by decide) rfl (fun ls hl => ?_)
  refine lv_iload_n hx hb dX11_matchRest_56 rfl (lv_at hl 0 rfl) ?_
  refine lv_if_eq (tgt := 242) hx hb dX11_matchRest_57 (by decide) (fun c19 => ?_) (fun c19 => ?_)
  · exact absurd c19 (by decide)
  refine lv_aload_n hx hb dX11_matchRest_60 rfl (lv_at hl 1 rfl) ?_
  refine lv_iload_n hx hb dX11_matchRest_61 rfl (lv_at hl 2 rfl) ?_
  refine lv_iload_n hx hb dX11_matchRest_62 rfl (lv_at hl 3 rfl) ?_
  have hPc := hP.sub (ws' := [(m0, .inr (11, ((fm.set 112 (.int 0)).set 113 (.int 0))))]) [0] rfl
  have hDc := hD.sub (ws' := [(m0, .inr (11, ((fm.set 112 (.int 0)).set 113 (.int 0))))]) [0] (by decide) rfl
  have hKc := hK.sub (tys' := []) [] rfl
  have hFc := va_free (wc := [(m0, .inr (11, ((fm.set 112 (.int 0)).set 113 (.int 0))))]) hD hS hA [0] rfl
  refine va_callv (va_runV (As := [.int 0, .int 0]) (rest := []) ⟨hx, hb, hml, hown, ht⟩ (ct_X11_findPaths l dC dI m0 (((fm.set 112 (.int 0)).set 113 (.int 0))) (gs_ne (by decide) (gs_ne (by decide) hfm_21)) (gs_ne (by decide) (gs_ne (by decide) hfm_107)) _ ) (cwV 2 ht gv_X11_625 rfl rfl rfl (by decide +kernel) ⟨Nat.le_of_ble_eq_true rfl, Nat.le_of_ble_eq_true rfl⟩) ⟨ro_blind, va_recv hKc hPc (ci := 11) (q0 := 0) rfl rfl, fun U hU hW => ⟨rfl, by rw [hU], by rw [hU]; exact hPc, va_K.moved hW.alike hKc, hDc.weaken (fun _ _ _ _ => trivial), ex_warm hW hE⟩⟩ rfl rfl hl.1 rfl (lv_room (Nat.le_of_ble_eq_true rfl)) dX11_matchRest_63 ⟨Nat.le_of_ble_eq_true rfl, Nat.le_of_ble_eq_true rfl⟩) hS (fun q _ h => hFc q h) hFc (fun u t H1 locs ht1 hvm hw hB hz1 hk1 hS => ?_)
  obtain ⟨hP1, hK1, hD1⟩ := hB
  rw [ht1] at hP1
  obtain ⟨hP, hD⟩ := va_join (wr := [(mk, .inl (kmk, 8, .inl g16))]) (w1 := [(m0, .inr (11, ((fm.set 112 (.int 0)).set 113 (.int 0))))]) hP hD [0] [1] rfl rfl (by decide) (by decide) hk1 hFc hP1 hD1
  generalize H1 = H at hP hS ⊢
  have hP : va_P (dC, dI) vwCl [(mk, .inl (kmk, 8, .inl g16)), (m0, .inr (11, ((fm.set 112 (.int 0)).set 113 (.int 0))))] H := hP
  have hD : va_D A [(mk, .inl (kmk, 8, .inl g16)), (m0, .inr (11, ((fm.set 112 (.int 0)).set 113 (.int 0))))] := hD
  refine lv_iconst (v := (-1)) hx hb dX11_matchRest_66 (by decide) ?_
  refine lv_istore (lv' := [(4, .int (-1)), (3, .int 1), (0, .ref m0), (1, .int 0), (2, .int 0)]) hx hb dX11_matchRest_67 hl (by decide) rfl (fun ls hl => ?_)
  refine lv_iconst (v := 0) hx hb dX11_matchRest_69 (by decide) ?_
  refine lv_istore (lv' := [(5, .int 0), (4, .int (-1)), (3, .int 1), (0, .ref m0), (1, .int 0), (2, .int 0)]) hx hb dX11_matchRest_70 hl (by decide) rfl (fun ls hl => ?_)
  refine lv_iload hx hb dX11_matchRest_72 (lv_at hl 0 rfl) ?_
  refine lv_aload_n hx hb dX11_matchRest_74 rfl (lv_at hl 3 rfl) ?_
  refine va_get (D := (dC, dI)) (ci := 11) (v := .int 0) (C := RX11) (T := TX11) (N := 114) hx hb ht inX11 hown hK hP 1 rfl rfl 21 (by decide) (ht _ kw_1448) (fun _ h9 => h9) (gs_ne (by decide) (gs_ne (by decide) hfm_21)) dX11_matchRest_75 ?_
  refine lv_icmp_ge (tgt := 140) hx hb dX11_matchRest_78 (by decide) (fun c20 => ?_) (fun c20 => ?_)
  rotate_left
  · exact absurd (by decide) c20
  refine lv_iload hx hb dX11_matchRest_140 (lv_at hl 1 rfl) ?_
  refine lv_iconst (v := (-1)) hx hb dX11_matchRest_142 (by decide) ?_
  refine lv_icmp_eq (tgt := 150) hx hb dX11_matchRest_143 (by decide) (fun c21 => ?_) (fun c21 => ?_)
  rotate_left
  · exact absurd (by decide) c21
  refine lv_iconst (v := 0) hx hb dX11_matchRest_150 (by decide) ?_
  refine lv_istore_n (lv' := [(3, .int 0), (5, .int 0), (4, .int (-1)), (0, .ref m0), (1, .int 0), (2, .int 0)]) hx hb dX11_matchRest_151 rfl hl (by decide) rfl (fun ls hl => ?_)
  refine lv_iload_n hx hb dX11_matchRest_152 rfl (lv_at hl 0 rfl) ?_
  refine lv_if_eq (tgt := 186) hx hb dX11_matchRest_153 (by decide) (fun c22 => ?_) (fun c22 => ?_)
  rotate_left
  · exact absurd (by decide) c22
  refine lv_iload hx hb dX11_matchRest_186 (lv_at hl 2 rfl) ?_
  refine lv_istore (lv' := [(5, .int (-1)), (3, .int 0), (4, .int (-1)), (0, .ref m0), (1, .int 0), (2, .int 0)]) hx hb dX11_matchRest_188 hl (by decide) rfl (fun ls hl => ?_)
  refine lv_iload hx hb dX11_matchRest_190 (lv_at hl 0 rfl) ?_
  refine lv_iconst (v := (-1)) hx hb dX11_matchRest_192 (by decide) ?_
  refine lv_icmp_eq (tgt := 239) hx hb dX11_matchRest_193 (by decide) (fun c23 => ?_) (fun c23 => ?_)
  rotate_left
  · exact absurd (by decide) c23
  refine lv_goto (tgt := 56) hx hb dX11_matchRest_239 (by decide) ?_
  refine lv_iload_n hx hb dX11_matchRest_56 rfl (lv_at hl 1 rfl) ?_
  refine lv_if_eq (tgt := 242) hx hb dX11_matchRest_57 (by decide) (fun c24 => ?_) (fun c24 => ?_)
  rotate_left
  · exact absurd (by decide) c24
  exact W.vret hx hb hr (fun t ht9 hW => ⟨⟨(), rfl, trivial, g16, by rw [ht9]; exact hP, va_K.moved hW.alike hK, hD⟩, hS.F ht9⟩) hS.2.2 dX11_matchRest_242
abbrev cX11_assign : ByteArray := prog_13_method_127_code
def yX11_assign : MethodName := ⟨RX11, "assign", "(I)I"⟩
theorem dX11_assign_0 : decode cX11_assign 0 = .ok (.iload_n 1, 1) := by decide +kernel
theorem dX11_assign_1 : decode cX11_assign 1 = .ok (.iconst 0, 1) := by decide +kernel
theorem dX11_assign_2 : decode cX11_assign 2 = .ok (.sipush 999, 3) := by decide +kernel
theorem dX11_assign_5 : decode cX11_assign 5 = .ok (.invokestatic 255, 3) := by decide +kernel
theorem dX11_assign_8 : decode cX11_assign 8 = .ok (.ifCond .ne 6, 3) := by decide +kernel
theorem dX11_assign_14 : decode cX11_assign 14 = .ok (.aload_n 0, 1) := by decide +kernel
theorem dX11_assign_15 : decode cX11_assign 15 = .ok (.iconst 0, 1) := by decide +kernel
theorem dX11_assign_16 : decode cX11_assign 16 = .ok (.putfield 607, 3) := by decide +kernel
theorem dX11_assign_19 : decode cX11_assign 19 = .ok (.iconst 0, 1) := by decide +kernel
theorem dX11_assign_20 : decode cX11_assign 20 = .ok (.istore_n 2, 1) := by decide +kernel
theorem dX11_assign_21 : decode cX11_assign 21 = .ok (.iload_n 2, 1) := by decide +kernel
theorem dX11_assign_22 : decode cX11_assign 22 = .ok (.aload_n 0, 1) := by decide +kernel
theorem dX11_assign_23 : decode cX11_assign 23 = .ok (.getfield 343, 3) := by decide +kernel
theorem dX11_assign_26 : decode cX11_assign 26 = .ok (.if_icmp .ge 47, 3) := by decide +kernel
theorem dX11_assign_73 : decode cX11_assign 73 = .ok (.aload_n 0, 1) := by decide +kernel
theorem dX11_assign_74 : decode cX11_assign 74 = .ok (.iconst 0, 1) := by decide +kernel
theorem dX11_assign_75 : decode cX11_assign 75 = .ok (.iconst 0, 1) := by decide +kernel
theorem dX11_assign_76 : decode cX11_assign 76 = .ok (.invokevirtual 628, 3) := by decide +kernel
theorem kw_2250 : Cond.methodLink RX11 628 yX11_matchRest ∈ lw_g := lw_at 2250 (by decide +kernel) rfl
theorem kw_2252 : Cond.instanceMethod yX11_matchRest ∈ lw_g := lw_at 2252 (by decide +kernel) rfl
theorem ks_X11_matchRest : Cond.selects RX11 yX11_matchRest yX11_matchRest ∈ lw_g := lw_sel 9 rfl
theorem kw_2253 : Cond.code yX11_matchRest cX11_matchRest 8 none ∈ lw_g := lw_at 2253 (by decide +kernel) rfl
theorem gv_X11_628 : GoodIn lw_g (wsV RX11 628 RX11 yX11_matchRest (.code yX11_matchRest cX11_matchRest 8 none :: lw_g)) := gi_V kw_2250 kw_2252 ks_X11_matchRest kw_10 kw_2253
theorem dX11_assign_79 : decode cX11_assign 79 = .ok (.aload_n 0, 1) := by decide +kernel
theorem dX11_assign_80 : decode cX11_assign 80 = .ok (.getfield 619, 3) := by decide +kernel
theorem dX11_assign_83 : decode cX11_assign 83 = .ok (.istore_n 2, 1) := by decide +kernel
theorem dX11_assign_84 : decode cX11_assign 84 = .ok (.aload_n 0, 1) := by decide +kernel
theorem dX11_assign_85 : decode cX11_assign 85 = .ok (.getfield 619, 3) := by decide +kernel
theorem dX11_assign_88 : decode cX11_assign 88 = .ok (.istore_n 3, 1) := by decide +kernel
theorem dX11_assign_89 : decode cX11_assign 89 = .ok (.aload_n 0, 1) := by decide +kernel
theorem dX11_assign_90 : decode cX11_assign 90 = .ok (.getfield 622, 3) := by decide +kernel
theorem dX11_assign_93 : decode cX11_assign 93 = .ok (.istore 4, 2) := by decide +kernel
theorem dX11_assign_95 : decode cX11_assign 95 = .ok (.iconst 0, 1) := by decide +kernel
theorem dX11_assign_96 : decode cX11_assign 96 = .ok (.istore 5, 2) := by decide +kernel
theorem dX11_assign_98 : decode cX11_assign 98 = .ok (.iconst 0, 1) := by decide +kernel
theorem dX11_assign_99 : decode cX11_assign 99 = .ok (.istore 6, 2) := by decide +kernel
theorem dX11_assign_101 : decode cX11_assign 101 = .ok (.iload 6, 2) := by decide +kernel
theorem dX11_assign_103 : decode cX11_assign 103 = .ok (.aload_n 0, 1) := by decide +kernel
theorem dX11_assign_104 : decode cX11_assign 104 = .ok (.getfield 607, 3) := by decide +kernel
theorem dX11_assign_107 : decode cX11_assign 107 = .ok (.if_icmp .ge 168, 3) := by decide +kernel
theorem dX11_assign_275 : decode cX11_assign 275 = .ok (.iload_n 2, 1) := by decide +kernel
theorem dX11_assign_276 : decode cX11_assign 276 = .ok (.ireturn, 1) := by decide +kernel
theorem dX11_assign_11 : decode cX11_assign 11 = .ok (.bipush (-3), 2) := by decide +kernel
theorem dX11_assign_13 : decode cX11_assign 13 = .ok (.ireturn, 1) := by decide +kernel
def sp_X11_assign (na : Int32) : Int32 := if (sp_X11_in na 0 999) = 0 then (-3) else 0
set_option maxHeartbeats 4000000 in
set_option maxRecDepth 100000 in
theorem ct_X11_assign (l : Launch) (dC : Nat → ClassId) (dI : Nat → Nat → Nat) (m0 : Nat) (mk : Nat) (fm : List Value) (kmk : ClassId) (gmk : Nat → Int32) (hn_fm : fm.length = 114) (hfm_21 : fm[21]? = some (.int 0)) (hfm_29 : fm[29]? = some (.int 0)) (hfm_107 : fm[107]? = some (.int 0)) (hfm_108 : fm[108]? = some (.ref mk)) (hfm_112 : fm[112]? = some (.int 0)) (hfm_113 : fm[113]? = some (.int 0)) (sz : Nat) (na : Int32) : Met l yX11_assign (.code yX11_assign cX11_assign 9 (some .int) :: lw_g) ({ frames := 3, cells := 0, slots := 0, locals := 180 }) (ro_P dC dI [(m0, .inr (11, fm)), (mk, .inl (kmk, 8, .inl gmk))] [(kmk, .int)] sz [.ref m0, .int na]) (ri_Q (sp_X11_assign na) (va_A [(m0, .inr (11, fm)), (mk, .inl (kmk, 8, .inl gmk))] sz)) 0 0 (va_A [(m0, .inr (11, fm)), (mk, .inl (kmk, 8, .inl gmk))] sz) := by
  refine ro_entry (by decide) (Nat.le_of_ble_eq_true rfl) ?_
  intro p e s m below meth c ls hx hb hr hlocks ht hown hin hml hsz hP hK hD hE hl
  subst hsz
  have hD := hD.self (sz := s.heap.size)
  generalize hAe : va_A [(m0, .inr (11, fm)), (mk, .inl (kmk, 8, .inl gmk))] s.heap.size = A at hD ⊢
  have hA : ∀ q, s.heap.size ≤ q → A q := fun q h => by rw [← hAe]; exact Or.inr h
  have hS : va_S A s.heap s.heap [] := va_S.rf
  have hl : lv_has ls 9 [(0, .ref m0), (1, .int na)] := hl
  have hown : s.vm.findClass RX11 = some m.cls := hown
  refine lv_iload_n hx hb dX11_assign_0 rfl (lv_at hl 1 rfl) ?_
  refine lv_iconst (v := 0) hx hb dX11_assign_1 (by decide) ?_
  refine lv_sipush (v := 999) hx hb dX11_assign_2 (by decide) ?_
  refine ro_callS (n := 3) (As := [.int na, .int 0, .int 999]) (rest := []) hx hb hml hown ht hK hP hS hA hE (ct_X11_in l dC dI  _ na 0 999) gv_X11_255 rfl rfl (by decide +kernel) ⟨Nat.le_of_ble_eq_true rfl, Nat.le_of_ble_eq_true rfl⟩ rfl hl.1 (Nat.le_of_ble_eq_true rfl) ⟨Nat.le_of_ble_eq_true rfl, Nat.le_of_ble_eq_true rfl⟩ rfl dX11_assign_5 (fun H locs hP hS => ?_)
  refine lv_if_ne (tgt := 14) hx hb dX11_assign_8 (by decide) (fun c1 => ?_) (fun c1 => ?_)
  · refine lv_aload_n hx hb dX11_assign_14 rfl (lv_at hl 0 rfl) ?_
    refine lv_iconst (v := 0) hx hb dX11_assign_15 (by decide) ?_
    refine va_put (D := (dC, dI)) (ci := 11) (v := .int 0) (ty := .int) (C := RX11) (T := TX11) (N := 114) hx hb ht inX11 tyX11 tyX11_ok nmX11 hown hK hP hD hS 0 rfl rfl 107 (by decide) (ht _ kw_1534) (fun _ h9 => h9) rfl (by decide +kernel) rfl rfl (gs_lt hn_fm (by decide)) dX11_assign_16 (fun H locs hP hD hS => ?_)
    have hP : va_P (dC, dI) vwCl [(m0, .inr (11, (fm.set 107 (.int 0)))), (mk, .inl (kmk, 8, .inl gmk))] H := hP
    have hD : va_D A [(m0, .inr (11, (fm.set 107 (.int 0)))), (mk, .inl (kmk, 8, .inl gmk))] := hD
    refine lv_iconst (v := 0) hx hb dX11_assign_19 (by decide) ?_
    refine lv_istore_n (lv' := [(2, .int 0), (0, .ref m0), (1, .int na)]) hx hb dX11_assign_20 rfl hl (by decide) rfl (fun ls hl => ?_)
    refine lv_iload_n hx hb dX11_assign_21 rfl (lv_at hl 0 rfl) ?_
    refine lv_aload_n hx hb dX11_assign_22 rfl (lv_at hl 1 rfl) ?_
    refine va_get (D := (dC, dI)) (ci := 11) (v := .int 0) (C := RX11) (T := TX11) (N := 114) hx hb ht inX11 hown hK hP 0 rfl rfl 29 (by decide) (ht _ kw_1456) (fun _ h9 => h9) (gs_ne (by decide) hfm_29) dX11_assign_23 ?_
    refine lv_icmp_ge (tgt := 73) hx hb dX11_assign_26 (by decide) (fun c2 => ?_) (fun c2 => ?_)
    rotate_left
    · exact absurd (by decide) c2
    refine lv_aload_n hx hb dX11_assign_73 rfl (lv_at hl 1 rfl) ?_
    refine lv_iconst (v := 0) hx hb dX11_assign_74 (by decide) ?_
    refine lv_iconst (v := 0) hx hb dX11_assign_75 (by decide) ?_
    have hPc := hP.sub (ws' := [(m0, .inr (11, (fm.set 107 (.int 0)))), (mk, .inl (kmk, 8, .inl gmk))]) [0, 1] rfl
    have hDc := hD.sub (ws' := [(m0, .inr (11, (fm.set 107 (.int 0)))), (mk, .inl (kmk, 8, .inl gmk))]) [0, 1] (by decide) rfl
    have hKc := hK.sub (tys' := [(kmk, .int)]) [0] rfl
    have hFc := va_free (wc := [(m0, .inr (11, (fm.set 107 (.int 0)))), (mk, .inl (kmk, 8, .inl gmk))]) hD hS hA [0, 1] rfl
    refine va_callv (va_runV (As := [.int 0, .int 0]) (rest := []) ⟨hx, hb, hml, hown, ht⟩ (ct_X11_matchRest l dC dI m0 mk ((fm.set 107 (.int 0))) kmk gmk (gs_len hn_fm) (gs_ne (by decide) hfm_21) (gs_eq (gs_lt hn_fm (by decide))) (gs_ne (by decide) hfm_108) _ ) (cwV 2 ht gv_X11_628 rfl rfl rfl (by decide +kernel) ⟨Nat.le_of_ble_eq_true rfl, Nat.le_of_ble_eq_true rfl⟩) ⟨ro_blind, va_recv hKc hPc (ci := 11) (q0 := 0) rfl rfl, fun U hU hW => ⟨rfl, by rw [hU], by rw [hU]; exact hPc, va_K.moved hW.alike hKc, hDc.weaken (fun _ _ _ _ => trivial), ex_warm hW hE⟩⟩ rfl rfl hl.1 rfl (lv_room (Nat.le_of_ble_eq_true rfl)) dX11_assign_76 ⟨Nat.le_of_ble_eq_true rfl, Nat.le_of_ble_eq_true rfl⟩) hS (fun q _ h => hFc q h) hFc (fun u t H1 locs ht1 hvm hw hB hz1 hk1 hS => ?_)
    obtain ⟨g3, hP1, hK1, hD1⟩ := hB
    rw [ht1] at hP1
    obtain ⟨hP, hD⟩ := va_join (wr := []) (w1 := [(mk, .inl (kmk, 8, .inl g3)), (m0, .inr (11, (((fm.set 107 (.int 0)).set 112 (.int 0)).set 113 (.int 0))))]) hP hD [0, 1] [] rfl rfl (by decide) (by decide) hk1 hFc hP1 hD1
    generalize H1 = H at hP hS ⊢
    have hP : va_P (dC, dI) vwCl [(mk, .inl (kmk, 8, .inl g3)), (m0, .inr (11, (((fm.set 107 (.int 0)).set 112 (.int 0)).set 113 (.int 0))))] H := hP
    have hD : va_D A [(mk, .inl (kmk, 8, .inl g3)), (m0, .inr (11, (((fm.set 107 (.int 0)).set 112 (.int 0)).set 113 (.int 0))))] := hD
    refine lv_aload_n hx hb dX11_assign_79 rfl (lv_at hl 1 rfl) ?_
    refine va_get (D := (dC, dI)) (ci := 11) (v := .int 0) (C := RX11) (T := TX11) (N := 114) hx hb ht inX11 hown hK hP 1 rfl rfl 112 (by decide) (ht _ kw_1539) (fun _ h9 => h9) (gs_ne (by decide) (gs_eq (gs_lt (gs_len hn_fm) (by decide)))) dX11_assign_80 ?_
    refine lv_istore_n (lv' := [(2, .int 0), (0, .ref m0), (1, .int na)]) hx hb dX11_assign_83 rfl hl (by decide) rfl (fun ls hl => ?_)
    refine lv_aload_n hx hb dX11_assign_84 rfl (lv_at hl 1 rfl) ?_
    refine va_get (D := (dC, dI)) (ci := 11) (v := .int 0) (C := RX11) (T := TX11) (N := 114) hx hb ht inX11 hown hK hP 1 rfl rfl 112 (by decide) (ht _ kw_1539) (fun _ h9 => h9) (gs_ne (by decide) (gs_eq (gs_lt (gs_len hn_fm) (by decide)))) dX11_assign_85 ?_
    refine lv_istore_n (lv' := [(3, .int 0), (2, .int 0), (0, .ref m0), (1, .int na)]) hx hb dX11_assign_88 rfl hl (by decide) rfl (fun ls hl => ?_)
    refine lv_aload_n hx hb dX11_assign_89 rfl (lv_at hl 2 rfl) ?_
    refine va_get (D := (dC, dI)) (ci := 11) (v := .int 0) (C := RX11) (T := TX11) (N := 114) hx hb ht inX11 hown hK hP 1 rfl rfl 113 (by decide) (ht _ kw_1540) (fun _ h9 => h9) (gs_eq (gs_lt (gs_len (gs_len hn_fm)) (by decide))) dX11_assign_90 ?_
    refine lv_istore (lv' := [(4, .int 0), (3, .int 0), (2, .int 0), (0, .ref m0), (1, .int na)]) hx hb dX11_assign_93 hl (by decide) rfl (fun ls hl => ?_)
    refine lv_iconst (v := 0) hx hb dX11_assign_95 (by decide) ?_
    refine lv_istore (lv' := [(5, .int 0), (4, .int 0), (3, .int 0), (2, .int 0), (0, .ref m0), (1, .int na)]) hx hb dX11_assign_96 hl (by decide) rfl (fun ls hl => ?_)
    refine lv_iconst (v := 0) hx hb dX11_assign_98 (by decide) ?_
    refine lv_istore (lv' := [(6, .int 0), (5, .int 0), (4, .int 0), (3, .int 0), (2, .int 0), (0, .ref m0), (1, .int na)]) hx hb dX11_assign_99 hl (by decide) rfl (fun ls hl => ?_)
    refine lv_iload hx hb dX11_assign_101 (lv_at hl 0 rfl) ?_
    refine lv_aload_n hx hb dX11_assign_103 rfl (lv_at hl 5 rfl) ?_
    refine va_get (D := (dC, dI)) (ci := 11) (v := .int 0) (C := RX11) (T := TX11) (N := 114) hx hb ht inX11 hown hK hP 1 rfl rfl 107 (by decide) (ht _ kw_1534) (fun _ h9 => h9) (gs_ne (by decide) (gs_ne (by decide) (gs_eq (gs_lt hn_fm (by decide))))) dX11_assign_104 ?_
    refine lv_icmp_ge (tgt := 275) hx hb dX11_assign_107 (by decide) (fun c4 => ?_) (fun c4 => ?_)
    rotate_left
    · exact absurd (by decide) c4
    refine lv_iload_n hx hb dX11_assign_275 rfl (lv_at hl 4 rfl) ?_
    exact W.iret hx hb hr (fun t ht9 hW => ⟨⟨_, (), rfl, (by unfold sp_X11_assign; rw [if_neg c1]), trivial⟩, hS.F ht9⟩) hS.2.2 dX11_assign_276
  · refine lv_bipush (v := (-3)) hx hb dX11_assign_11 (by decide) ?_
    exact W.iret hx hb hr (fun t ht9 hW => ⟨⟨_, (), rfl, (by unfold sp_X11_assign; rw [if_pos c1]), trivial⟩, hS.F ht9⟩) hS.2.2 dX11_assign_13
