-- each call of the law: what holds between the calls is kept by both sides
def LCla_ : List (Nat × List Int) := [(100, []), (101, []), (102, []), (103, []), (104, []), (105, []), (106, []), (107, []), (108, []), (109, []), (110, []), (150, []), (152, []), (153, []), (190, []), (191, []), (400, []), (401, []), (402, []), (403, []), (404, []), (405, []), (406, []), (407, []), (408, []), (409, []), (410, []), (411, []), (412, []), (413, []), (414, []), (415, []), (416, []), (417, []), (418, []), (419, []), (420, []), (421, []), (422, []), (423, []), (424, []), (425, []), (426, []), (427, []), (428, []), (429, []), (430, []), (431, []), (432, []), (433, []), (434, []), (435, []), (436, []), (437, []), (438, []), (439, []), (440, []), (441, []), (442, []), (443, []), (444, []), (445, []), (446, []), (447, []), (448, []), (449, []), (450, []), (451, []), (452, []), (453, []), (454, []), (455, []), (456, []), (457, []), (458, []), (459, []), (460, []), (461, []), (462, []), (463, []), (464, []), (465, []), (466, []), (467, []), (468, []), (469, []), (470, []), (471, []), (472, []), (473, []), (474, []), (475, []), (476, []), (477, []), (478, []), (479, []), (480, []), (481, []), (482, []), (483, []), (484, []), (485, []), (486, []), (487, []), (488, []), (489, []), (490, []), (491, []), (492, []), (493, []), (494, []), (495, []), (496, []), (497, []), (498, []), (499, []), (500, []), (501, []), (502, []), (503, []), (504, []), (505, []), (506, []), (507, []), (508, []), (509, []), (510, []), (511, []), (512, []), (513, []), (514, []), (515, []), (516, []), (517, []), (518, []), (519, []), (520, []), (521, []), (522, []), (523, []), (524, []), (525, []), (526, []), (527, []), (528, []), (529, []), (530, []), (531, []), (532, []), (533, []), (534, []), (535, []), (536, []), (537, []), (538, []), (539, []), (540, []), (541, []), (542, []), (543, []), (544, []), (545, []), (546, []), (547, []), (548, []), (549, []), (550, []), (551, []), (552, []), (553, []), (554, []), (555, []), (556, []), (557, []), (558, []), (559, []), (560, []), (561, []), (562, []), (563, []), (564, []), (565, []), (566, []), (567, []), (568, []), (569, []), (570, []), (571, []), (572, []), (573, []), (574, []), (575, []), (576, []), (577, []), (578, []), (579, []), (580, []), (581, []), (582, []), (583, []), (584, []), (585, []), (586, []), (587, []), (588, []), (589, []), (590, []), (591, []), (592, []), (593, []), (594, []), (595, []), (596, []), (597, []), (598, []), (599, [])]
def LRef_ : List (Nat × List Int) := [(111, []), (200, []), (201, []), (202, []), (203, []), (204, []), (205, []), (206, []), (207, []), (208, []), (209, []), (210, []), (211, []), (212, []), (213, []), (214, []), (215, []), (216, []), (217, []), (218, []), (219, []), (220, []), (221, []), (222, []), (223, []), (224, []), (225, []), (226, []), (227, []), (228, []), (229, []), (230, []), (231, []), (232, []), (233, []), (234, []), (235, []), (236, []), (237, []), (238, []), (239, []), (240, []), (241, []), (242, []), (243, []), (244, []), (245, []), (246, []), (247, []), (248, []), (249, []), (250, []), (251, []), (252, []), (253, []), (254, []), (255, []), (256, []), (257, []), (258, []), (259, []), (260, []), (261, []), (262, []), (263, []), (264, []), (265, []), (266, []), (267, []), (268, []), (269, []), (270, []), (271, []), (272, []), (273, []), (274, []), (275, []), (276, []), (277, []), (278, []), (279, []), (280, []), (281, []), (282, []), (283, []), (284, []), (285, []), (286, []), (287, []), (288, []), (289, []), (290, []), (291, []), (292, []), (293, []), (294, []), (295, []), (296, []), (297, []), (298, []), (299, []), (300, []), (301, []), (302, []), (303, []), (304, []), (305, []), (306, []), (307, []), (308, []), (309, []), (310, []), (311, []), (312, []), (313, [])]
set_option maxRecDepth 100000 in
set_option maxHeartbeats 4000000 in
theorem ir_g {T T' : Zt} (h : IR_ T) (f : fr_ LCla_ T T') : IR_ T' := by
  exact ⟨CW_f h.1 f ⟨fun _ => rfl, fun _ => rfl, fun _ => rfl, fun _ => rfl, fun _ => rfl⟩, RI__f h.2.1 f ⟨fun _ => rfl, rfl, trivial⟩, RW__f h.2.2.1 f ⟨fun _ => rfl, rfl, trivial⟩, EN__f h.2.2.2.1 f ⟨fun _ => rfl, fun _ => rfl, rfl, trivial⟩, ML__f h.2.2.2.2.1 f ⟨fun _ => rfl, fun _ => rfl, rfl, trivial⟩, MC__f h.2.2.2.2.2.1 f ⟨fun _ => rfl, rfl, rfl, trivial⟩, SH__f h.2.2.2.2.2.2.1 f ⟨fun _ => rfl, fun _ => rfl, fun _ => rfl, rfl, trivial⟩, FM__f h.2.2.2.2.2.2.2.1 f ⟨fun _ => rfl, fun _ => rfl, trivial⟩, rx_f h.2.2.2.2.2.2.2.2.1 (f 111 0 29 rfl) (f 111 0 47 rfl) (fun k j h => f k 0 j (by rcases h with rfl | rfl | rfl | rfl | rfl <;> rfl)), rz_f h.2.2.2.2.2.2.2.2.2.1 (f 111 0 29 rfl) (fun j => f 254 0 j rfl) (fun j => f 256 0 j rfl), ZS__f h.2.2.2.2.2.2.2.2.2.2.1 f ⟨fun _ => rfl, fun _ => rfl, trivial⟩, gx_f (x := -1) (y := -1) h.2.2.2.2.2.2.2.2.2.2.2 f ⟨fun _ => rfl, fun _ => rfl, fun _ => rfl⟩ (fun j _ => f 254 0 j rfl) (Or.inl rfl)⟩
theorem ic_h {N : Int} {ws : List (Nat × List Int)} {T T' : Zt} (h : IC_ N T) (f : fr_ ws T T') (w : wt8_ ws) (w2 : fw_ ws 102 5 = false ∧ fw_ ws 102 6 = false) (wn : wn_ ws) (wl : wl_ ws) (w9 : fw_ ws 109 15 = false ∧ fw_ ws 190 (-2) = false ∧ fw_ ws 191 0 = false) : IC_ N T' := by
  obtain ⟨k, d, n, l, s, b1, b2⟩ := h
  have e9 := f 191 0 0 w9.2.2
  refine ⟨ic_t k f w, DD__f d f ⟨w.2.2.1.1, w.2.2.1.2.2.1, w2.1, w2.2, w.2.1.2, trivial⟩, NA_f n f wn, LP_f l (by omega) (lh_f lh_r f w9.2.1 w9.2.2) f wl, ?_, by omega, by omega⟩
  rw [f 109 0 15 w9.1, f 190 _ _ w9.2.1]
  exact s
set_option maxRecDepth 100000 in
set_option maxHeartbeats 4000000 in
theorem ic_g {N : Int} {T T' : Zt} (h : IC_ N T) (f : fr_ LRef_ T T') : IC_ N T' := ic_h h f ⟨⟨fun _ => rfl, fun _ => rfl, fun _ => rfl, fun _ => rfl, fun _ => rfl⟩, ⟨rfl, rfl⟩, ⟨rfl, rfl, rfl, rfl⟩, rfl, rfl, rfl, rfl⟩ ⟨rfl, rfl⟩ ⟨rfl, rfl, rfl, rfl, rfl, rfl, rfl, rfl, rfl⟩ ⟨rfl, rfl, rfl, rfl, rfl, rfl, rfl, rfl, rfl, rfl, rfl⟩ ⟨rfl, rfl, rfl⟩
/-- what is alike on both sides -/
def RE_ (T : Zt) : Prop := T 108 0 2 = T 111 0 12 ∧ T 108 0 3 = T 111 0 15 ∧ T 108 0 12 = T 111 0 21 ∧ T 108 0 13 = T 111 0 3 ∧ SPR_ T ∧ TXR_ T
/-- the counters stay -/
def kq_ (T T' : Zt) : Prop := T' 108 0 2 = T 108 0 2 ∧ T' 108 0 3 = T 108 0 3 ∧ T' 108 0 12 = T 108 0 12 ∧ T' 108 0 13 = T 108 0 13 ∧ T' 111 0 12 = T 111 0 12 ∧ T' 111 0 15 = T 111 0 15 ∧ T' 111 0 21 = T 111 0 21 ∧ T' 111 0 3 = T 111 0 3 ∧ krc_ T T' ∧ kfs_ T T' ∧ krm_ T T' ∧ kth_ T T' ∧ ktr_ T T'
def fq_ (ws : List (Nat × List Int)) : Prop := fw_ ws 108 2 = false ∧ fw_ ws 108 3 = false ∧ fw_ ws 108 12 = false ∧ fw_ ws 108 13 = false ∧ fw_ ws 111 12 = false ∧ fw_ ws 111 15 = false ∧ fw_ ws 111 21 = false ∧ fw_ ws 111 3 = false ∧ fw_ ws 108 5 = false ∧ fw_ ws 111 16 = false ∧ (∀ j, fw_ ws 566 j = false) ∧ (∀ j, fw_ ws 567 j = false) ∧ (∀ j, fw_ ws 568 j = false) ∧ (∀ j, fw_ ws 569 j = false) ∧ (∀ j, fw_ ws 564 j = false) ∧ (∀ j, fw_ ws 217 j = false) ∧ (∀ j, fw_ ws 218 j = false) ∧ (∀ j, fw_ ws 219 j = false) ∧ (∀ j, fw_ ws 220 j = false) ∧ fw_ ws 105 1 = false ∧ fw_ ws 105 3 = false ∧ fw_ ws 106 2 = false ∧ (∀ j, fw_ ws 500 j = false) ∧ (∀ j, fw_ ws 401 j = false) ∧ (∀ j, fw_ ws 402 j = false) ∧ fw_ ws 111 1 = false ∧ fw_ ws 111 2 = false ∧ fw_ ws 111 6 = false ∧ (∀ j, fw_ ws 200 j = false) ∧ (∀ j, fw_ ws 205 j = false)
theorem fq_s {ws : List (Nat × List Int)} {T T' : Zt} (f : fr_ ws T T') (w : fq_ ws) : kq_ T T' := by
  obtain ⟨w0, w1, w2, w3, w4, w5, w6, w7, s1, s2, s3, s4, s5, s6, s7, s8, s9, s10, s11, t1, t2, t3, t4, t5, t6, t7, t8, t9, t10, t11⟩ := w
  exact ⟨f 108 0 2 w0, f 108 0 3 w1, f 108 0 12 w2, f 108 0 13 w3, f 111 0 12 w4, f 111 0 15 w5, f 111 0 21 w6, f 111 0 3 w7, ⟨f 108 0 5 s1, fun j => f 566 0 j (s3 j), fun j => f 567 0 j (s4 j), fun j => f 568 0 j (s5 j), fun j => f 569 0 j (s6 j)⟩, fun j => f 564 0 j (s7 j), ⟨f 111 0 16 s2, fun j => f 217 0 j (s8 j), fun j => f 218 0 j (s9 j), fun j => f 219 0 j (s10 j), fun j => f 220 0 j (s11 j)⟩, ⟨f 105 0 1 t1, f 105 0 3 t2, f 106 0 2 t3, fun j => f 500 0 j (t4 j), fun c j => f 401 c j (t5 j), fun c j => f 402 c j (t6 j)⟩, ⟨f 111 0 1 t7, f 111 0 2 t8, f 111 0 6 t9, fun j => f 200 0 j (t10 j), fun j => f 205 0 j (t11 j)⟩⟩
/-- both answers are there -/
def LBo_ (N : Int) (T : Zt) (r1 r2 : Option Zv) : Prop := ∃ x1 x2 : Int, r1 = some (vI x1) ∧ r2 = some (vI x2) ∧ IC_ (N + 1) T ∧ IR_ T ∧ RE_ T
/-- both answers are the same -/
def LQo_ (N : Int) (T : Zt) (r1 r2 : Option Zv) : Prop := ∃ x : Int, r1 = some (vI x) ∧ r2 = some (vI x) ∧ IC_ (N + 1) T ∧ IR_ T ∧ RE_ T
theorem lq_b {N : Int} {T : Zt} {r1 r2 : Option Zv} (h : LQo_ N T r1 r2) : LBo_ N T r1 r2 := by
  obtain ⟨x, h1, h2, h3⟩ := h
  exact ⟨x, x, h1, h2, h3⟩
/-- what a call of the house leaves -/
def PX_ (N : Int) (T T' : Zt) (r : Option Zv) : Prop := ∃ x : Int, r = some (vI x) ∧ IC_ (N + 1) T' ∧ IR_ T' ∧ kq_ T T'
/-- what a call of the reference leaves -/
def PM_ (N : Int) (T T' : Zt) (r : Option Zv) : Prop := ∃ x : Int, r = some (vI x) ∧ IC_ N T' ∧ IR_ T' ∧ kq_ T T'
theorem re_g {N : Int} {T T1 T2 : Zt} {r1 r2 : Option Zv} (h : RE_ T) (a : PX_ N T T1 r1) (b : PM_ (N + 1) T1 T2 r2) : LBo_ N T2 r1 r2 := by
  obtain ⟨x1, e1, -, -, g1⟩ := a
  obtain ⟨x2, e2, i2, j2, g2⟩ := b
  refine ⟨x1, x2, e1, e2, i2, j2, ?_⟩
  obtain ⟨h0, h1, h2, h3, hs, ht⟩ := h
  obtain ⟨a0, a1, a2, a3, a4, a5, a6, a7, kc1, kf1, km1, kh1, kr1⟩ := g1
  obtain ⟨b0, b1, b2, b3, b4, b5, b6, b7, kc2, kf2, km2, kh2, kr2⟩ := g2
  exact ⟨by omega, by omega, by omega, by omega, spr_k hs (by omega) (krc_t kc1 kc2) (kfs_t kf1 kf2) (krm_t km1 km2), txr_k ht (kth_t kh1 kh2) (ktr_t kr1 kr2)⟩
theorem qm_o {T T' : Zt} {p c f t : Int} {r : Option Zv} (h : po_X11_register_e T p c f t T' r) : po_X11_register T p c f t T' r := by
  obtain ⟨x, e, g, q⟩ := h
  refine ⟨x, e, g, ?_⟩
  rcases q with q | q | q | q | q
  · exact Or.inl q.1
  · exact Or.inr (Or.inl q.1)
  · exact Or.inr (Or.inr (Or.inl q.1))
  · exact Or.inr (Or.inr (Or.inr (Or.inl q.1)))
  · exact Or.inr (Or.inr (Or.inr (Or.inr (by rw [q.1, q.2.2.2.2.2.1]))))
/-- a contract whose post gives P -/
def Cw_ (y : MethodName) (Y : Zm) (T : Zt) (avs : List Zv) (P : Zt → Option Zv → Prop) : Prop := ∃ Qp : Zt → Option Zv → Prop, Ct_ y Y T avs Qp ∧ ∀ T' r, Qp T' r → P T' r
theorem px_f {N x : Int} {ws : List (Nat × List Int)} {T T' : Zt} (hI : IC_ (N + 1) T') (hR : IR_ T) (f : fr_ ws T T') (w : fs_ ws LCla_ = true) (w3 : fq_ ws) : PX_ N T T' (some (vI x)) := ⟨x, rfl, hI, ir_g hR (fr_s f w), fq_s f w3⟩
theorem kq_r {T : Zt} : kq_ T T := ⟨rfl, rfl, rfl, rfl, rfl, rfl, rfl, rfl, krc_r, kfs_r, krm_r, kth_r, ktr_r⟩
theorem px_e {N x : Int} {T : Zt} (hI : IC_ N T) (hR : IR_ T) : PX_ N T T (some (vI x)) := ⟨x, rfl, ic_e hI, hR, kq_r⟩
theorem pm_f {N x : Int} {ws : List (Nat × List Int)} {T T' : Zt} (hI : IC_ N T) (hR : IR_ T') (f : fr_ ws T T') (w : fs_ ws LRef_ = true) (w3 : fq_ ws) : PM_ N T T' (some (vI x)) := ⟨x, rfl, ic_g hI (fr_s f w), hR, fq_s f w3⟩
theorem pm_e {N x : Int} {T : Zt} (hI : IC_ N T) (hR : IR_ T) : PM_ N T T (some (vI x)) := ⟨x, rfl, hI, hR, kq_r⟩
def qx_sign (N : Int) (T : Zt) (c9 : Int) (T' : Zt) (r : Option Zv) : Prop := ∃ x : Int, r = some (vI x) ∧ IC_ (N + 1) T' ∧ IR_ T' ∧ (T' 108 0 2 = T 108 0 2 ∧ T' 108 0 3 = T 108 0 3 ∧ T' 108 0 12 = T 108 0 12 ∧ T' 108 0 13 = T 108 0 13 ∧ T' 111 0 12 = T 111 0 12 ∧ T' 111 0 15 = T 111 0 15 ∧ T' 111 0 21 = T 111 0 21 ∧ T' 111 0 3 = T 111 0 3 ∧ krc_ T T' ∧ kfs_ T T' ∧ krm_ T T' ∧ ktr_ T T' ∧ (T' 105 0 3 = T 105 0 3 ∧ T' 106 0 2 = T 106 0 2 ∧ (∀ c j, T' 401 c j = T 401 c j) ∧ ∀ c j, T' 402 c j = T 402 c j)) ∧ (((x = -3 ∧ T' 105 0 1 = T 105 0 1 ∧ ¬ (c9 = 10 ∨ 32 ≤ c9 ∧ c9 ≤ 126) ∧ RS9_ 500 T T') ∨ ((c9 = 10 ∨ 32 ≤ c9 ∧ c9 ≤ 126) ∧ T 105 0 1 = 400 ∧ x = -5 ∧ T' 105 0 1 = 400 ∧ RS9_ 500 T T') ∨ ((c9 = 10 ∨ 32 ≤ c9 ∧ c9 ≤ 126) ∧ T 105 0 1 < 400 ∧ x = T 105 0 1 + 1 ∧ T' 105 0 1 = x ∧ SG9_ 500 T T' (T 105 0 1) c9)))
set_option maxRecDepth 100000 in
theorem cx_sign {N : Int} {T : Zt} {c9 : Int} (hT : ok_T T) (ha : al_ T 109 0) (hI : IC_ N T) (hN : 0 ≤ N ∧ N ≤ 511) (hR : IR_ T) (hE : RE_ T) : Cw_ yX10_sign zX10_sign T [vR 110 0, vI c9] (qx_sign N T c9) := by
  refine ⟨_, ct_X10_sign_e , fun T1 r q => ?_⟩
  obtain ⟨x, rfl, f, h⟩ := q
  have g := (ic_sign hI (show po_X10_sign T c9 T1 (some (vI x)) from ⟨x, rfl, f, by omega⟩))
  exact ⟨x, rfl, g, ir_g hR (fr_s f (by decide +kernel)), ⟨f 108 0 2 rfl, f 108 0 3 rfl, f 108 0 12 rfl, f 108 0 13 rfl, f 111 0 12 rfl, f 111 0 15 rfl, f 111 0 21 rfl, f 111 0 3 rfl, ⟨f 108 0 5 rfl, fun j => f 566 0 j rfl, fun j => f 567 0 j rfl, fun j => f 568 0 j rfl, fun j => f 569 0 j rfl⟩, fun j => f 564 0 j rfl, ⟨f 111 0 16 rfl, fun j => f 217 0 j rfl, fun j => f 218 0 j rfl, fun j => f 219 0 j rfl, fun j => f 220 0 j rfl⟩, ⟨f 111 0 1 rfl, f 111 0 2 rfl, f 111 0 6 rfl, fun j => f 200 0 j rfl, fun j => f 205 0 j rfl⟩, ⟨f 105 0 3 rfl, f 106 0 2 rfl, fun c j => f 401 c j rfl, fun c j => f 402 c j rfl⟩⟩, h⟩
def qx_wipe (N : Int) (T : Zt) (T' : Zt) (r : Option Zv) : Prop := ∃ x : Int, r = some (vI x) ∧ IC_ (N + 1) T' ∧ IR_ T' ∧ (T' 108 0 2 = T 108 0 2 ∧ T' 108 0 3 = T 108 0 3 ∧ T' 108 0 12 = T 108 0 12 ∧ T' 108 0 13 = T 108 0 13 ∧ T' 111 0 12 = T 111 0 12 ∧ T' 111 0 15 = T 111 0 15 ∧ T' 111 0 21 = T 111 0 21 ∧ T' 111 0 3 = T 111 0 3 ∧ krc_ T T' ∧ kfs_ T T' ∧ krm_ T T' ∧ ktr_ T T' ∧ (T' 105 0 3 = T 105 0 3 ∧ T' 106 0 2 = T 106 0 2 ∧ (∀ j, T' 500 0 j = T 500 0 j) ∧ (∀ c j, T' 401 c j = T 401 c j) ∧ ∀ c j, T' 402 c j = T 402 c j)) ∧ ((T' 105 0 1 = 0 ∧ x = T 105 0 1))
set_option maxRecDepth 100000 in
theorem cx_wipe {N : Int} {T : Zt} (hT : ok_T T) (ha : al_ T 109 0) (hI : IC_ N T) (hN : 0 ≤ N ∧ N ≤ 511) (hR : IR_ T) (hE : RE_ T) : Cw_ yX10_wipe zX10_wipe T [vR 110 0] (qx_wipe N T) := by
  refine ⟨_, ct_X10_wipe , fun T1 r q => ?_⟩
  have g := (ic_wipe hI q)
  obtain ⟨x, rfl, f, h⟩ := q
  exact ⟨x, rfl, g, ir_g hR (fr_s f (by decide +kernel)), ⟨f 108 0 2 rfl, f 108 0 3 rfl, f 108 0 12 rfl, f 108 0 13 rfl, f 111 0 12 rfl, f 111 0 15 rfl, f 111 0 21 rfl, f 111 0 3 rfl, ⟨f 108 0 5 rfl, fun j => f 566 0 j rfl, fun j => f 567 0 j rfl, fun j => f 568 0 j rfl, fun j => f 569 0 j rfl⟩, fun j => f 564 0 j rfl, ⟨f 111 0 16 rfl, fun j => f 217 0 j rfl, fun j => f 218 0 j rfl, fun j => f 219 0 j rfl, fun j => f 220 0 j rfl⟩, ⟨f 111 0 1 rfl, f 111 0 2 rfl, f 111 0 6 rfl, fun j => f 200 0 j rfl, fun j => f 205 0 j rfl⟩, ⟨f 105 0 3 rfl, f 106 0 2 rfl, fun j => f 500 0 j rfl, fun c j => f 401 c j rfl, fun c j => f 402 c j rfl⟩⟩, h⟩
def qx_competition (N : Int) (T : Zt) (T' : Zt) (r : Option Zv) : Prop := ∃ x : Int, r = some (vI x) ∧ IC_ (N + 1) T' ∧ IR_ T' ∧ (T' 108 0 2 = T 108 0 2 ∧ T' 108 0 3 = T 108 0 3 ∧ T' 108 0 12 = T 108 0 12 ∧ T' 108 0 13 = T 108 0 13 ∧ T' 111 0 12 = T 111 0 12 ∧ T' 111 0 15 = T 111 0 15 ∧ T' 111 0 21 = T 111 0 21 ∧ T' 111 0 3 = T 111 0 3 ∧ krc_ T T' ∧ kfs_ T T' ∧ krm_ T T' ∧ ktr_ T T' ∧ ((∀ j, T' 500 0 j = T 500 0 j) ∧ (∀ i j, i ≠ T 106 0 2 → T' 401 i j = T 401 i j) ∧ (T' 106 0 2 = T 106 0 2 → ∀ i j, T' 402 i j = T 402 i j))) ∧ (CH9_ T T' x)
set_option maxRecDepth 100000 in
theorem cx_competition {N : Int} {T : Zt} (hT : ok_T T) (ha : al_ T 109 0) (hI : IC_ N T) (hN : 0 ≤ N ∧ N ≤ 511) (hR : IR_ T) (hE : RE_ T) : Cw_ yX10_competition zX10_competition T [vR 110 0] (qx_competition N T) := by
  refine ⟨_, ct_X10_competition_e hI.2.2.1, fun T1 r q => ?_⟩
  obtain ⟨x, rfl, q, h⟩ := q
  have g := ic_competition hT hI (show po_X10_competition T T1 (some (vI x)) from ⟨x, rfl, q⟩)
  rcases q with f | n
  · exact ⟨x, rfl, g, ir_g hR (fr_s f (by decide +kernel)), ⟨f 108 0 2 rfl, f 108 0 3 rfl, f 108 0 12 rfl, f 108 0 13 rfl, f 111 0 12 rfl, f 111 0 15 rfl, f 111 0 21 rfl, f 111 0 3 rfl, ⟨f 108 0 5 rfl, fun j => f 566 0 j rfl, fun j => f 567 0 j rfl, fun j => f 568 0 j rfl, fun j => f 569 0 j rfl⟩, fun j => f 564 0 j rfl, ⟨f 111 0 16 rfl, fun j => f 217 0 j rfl, fun j => f 218 0 j rfl, fun j => f 219 0 j rfl, fun j => f 220 0 j rfl⟩, ⟨f 111 0 1 rfl, f 111 0 2 rfl, f 111 0 6 rfl, fun j => f 200 0 j rfl, fun j => f 205 0 j rfl⟩, fun j => f 500 0 j rfl, fun i j _ => f 401 i j rfl, fun _ i j => f 402 i j rfl⟩, h⟩
  · have f := n.1
    exact ⟨x, rfl, g, ir_g hR (fr_s f (by decide +kernel)), ⟨f 108 0 2 rfl, f 108 0 3 rfl, f 108 0 12 rfl, f 108 0 13 rfl, f 111 0 12 rfl, f 111 0 15 rfl, f 111 0 21 rfl, f 111 0 3 rfl, ⟨f 108 0 5 rfl, fun j => f 566 0 j rfl, fun j => f 567 0 j rfl, fun j => f 568 0 j rfl, fun j => f 569 0 j rfl⟩, fun j => f 564 0 j rfl, ⟨f 111 0 16 rfl, fun j => f 217 0 j rfl, fun j => f 218 0 j rfl, fun j => f 219 0 j rfl, fun j => f 220 0 j rfl⟩, ⟨f 111 0 1 rfl, f 111 0 2 rfl, f 111 0 6 rfl, fun j => f 200 0 j rfl, fun j => f 205 0 j rfl⟩, fun j => f 500 0 j rfl, fun i j hi => n.2.2.1 401 i j (Or.inr (Or.inr (Or.inl rfl))) hi, fun e => absurd e (by have := n.2.1; omega)⟩, h⟩
def qx_fault (N : Int) (T : Zt) (T' : Zt) (r : Option Zv) : Prop := ∃ x : Int, r = some (vI x) ∧ IC_ (N + 1) T' ∧ IR_ T' ∧ (T' 108 0 2 = T 108 0 2 ∧ T' 108 0 3 = T 108 0 3 ∧ T' 108 0 12 = T 108 0 12 ∧ T' 108 0 13 = T 108 0 13 ∧ T' 111 0 12 = T 111 0 12 ∧ T' 111 0 15 = T 111 0 15 ∧ T' 111 0 21 = T 111 0 21 ∧ T' 111 0 3 = T 111 0 3 ∧ krc_ T T' ∧ kfs_ T T' ∧ krm_ T T' ∧ kth_ T T' ∧ ktr_ T T' ∧ T = T') ∧ (x = T 105 0 3)
set_option maxRecDepth 100000 in
theorem cx_fault {N : Int} {T : Zt} (hT : ok_T T) (ha : al_ T 109 0) (hI : IC_ N T) (hN : 0 ≤ N ∧ N ≤ 511) (hR : IR_ T) (hE : RE_ T) : Cw_ yX10_fault zX10_fault T [vR 110 0] (qx_fault N T) := by
  refine ⟨_, ct_X10_fault_e , fun T1 r q => ?_⟩
  obtain ⟨e, x, rfl, h⟩ := q
  subst e
  exact ⟨x, rfl, ic_e hI, hR, ⟨rfl, rfl, rfl, rfl, rfl, rfl, rfl, rfl, krc_r, kfs_r, krm_r, kth_r, ktr_r, rfl⟩, h⟩
def qx_rule (N : Int) (T : Zt) (c9 w9 : Int) (T' : Zt) (r : Option Zv) : Prop := ∃ x : Int, r = some (vI x) ∧ IC_ (N + 1) T' ∧ IR_ T' ∧ (T' 108 0 2 = T 108 0 2 ∧ T' 108 0 3 = T 108 0 3 ∧ T' 108 0 12 = T 108 0 12 ∧ T' 108 0 13 = T 108 0 13 ∧ T' 111 0 12 = T 111 0 12 ∧ T' 111 0 15 = T 111 0 15 ∧ T' 111 0 21 = T 111 0 21 ∧ T' 111 0 3 = T 111 0 3 ∧ krc_ T T' ∧ kfs_ T T' ∧ krm_ T T' ∧ kth_ T T' ∧ ktr_ T T' ∧ T = T') ∧ ((x = -2 ∧ ¬ (0 ≤ c9 ∧ c9 < T 106 0 2)) ∨ ((0 ≤ c9 ∧ c9 < T 106 0 2) ∧ x = -3 ∧ ¬ (0 ≤ w9 ∧ w9 < 23)) ∨ ((0 ≤ c9 ∧ c9 < T 106 0 2) ∧ (0 ≤ w9 ∧ w9 < 16) ∧ x = T 401 c9 w9) ∨ ((0 ≤ c9 ∧ c9 < T 106 0 2) ∧ (16 ≤ w9 ∧ w9 < 23) ∧ w9 - 16 < T 401 c9 4 ∧ x = T 402 c9 (w9 - 16)) ∨ ((0 ≤ c9 ∧ c9 < T 106 0 2) ∧ (16 ≤ w9 ∧ w9 < 23) ∧ ¬ w9 - 16 < T 401 c9 4 ∧ x = -1))
set_option maxRecDepth 100000 in
theorem cx_rule {N : Int} {T : Zt} {c9 w9 : Int} (hT : ok_T T) (ha : al_ T 109 0) (hI : IC_ N T) (hN : 0 ≤ N ∧ N ≤ 511) (hR : IR_ T) (hE : RE_ T) : Cw_ yX10_rule zX10_rule T [vR 110 0, vI c9, vI w9] (qx_rule N T c9 w9) := by
  refine ⟨_, ct_X10_rule_e hI.1.1, fun T1 r q => ?_⟩
  obtain ⟨e, x, rfl, h⟩ := q
  subst e
  exact ⟨x, rfl, ic_e hI, hR, ⟨rfl, rfl, rfl, rfl, rfl, rfl, rfl, rfl, krc_r, kfs_r, krm_r, kth_r, ktr_r, rfl⟩, h⟩
def qx_club (N : Int) (T : Zt) (s9 c9 : Int) (T' : Zt) (r : Option Zv) : Prop := ∃ x : Int, r = some (vI x) ∧ IC_ (N + 1) T' ∧ IR_ T' ∧ (T' 108 0 3 = T 108 0 3 ∧ T' 108 0 12 = T 108 0 12 ∧ T' 108 0 13 = T 108 0 13 ∧ T' 111 0 12 = T 111 0 12 ∧ T' 111 0 15 = T 111 0 15 ∧ T' 111 0 21 = T 111 0 21 ∧ T' 111 0 3 = T 111 0 3 ∧ krc_ T T' ∧ kfs_ T T' ∧ krm_ T T' ∧ kth_ T T' ∧ ktr_ T T') ∧ (((x = -3 ∧ ¬ (0 ≤ s9 ∧ s9 ≤ 11 ∧ 0 ≤ c9 ∧ c9 ≤ 7) ∧ T' 108 0 2 = T 108 0 2) ∨ ((0 ≤ s9 ∧ s9 ≤ 11 ∧ 0 ≤ c9 ∧ c9 ≤ 7) ∧ T 108 0 2 = 12 ∧ x = -5 ∧ T' 108 0 2 = T 108 0 2) ∨ ((0 ≤ s9 ∧ s9 ≤ 11 ∧ 0 ≤ c9 ∧ c9 ≤ 7) ∧ T 108 0 2 < 12 ∧ x = T 108 0 2 ∧ T' 108 0 2 = T 108 0 2 + 1)))
set_option maxRecDepth 100000 in
theorem cx_club {N : Int} {T : Zt} {s9 c9 : Int} (hT : ok_T T) (ha : al_ T 109 0) (hI : IC_ N T) (hN : 0 ≤ N ∧ N ≤ 511) (hR : IR_ T) (hE : RE_ T) : Cw_ yX10_club zX10_club T [vR 110 0, vI s9, vI c9] (qx_club N T s9 c9) := by
  refine ⟨_, ct_X10_club , fun T1 r q => ?_⟩
  have g := (ic_club hI q)
  obtain ⟨x, rfl, f, h⟩ := q
  exact ⟨x, rfl, g, ir_g hR (fr_s f (by decide +kernel)), ⟨f 108 0 3 rfl, f 108 0 12 rfl, f 108 0 13 rfl, f 111 0 12 rfl, f 111 0 15 rfl, f 111 0 21 rfl, f 111 0 3 rfl, ⟨f 108 0 5 rfl, fun j => f 566 0 j rfl, fun j => f 567 0 j rfl, fun j => f 568 0 j rfl, fun j => f 569 0 j rfl⟩, fun j => f 564 0 j rfl, ⟨f 111 0 16 rfl, fun j => f 217 0 j rfl, fun j => f 218 0 j rfl, fun j => f 219 0 j rfl, fun j => f 220 0 j rfl⟩, ⟨f 105 0 1 rfl, f 105 0 3 rfl, f 106 0 2 rfl, fun j => f 500 0 j rfl, fun c j => f 401 c j rfl, fun c j => f 402 c j rfl⟩, ⟨f 111 0 1 rfl, f 111 0 2 rfl, f 111 0 6 rfl, fun j => f 200 0 j rfl, fun j => f 205 0 j rfl⟩⟩, h⟩
def qx_person (N : Int) (T : Zt) (T' : Zt) (r : Option Zv) : Prop := ∃ x : Int, r = some (vI x) ∧ IC_ (N + 1) T' ∧ IR_ T' ∧ (T' 108 0 2 = T 108 0 2 ∧ T' 108 0 12 = T 108 0 12 ∧ T' 108 0 13 = T 108 0 13 ∧ T' 111 0 12 = T 111 0 12 ∧ T' 111 0 15 = T 111 0 15 ∧ T' 111 0 21 = T 111 0 21 ∧ T' 111 0 3 = T 111 0 3 ∧ krc_ T T' ∧ krm_ T T' ∧ kth_ T T' ∧ ktr_ T T') ∧ ((QP_ T T' x))
set_option maxRecDepth 100000 in
theorem cx_person {N : Int} {T : Zt} (hT : ok_T T) (ha : al_ T 109 0) (hI : IC_ N T) (hN : 0 ≤ N ∧ N ≤ 511) (hR : IR_ T) (hE : RE_ T) : Cw_ yX10_person zX10_person T [vR 110 0] (qx_person N T) := by
  refine ⟨_, ct_X10_person_e , fun T1 r q => ?_⟩
  obtain ⟨x, rfl, f, h⟩ := q
  have g := (ic_person hI ⟨x, rfl, f, h.elim (fun z => Or.inr (Or.inl ⟨rfl, z.1, z.2.1, by rw [z.2.2]⟩)) (fun z => Or.inr (Or.inr ⟨rfl, z.1, z.2.1, z.2.2.1⟩))⟩)
  exact ⟨x, rfl, g, ir_g hR (fr_s f (by decide +kernel)), ⟨f 108 0 2 rfl, f 108 0 12 rfl, f 108 0 13 rfl, f 111 0 12 rfl, f 111 0 15 rfl, f 111 0 21 rfl, f 111 0 3 rfl, ⟨f 108 0 5 rfl, fun j => f 566 0 j rfl, fun j => f 567 0 j rfl, fun j => f 568 0 j rfl, fun j => f 569 0 j rfl⟩, ⟨f 111 0 16 rfl, fun j => f 217 0 j rfl, fun j => f 218 0 j rfl, fun j => f 219 0 j rfl, fun j => f 220 0 j rfl⟩, ⟨f 105 0 1 rfl, f 105 0 3 rfl, f 106 0 2 rfl, fun j => f 500 0 j rfl, fun c j => f 401 c j rfl, fun c j => f 402 c j rfl⟩, ⟨f 111 0 1 rfl, f 111 0 2 rfl, f 111 0 6 rfl, fun j => f 200 0 j rfl, fun j => f 205 0 j rfl⟩⟩, h⟩
def qx_register (N : Int) (T : Zt) (p9 cl9 a9 b9 : Int) (T' : Zt) (r : Option Zv) : Prop := ∃ x : Int, r = some (vI x) ∧ IC_ (N + 1) T' ∧ IR_ T' ∧ (T' 108 0 2 = T 108 0 2 ∧ T' 108 0 3 = T 108 0 3 ∧ T' 108 0 12 = T 108 0 12 ∧ T' 108 0 13 = T 108 0 13 ∧ T' 111 0 12 = T 111 0 12 ∧ T' 111 0 15 = T 111 0 15 ∧ T' 111 0 21 = T 111 0 21 ∧ T' 111 0 3 = T 111 0 3 ∧ krm_ T T' ∧ kth_ T T' ∧ ktr_ T T') ∧ ((QR_ T T' p9 cl9 a9 b9 x))
set_option maxRecDepth 100000 in
theorem cx_register {N : Int} {T : Zt} {p9 cl9 a9 b9 : Int} (hT : ok_T T) (ha : al_ T 109 0) (hI : IC_ N T) (hN : 0 ≤ N ∧ N ≤ 511) (hR : IR_ T) (hE : RE_ T) : Cw_ yX10_register zX10_register T [vR 110 0, vI p9, vI cl9, vI a9, vI b9] (qx_register N T p9 cl9 a9 b9) := by
  refine ⟨_, ct_X10_register_e hE.2.2.2.2.1, fun T1 r q => ?_⟩
  obtain ⟨x, rfl, f, h⟩ := q
  have g := (ic_register (p := p9) (cl := cl9) (a := a9) (b := b9) hI ⟨x, rfl, f, rfl⟩)
  exact ⟨x, rfl, g, ir_g hR (fr_s f (by decide +kernel)), ⟨f 108 0 2 rfl, f 108 0 3 rfl, f 108 0 12 rfl, f 108 0 13 rfl, f 111 0 12 rfl, f 111 0 15 rfl, f 111 0 21 rfl, f 111 0 3 rfl, ⟨f 111 0 16 rfl, fun j => f 217 0 j rfl, fun j => f 218 0 j rfl, fun j => f 219 0 j rfl, fun j => f 220 0 j rfl⟩, ⟨f 105 0 1 rfl, f 105 0 3 rfl, f 106 0 2 rfl, fun j => f 500 0 j rfl, fun c j => f 401 c j rfl, fun c j => f 402 c j rfl⟩, ⟨f 111 0 1 rfl, f 111 0 2 rfl, f 111 0 6 rfl, fun j => f 200 0 j rfl, fun j => f 205 0 j rfl⟩⟩, h⟩
def qx_official (N : Int) (T : Zt) (s9 c9 : Int) (T' : Zt) (r : Option Zv) : Prop := ∃ x : Int, r = some (vI x) ∧ IC_ (N + 1) T' ∧ IR_ T' ∧ (T' 108 0 2 = T 108 0 2 ∧ T' 108 0 3 = T 108 0 3 ∧ T' 108 0 13 = T 108 0 13 ∧ T' 111 0 12 = T 111 0 12 ∧ T' 111 0 15 = T 111 0 15 ∧ T' 111 0 21 = T 111 0 21 ∧ T' 111 0 3 = T 111 0 3 ∧ krc_ T T' ∧ kfs_ T T' ∧ krm_ T T' ∧ kth_ T T' ∧ ktr_ T T') ∧ (((x = -3 ∧ ¬ (0 ≤ s9 ∧ s9 ≤ 11 ∧ 0 ≤ c9 ∧ c9 ≤ 7) ∧ T' 108 0 12 = T 108 0 12) ∨ ((0 ≤ s9 ∧ s9 ≤ 11 ∧ 0 ≤ c9 ∧ c9 ≤ 7) ∧ T 108 0 12 = 8 ∧ x = -5 ∧ T' 108 0 12 = T 108 0 12) ∨ ((0 ≤ s9 ∧ s9 ≤ 11 ∧ 0 ≤ c9 ∧ c9 ≤ 7) ∧ T 108 0 12 < 8 ∧ x = T 108 0 12 ∧ T' 108 0 12 = T 108 0 12 + 1)))
set_option maxRecDepth 100000 in
theorem cx_official {N : Int} {T : Zt} {s9 c9 : Int} (hT : ok_T T) (ha : al_ T 109 0) (hI : IC_ N T) (hN : 0 ≤ N ∧ N ≤ 511) (hR : IR_ T) (hE : RE_ T) : Cw_ yX10_official zX10_official T [vR 110 0, vI s9, vI c9] (qx_official N T s9 c9) := by
  refine ⟨_, ct_X10_official , fun T1 r q => ?_⟩
  have g := (ic_official hI q)
  obtain ⟨x, rfl, f, h⟩ := q
  exact ⟨x, rfl, g, ir_g hR (fr_s f (by decide +kernel)), ⟨f 108 0 2 rfl, f 108 0 3 rfl, f 108 0 13 rfl, f 111 0 12 rfl, f 111 0 15 rfl, f 111 0 21 rfl, f 111 0 3 rfl, ⟨f 108 0 5 rfl, fun j => f 566 0 j rfl, fun j => f 567 0 j rfl, fun j => f 568 0 j rfl, fun j => f 569 0 j rfl⟩, fun j => f 564 0 j rfl, ⟨f 111 0 16 rfl, fun j => f 217 0 j rfl, fun j => f 218 0 j rfl, fun j => f 219 0 j rfl, fun j => f 220 0 j rfl⟩, ⟨f 105 0 1 rfl, f 105 0 3 rfl, f 106 0 2 rfl, fun j => f 500 0 j rfl, fun c j => f 401 c j rfl, fun c j => f 402 c j rfl⟩, ⟨f 111 0 1 rfl, f 111 0 2 rfl, f 111 0 6 rfl, fun j => f 200 0 j rfl, fun j => f 205 0 j rfl⟩⟩, h⟩
def qx_day (N : Int) (T : Zt) (d9 : Int) (T' : Zt) (r : Option Zv) : Prop := ∃ x : Int, r = some (vI x) ∧ IC_ (N + 1) T' ∧ IR_ T' ∧ (T' 108 0 2 = T 108 0 2 ∧ T' 108 0 3 = T 108 0 3 ∧ T' 108 0 12 = T 108 0 12 ∧ T' 111 0 12 = T 111 0 12 ∧ T' 111 0 15 = T 111 0 15 ∧ T' 111 0 21 = T 111 0 21 ∧ T' 111 0 3 = T 111 0 3 ∧ krc_ T T' ∧ kfs_ T T' ∧ krm_ T T' ∧ kth_ T T' ∧ ktr_ T T') ∧ (((x = -3 ∧ ¬ (T 108 0 13 < d9 ∧ d9 ≤ 999) ∧ T' 108 0 13 = T 108 0 13) ∨ (T 108 0 13 < d9 ∧ d9 ≤ 999 ∧ x = T 108 0 13 ∧ T' 108 0 13 = d9)))
set_option maxRecDepth 100000 in
theorem cx_day {N : Int} {T : Zt} {d9 : Int} (hT : ok_T T) (ha : al_ T 109 0) (hI : IC_ N T) (hN : 0 ≤ N ∧ N ≤ 511) (hR : IR_ T) (hE : RE_ T) : Cw_ yX10_day zX10_day T [vR 110 0, vI d9] (qx_day N T d9) := by
  refine ⟨_, ct_X10_day , fun T1 r q => ?_⟩
  have g := (ic_day hI q)
  obtain ⟨x, rfl, f, h⟩ := q
  exact ⟨x, rfl, g, ir_g hR (fr_s f (by decide +kernel)), ⟨f 108 0 2 rfl, f 108 0 3 rfl, f 108 0 12 rfl, f 111 0 12 rfl, f 111 0 15 rfl, f 111 0 21 rfl, f 111 0 3 rfl, ⟨f 108 0 5 rfl, fun j => f 566 0 j rfl, fun j => f 567 0 j rfl, fun j => f 568 0 j rfl, fun j => f 569 0 j rfl⟩, fun j => f 564 0 j rfl, ⟨f 111 0 16 rfl, fun j => f 217 0 j rfl, fun j => f 218 0 j rfl, fun j => f 219 0 j rfl, fun j => f 220 0 j rfl⟩, ⟨f 105 0 1 rfl, f 105 0 3 rfl, f 106 0 2 rfl, fun j => f 500 0 j rfl, fun c j => f 401 c j rfl, fun c j => f 402 c j rfl⟩, ⟨f 111 0 1 rfl, f 111 0 2 rfl, f 111 0 6 rfl, fun j => f 200 0 j rfl, fun j => f 205 0 j rfl⟩⟩, h⟩
set_option maxRecDepth 100000 in
theorem cx_enter {N : Int} {T : Zt} {c9 b9 : Int} (hT : ok_T T) (ha : al_ T 109 0) (hI : IC_ N T) (hN : 0 ≤ N ∧ N ≤ 511) (hR : IR_ T) (hE : RE_ T) : Cw_ yX10_enter zX10_enter T [vR 110 0, vI c9, vI b9] (PX_ N T) := by
  refine ⟨_, ct_X10_enter_k hI.1.1 hI.1.2.2.2.2.2.2.1, fun T1 r q => ?_⟩
  have g := (ic_enter hI q)
  obtain ⟨x, rfl, f, -⟩ := q
  exact px_f g hR f (by decide +kernel) ⟨rfl, rfl, rfl, rfl, rfl, rfl, rfl, rfl, rfl, rfl, fun _ => rfl, fun _ => rfl, fun _ => rfl, fun _ => rfl, fun _ => rfl, fun _ => rfl, fun _ => rfl, fun _ => rfl, fun _ => rfl, rfl, rfl, rfl, fun _ => rfl, fun _ => rfl, fun _ => rfl, rfl, rfl, rfl, fun _ => rfl, fun _ => rfl⟩
set_option maxRecDepth 100000 in
theorem cx_plan {N : Int} {T : Zt} {c9 b9 : Int} (hT : ok_T T) (ha : al_ T 109 0) (hI : IC_ N T) (hN : 0 ≤ N ∧ N ≤ 511) (hR : IR_ T) (hE : RE_ T) : Cw_ yX10_plan zX10_plan T [vR 110 0, vI c9, vI b9] (PX_ N T) := by
  refine ⟨_, ct_X10_plan hI.1.1 hI.1.2.2.2.2.2.2.1 hI.1.2.2.2.2.2.2.2.1 hI.2.2.1, fun T1 r q => ?_⟩
  have g := (ic_plan hT hI q)
  obtain ⟨x, rfl, q | q⟩ := q
  · subst q; exact px_e hI hR
  · exact px_f g hR q.2.1 (by decide +kernel) ⟨rfl, rfl, rfl, rfl, rfl, rfl, rfl, rfl, rfl, rfl, fun _ => rfl, fun _ => rfl, fun _ => rfl, fun _ => rfl, fun _ => rfl, fun _ => rfl, fun _ => rfl, fun _ => rfl, fun _ => rfl, rfl, rfl, rfl, fun _ => rfl, fun _ => rfl, fun _ => rfl, rfl, rfl, rfl, fun _ => rfl, fun _ => rfl⟩
set_option maxRecDepth 100000 in
theorem cx_match {N : Int} {T : Zt} {m9 w9 : Int} (hT : ok_T T) (ha : al_ T 109 0) (hI : IC_ N T) (hN : 0 ≤ N ∧ N ≤ 511) (hR : IR_ T) (hE : RE_ T) : Cw_ yX10_match zX10_match T [vR 110 0, vI m9, vI w9] (PX_ N T) := by
  refine ⟨_, ct_X10_match hI.1.1, fun T1 r q => ?_⟩
  obtain ⟨e, x, rfl, -⟩ := q
  subst e
  exact px_e hI hR
set_option maxRecDepth 100000 in
theorem cx_breaks {N : Int} {T : Zt} {c9 cl9 : Int} (hT : ok_T T) (ha : al_ T 109 0) (hI : IC_ N T) (hN : 0 ≤ N ∧ N ≤ 511) (hR : IR_ T) (hE : RE_ T) : Cw_ yX10_breaks zX10_breaks T [vR 110 0, vI c9, vI cl9] (PX_ N T) := by
  refine ⟨_, ct_X10_breaks hI.1.1 hI.1.2.2.1, fun T1 r q => ?_⟩
  obtain ⟨e, x, rfl, -⟩ := q
  subst e
  exact px_e hI hR
set_option maxRecDepth 100000 in
theorem cx_postpone {N : Int} {T : Zt} {m9 d9 : Int} (hT : ok_T T) (ha : al_ T 109 0) (hI : IC_ N T) (hN : 0 ≤ N ∧ N ≤ 511) (hR : IR_ T) (hE : RE_ T) : Cw_ yX10_postpone zX10_postpone T [vR 110 0, vI m9, vI d9] (PX_ N T) := by
  refine ⟨_, ct_X10_postpone_k hI.1.1 hI.1.2.1 hI.2.1, fun T1 r q => ?_⟩
  have g := (ic_postpone hI q)
  obtain ⟨x, rfl, f, -⟩ := q
  exact px_f g hR f (by decide +kernel) ⟨rfl, rfl, rfl, rfl, rfl, rfl, rfl, rfl, rfl, rfl, fun _ => rfl, fun _ => rfl, fun _ => rfl, fun _ => rfl, fun _ => rfl, fun _ => rfl, fun _ => rfl, fun _ => rfl, fun _ => rfl, rfl, rfl, rfl, fun _ => rfl, fun _ => rfl, fun _ => rfl, rfl, rfl, rfl, fun _ => rfl, fun _ => rfl⟩
set_option maxRecDepth 100000 in
theorem cx_moved {N : Int} {T : Zt} {k9 : Int} (hT : ok_T T) (ha : al_ T 109 0) (hI : IC_ N T) (hN : 0 ≤ N ∧ N ≤ 511) (hR : IR_ T) (hE : RE_ T) : Cw_ yX10_moved zX10_moved T [vR 110 0, vI k9] (PX_ N T) := by
  refine ⟨_, ct_X10_moved , fun T1 r q => ?_⟩
  obtain ⟨e, x, rfl, -⟩ := q
  subst e
  exact px_e hI hR
set_option maxRecDepth 100000 in
theorem cx_deduct {N : Int} {T : Zt} {c9 cl9 p9 : Int} (hT : ok_T T) (ha : al_ T 109 0) (hI : IC_ N T) (hN : 0 ≤ N ∧ N ≤ 511) (hR : IR_ T) (hE : RE_ T) : Cw_ yX10_deduct zX10_deduct T [vR 110 0, vI c9, vI cl9, vI p9] (PX_ N T) := by
  refine ⟨_, ct_X10_deduct hI.1.1, fun T1 r q => ?_⟩
  have g := (ic_deduct hI q)
  obtain ⟨x, rfl, f, -⟩ := q
  exact px_f g hR f (by decide +kernel) ⟨rfl, rfl, rfl, rfl, rfl, rfl, rfl, rfl, rfl, rfl, fun _ => rfl, fun _ => rfl, fun _ => rfl, fun _ => rfl, fun _ => rfl, fun _ => rfl, fun _ => rfl, fun _ => rfl, fun _ => rfl, rfl, rfl, rfl, fun _ => rfl, fun _ => rfl, fun _ => rfl, rfl, rfl, rfl, fun _ => rfl, fun _ => rfl⟩
set_option maxRecDepth 100000 in
theorem cx_eligible {N : Int} {T : Zt} {q9 m9 d9 : Int} (hT : ok_T T) (ha : al_ T 109 0) (hI : IC_ N T) (hN : 0 ≤ N ∧ N ≤ 511) (hR : IR_ T) (hE : RE_ T) : Cw_ yX10_eligible zX10_eligible T [vR 110 0, vI q9, vI m9, vI d9] (PX_ N T) := by
  refine ⟨_, ct_X10_eligible hI.1.1 hI.1.2.1 hI.1.2.2.1, fun T1 r q => ?_⟩
  have g := (ic_eligible hI q)
  obtain ⟨x, rfl, f, -⟩ := q
  exact px_f g hR f (by decide +kernel) ⟨rfl, rfl, rfl, rfl, rfl, rfl, rfl, rfl, rfl, rfl, fun _ => rfl, fun _ => rfl, fun _ => rfl, fun _ => rfl, fun _ => rfl, fun _ => rfl, fun _ => rfl, fun _ => rfl, fun _ => rfl, rfl, rfl, rfl, fun _ => rfl, fun _ => rfl, fun _ => rfl, rfl, rfl, rfl, fun _ => rfl, fun _ => rfl⟩
set_option maxRecDepth 100000 in
theorem cx_lineUp {N : Int} {T : Zt} {q9 b9 s9 : Int} (hT : ok_T T) (ha : al_ T 109 0) (hI : IC_ N T) (hN : 0 ≤ N ∧ N ≤ 511) (hR : IR_ T) (hE : RE_ T) : Cw_ yX10_lineUp zX10_lineUp T [vR 110 0, vI q9, vI b9, vI s9] (PX_ N T) := by
  refine ⟨_, ct_X10_lineUp hI.1.1 hI.1.2.1 hI.1.2.2.1 hI.1.2.2.2.1, fun T1 r q => ?_⟩
  have g := (ic_lineUp hI q)
  obtain ⟨x, rfl, f, -⟩ := q
  exact px_f g hR f (by decide +kernel) ⟨rfl, rfl, rfl, rfl, rfl, rfl, rfl, rfl, rfl, rfl, fun _ => rfl, fun _ => rfl, fun _ => rfl, fun _ => rfl, fun _ => rfl, fun _ => rfl, fun _ => rfl, fun _ => rfl, fun _ => rfl, rfl, rfl, rfl, fun _ => rfl, fun _ => rfl, fun _ => rfl, rfl, rfl, rfl, fun _ => rfl, fun _ => rfl⟩
set_option maxRecDepth 100000 in
theorem cx_start {N : Int} {T : Zt} {m9 : Int} (hT : ok_T T) (ha : al_ T 109 0) (hI : IC_ N T) (hN : 0 ≤ N ∧ N ≤ 511) (hR : IR_ T) (hE : RE_ T) : Cw_ yX10_start zX10_start T [vR 110 0, vI m9] (PX_ N T) := by
  have h9 : 0 ≤ T 191 0 0 ∧ T 191 0 0 ≤ 900000000 := ⟨hI.2.2.2.2.2.1, by have := hI.2.2.2.2.2.2; omega⟩
  refine ⟨_, ct_X10_start hI.1.1 hI.1.2.1 hI.1.2.2.2.1 hI.2.2.2.1 hN h9 hI.2.2.1, fun T1 r q => ?_⟩
  have g := (ic_start hT ha hI q)
  obtain ⟨x, rfl, f, -⟩ := q
  exact px_f g hR f (by decide +kernel) ⟨rfl, rfl, rfl, rfl, rfl, rfl, rfl, rfl, rfl, rfl, fun _ => rfl, fun _ => rfl, fun _ => rfl, fun _ => rfl, fun _ => rfl, fun _ => rfl, fun _ => rfl, fun _ => rfl, fun _ => rfl, rfl, rfl, rfl, fun _ => rfl, fun _ => rfl, fun _ => rfl, rfl, rfl, rfl, fun _ => rfl, fun _ => rfl⟩
set_option maxRecDepth 100000 in
theorem cx_walkOver {N : Int} {T : Zt} {m9 d9 : Int} (hT : ok_T T) (ha : al_ T 109 0) (hI : IC_ N T) (hN : 0 ≤ N ∧ N ≤ 511) (hR : IR_ T) (hE : RE_ T) : Cw_ yX10_walkOver zX10_walkOver T [vR 110 0, vI m9, vI d9] (PX_ N T) := by
  refine ⟨_, ct_X10_walkOver_k hI.1.1, fun T1 r q => ?_⟩
  have g := (ic_walkOver hI q)
  obtain ⟨x, rfl, f, -⟩ := q
  exact px_f g hR f (by decide +kernel) ⟨rfl, rfl, rfl, rfl, rfl, rfl, rfl, rfl, rfl, rfl, fun _ => rfl, fun _ => rfl, fun _ => rfl, fun _ => rfl, fun _ => rfl, fun _ => rfl, fun _ => rfl, fun _ => rfl, fun _ => rfl, rfl, rfl, rfl, fun _ => rfl, fun _ => rfl, fun _ => rfl, rfl, rfl, rfl, fun _ => rfl, fun _ => rfl⟩
set_option maxRecDepth 100000 in
theorem cx_event {N : Int} {T : Zt} {m9 k9 s9 a9 b9 : Int} (hT : ok_T T) (ha : al_ T 109 0) (hI : IC_ N T) (hN : 0 ≤ N ∧ N ≤ 511) (hR : IR_ T) (hE : RE_ T) : Cw_ yX10_event zX10_event T [vR 110 0, vI m9, vI k9, vI s9, vI a9, vI b9] (PX_ N T) := by
  have h9 : 0 ≤ T 191 0 0 ∧ T 191 0 0 ≤ 900000000 := ⟨hI.2.2.2.2.2.1, by have := hI.2.2.2.2.2.2; omega⟩
  refine ⟨_, ct_X10_event hI.1.1 hI.1.2.1 hI.1.2.2.2.1 hI.2.2.2.1 hN h9, fun T1 r q => ?_⟩
  have g := (ic_event hT ha hI q)
  obtain ⟨x, rfl, f, -⟩ := q
  exact px_f g hR f (by decide +kernel) ⟨rfl, rfl, rfl, rfl, rfl, rfl, rfl, rfl, rfl, rfl, fun _ => rfl, fun _ => rfl, fun _ => rfl, fun _ => rfl, fun _ => rfl, fun _ => rfl, fun _ => rfl, fun _ => rfl, fun _ => rfl, rfl, rfl, rfl, fun _ => rfl, fun _ => rfl, fun _ => rfl, rfl, rfl, rfl, fun _ => rfl, fun _ => rfl⟩
set_option maxRecDepth 100000 in
theorem cx_review {N : Int} {T : Zt} {m9 i9 k9 s9 a9 b9 : Int} (hT : ok_T T) (ha : al_ T 109 0) (hI : IC_ N T) (hN : 0 ≤ N ∧ N ≤ 511) (hR : IR_ T) (hE : RE_ T) : Cw_ yX10_review zX10_review T [vR 110 0, vI m9, vI i9, vI k9, vI s9, vI a9, vI b9] (PX_ N T) := by
  have h9 : 0 ≤ T 191 0 0 ∧ T 191 0 0 ≤ 900000000 := ⟨hI.2.2.2.2.2.1, by have := hI.2.2.2.2.2.2; omega⟩
  refine ⟨_, ct_X10_review hI.1.1 hI.1.2.1 hI.1.2.2.2.1 hI.2.2.2.1 hN h9, fun T1 r q => ?_⟩
  have g := (ic_review hT ha hI q)
  obtain ⟨x, rfl, f, -⟩ := q
  exact px_f g hR f (by decide +kernel) ⟨rfl, rfl, rfl, rfl, rfl, rfl, rfl, rfl, rfl, rfl, fun _ => rfl, fun _ => rfl, fun _ => rfl, fun _ => rfl, fun _ => rfl, fun _ => rfl, fun _ => rfl, fun _ => rfl, fun _ => rfl, rfl, rfl, rfl, fun _ => rfl, fun _ => rfl, fun _ => rfl, rfl, rfl, rfl, fun _ => rfl, fun _ => rfl⟩
set_option maxRecDepth 100000 in
theorem cx_rows {N : Int} {T : Zt} {m9 w9 : Int} (hT : ok_T T) (ha : al_ T 109 0) (hI : IC_ N T) (hN : 0 ≤ N ∧ N ≤ 511) (hR : IR_ T) (hE : RE_ T) : Cw_ yX10_rows zX10_rows T [vR 110 0, vI m9, vI w9] (PX_ N T) := by
  refine ⟨_, ct_X10_rows hI.1.1, fun T1 r q => ?_⟩
  obtain ⟨e, x, rfl, -⟩ := q
  subst e
  exact px_e hI hR
set_option maxRecDepth 100000 in
theorem cx_row {N : Int} {T : Zt} {m9 i9 w9 : Int} (hT : ok_T T) (ha : al_ T 109 0) (hI : IC_ N T) (hN : 0 ≤ N ∧ N ≤ 511) (hR : IR_ T) (hE : RE_ T) : Cw_ yX10_row zX10_row T [vR 110 0, vI m9, vI i9, vI w9] (PX_ N T) := by
  have h9 : 0 ≤ T 191 0 0 ∧ T 191 0 0 ≤ 900000000 := ⟨hI.2.2.2.2.2.1, by have := hI.2.2.2.2.2.2; omega⟩
  refine ⟨_, ct_X10_row hI.1.1 hI.1.2.1 hI.1.2.2.2.1 hI.2.2.2.1 hN h9, fun T1 r q => ?_⟩
  obtain ⟨e, x, rfl, -⟩ := q
  subst e
  exact px_e hI hR
set_option maxRecDepth 100000 in
theorem cx_state {N : Int} {T : Zt} {m9 w9 : Int} (hT : ok_T T) (ha : al_ T 109 0) (hI : IC_ N T) (hN : 0 ≤ N ∧ N ≤ 511) (hR : IR_ T) (hE : RE_ T) : Cw_ yX10_state zX10_state T [vR 110 0, vI m9, vI w9] (PX_ N T) := by
  refine ⟨_, ct_X10_state hI.1.1, fun T1 r q => ?_⟩
  obtain ⟨e, x, rfl, -⟩ := q
  subst e
  exact px_e hI hR
set_option maxRecDepth 100000 in
theorem cx_onField {N : Int} {T : Zt} {m9 d9 k9 : Int} (hT : ok_T T) (ha : al_ T 109 0) (hI : IC_ N T) (hN : 0 ≤ N ∧ N ≤ 511) (hR : IR_ T) (hE : RE_ T) : Cw_ yX10_onField zX10_onField T [vR 110 0, vI m9, vI d9, vI k9] (PX_ N T) := by
  refine ⟨_, ct_X10_onField hI.1.1, fun T1 r q => ?_⟩
  obtain ⟨e, x, rfl, -⟩ := q
  subst e
  exact px_e hI hR
set_option maxRecDepth 100000 in
theorem cx_table {N : Int} {T : Zt} {c9 d9 b9 w9 : Int} (hT : ok_T T) (ha : al_ T 109 0) (hI : IC_ N T) (hN : 0 ≤ N ∧ N ≤ 511) (hR : IR_ T) (hE : RE_ T) : Cw_ yX10_table zX10_table T [vR 110 0, vI c9, vI d9, vI b9, vI w9] (PX_ N T) := by
  refine ⟨_, ct_X10_table hI.1.1 hI.1.2.1 hI.1.2.2.1 hI.1.2.2.2.2.2.1, fun T1 r q => ?_⟩
  have g := (ic_table hI q)
  obtain ⟨x, rfl, f, -⟩ := q
  exact px_f g hR f (by decide +kernel) ⟨rfl, rfl, rfl, rfl, rfl, rfl, rfl, rfl, rfl, rfl, fun _ => rfl, fun _ => rfl, fun _ => rfl, fun _ => rfl, fun _ => rfl, fun _ => rfl, fun _ => rfl, fun _ => rfl, fun _ => rfl, rfl, rfl, rfl, fun _ => rfl, fun _ => rfl, fun _ => rfl, rfl, rfl, rfl, fun _ => rfl, fun _ => rfl⟩
set_option maxRecDepth 100000 in
theorem cx_standing {N : Int} {T : Zt} {c9 d9 k9 : Int} (hT : ok_T T) (ha : al_ T 109 0) (hI : IC_ N T) (hN : 0 ≤ N ∧ N ≤ 511) (hR : IR_ T) (hE : RE_ T) : Cw_ yX10_standing zX10_standing T [vR 110 0, vI c9, vI d9, vI k9] (PX_ N T) := by
  refine ⟨_, ct_X10_standing hI.1.1 hI.1.2.1 hI.1.2.2.1 hI.1.2.2.2.2.2.1, fun T1 r q => ?_⟩
  have g := (ic_standing hI q)
  obtain ⟨x, rfl, f, -⟩ := q
  exact px_f g hR f (by decide +kernel) ⟨rfl, rfl, rfl, rfl, rfl, rfl, rfl, rfl, rfl, rfl, fun _ => rfl, fun _ => rfl, fun _ => rfl, fun _ => rfl, fun _ => rfl, fun _ => rfl, fun _ => rfl, fun _ => rfl, fun _ => rfl, rfl, rfl, rfl, fun _ => rfl, fun _ => rfl, fun _ => rfl, rfl, rfl, rfl, fun _ => rfl, fun _ => rfl⟩
set_option maxRecDepth 100000 in
theorem cx_parted {N : Int} {T : Zt} {c9 d9 k9 : Int} (hT : ok_T T) (ha : al_ T 109 0) (hI : IC_ N T) (hN : 0 ≤ N ∧ N ≤ 511) (hR : IR_ T) (hE : RE_ T) : Cw_ yX10_parted zX10_parted T [vR 110 0, vI c9, vI d9, vI k9] (PX_ N T) := by
  refine ⟨_, ct_X10_parted hI.1.1 hI.1.2.1 hI.1.2.2.1 hI.1.2.2.2.2.2.1, fun T1 r q => ?_⟩
  have g := (ic_parted hI q)
  obtain ⟨x, rfl, f, -⟩ := q
  exact px_f g hR f (by decide +kernel) ⟨rfl, rfl, rfl, rfl, rfl, rfl, rfl, rfl, rfl, rfl, fun _ => rfl, fun _ => rfl, fun _ => rfl, fun _ => rfl, fun _ => rfl, fun _ => rfl, fun _ => rfl, fun _ => rfl, fun _ => rfl, rfl, rfl, rfl, fun _ => rfl, fun _ => rfl, fun _ => rfl, rfl, rfl, rfl, fun _ => rfl, fun _ => rfl⟩
set_option maxRecDepth 100000 in
theorem cx_can {N : Int} {T : Zt} {c9 b9 : Int} (hT : ok_T T) (ha : al_ T 109 0) (hI : IC_ N T) (hN : 0 ≤ N ∧ N ≤ 511) (hR : IR_ T) (hE : RE_ T) : Cw_ yX10_can zX10_can T [vR 110 0, vI c9, vI b9] (PX_ N T) := by
  have h9 : 0 ≤ T 191 0 0 ∧ T 191 0 0 ≤ 900000000 := ⟨hI.2.2.2.2.2.1, by have := hI.2.2.2.2.2.2; omega⟩
  refine ⟨_, ct_X10_can hI.1.1 hI.1.2.1 hI.1.2.2.1 hI.1.2.2.2.2.1 hI.1.2.2.2.2.2.2.1 hI.1.2.2.2.2.2.2.2.2.2 hI.2.2.2.2.1 h9, fun T1 r q => ?_⟩
  have g := (ic_can hT ha hI q)
  obtain ⟨x, rfl, f, -⟩ := q
  exact px_f g hR f (by decide +kernel) ⟨rfl, rfl, rfl, rfl, rfl, rfl, rfl, rfl, rfl, rfl, fun _ => rfl, fun _ => rfl, fun _ => rfl, fun _ => rfl, fun _ => rfl, fun _ => rfl, fun _ => rfl, fun _ => rfl, fun _ => rfl, rfl, rfl, rfl, fun _ => rfl, fun _ => rfl, fun _ => rfl, rfl, rfl, rfl, fun _ => rfl, fun _ => rfl⟩
set_option maxRecDepth 100000 in
theorem cx_witness {N : Int} {T : Zt} {m9 : Int} (hT : ok_T T) (ha : al_ T 109 0) (hI : IC_ N T) (hN : 0 ≤ N ∧ N ≤ 511) (hR : IR_ T) (hE : RE_ T) : Cw_ yX10_witness zX10_witness T [vR 110 0, vI m9] (PX_ N T) := by
  refine ⟨_, ct_X10_witness , fun T1 r q => ?_⟩
  obtain ⟨e, x, rfl, -⟩ := q
  subst e
  exact px_e hI hR
set_option maxRecDepth 100000 in
theorem cx_cut {N : Int} {T : Zt} (hT : ok_T T) (ha : al_ T 109 0) (hI : IC_ N T) (hN : 0 ≤ N ∧ N ≤ 511) (hR : IR_ T) (hE : RE_ T) : Cw_ yX10_cut zX10_cut T [vR 110 0] (PX_ N T) := by
  refine ⟨_, ct_X10_cut , fun T1 r q => ?_⟩
  obtain ⟨e, x, rfl, -⟩ := q
  subst e
  exact px_e hI hR
set_option maxRecDepth 100000 in
theorem cx_firsts {N : Int} {T : Zt} {c9 b9 : Int} (hT : ok_T T) (ha : al_ T 109 0) (hI : IC_ N T) (hN : 0 ≤ N ∧ N ≤ 511) (hR : IR_ T) (hE : RE_ T) : Cw_ yX10_firsts zX10_firsts T [vR 110 0, vI c9, vI b9] (PX_ N T) := by
  refine ⟨_, ct_X10_firsts hI.1.1 hI.1.2.1 hI.1.2.2.1 hI.1.2.2.2.2.2.1, fun T1 r q => ?_⟩
  have g := (ic_firsts hI q)
  obtain ⟨x, rfl, f, -⟩ := q
  exact px_f g hR f (by decide +kernel) ⟨rfl, rfl, rfl, rfl, rfl, rfl, rfl, rfl, rfl, rfl, fun _ => rfl, fun _ => rfl, fun _ => rfl, fun _ => rfl, fun _ => rfl, fun _ => rfl, fun _ => rfl, fun _ => rfl, fun _ => rfl, rfl, rfl, rfl, fun _ => rfl, fun _ => rfl, fun _ => rfl, rfl, rfl, rfl, fun _ => rfl, fun _ => rfl⟩
def qx_drawing (N : Int) (T : Zt) (g9 l9 : Int) (T' : Zt) (r : Option Zv) : Prop := ∃ x : Int, r = some (vI x) ∧ IC_ (N + 1) T' ∧ IR_ T' ∧ (T' 108 0 2 = T 108 0 2 ∧ T' 108 0 3 = T 108 0 3 ∧ T' 108 0 12 = T 108 0 12 ∧ T' 108 0 13 = T 108 0 13 ∧ T' 111 0 12 = T 111 0 12 ∧ T' 111 0 15 = T 111 0 15 ∧ T' 111 0 21 = T 111 0 21 ∧ T' 111 0 3 = T 111 0 3 ∧ krc_ T T' ∧ kfs_ T T' ∧ krm_ T T' ∧ kth_ T T' ∧ ktr_ T T') ∧ (((x = -3 ∧ ¬ (1 ≤ g9 ∧ g9 ≤ 4 ∧ 1 ≤ l9 ∧ l9 ≤ 3)) ∨ (x = 1 ∧ 1 ≤ g9 ∧ g9 ≤ 4 ∧ 1 ≤ l9 ∧ l9 ≤ 3)))
set_option maxRecDepth 100000 in
theorem cx_drawing {N : Int} {T : Zt} {g9 l9 : Int} (hT : ok_T T) (ha : al_ T 109 0) (hI : IC_ N T) (hN : 0 ≤ N ∧ N ≤ 511) (hR : IR_ T) (hE : RE_ T) : Cw_ yX10_drawing zX10_drawing T [vR 110 0, vI g9, vI l9] (qx_drawing N T g9 l9) := by
  refine ⟨_, ct_X10_drawing , fun T1 r q => ?_⟩
  have g := (ic_drawing hI q)
  obtain ⟨x, rfl, f, h⟩ := q
  exact ⟨x, rfl, g, ir_g hR (fr_s f (by decide +kernel)), ⟨f 108 0 2 rfl, f 108 0 3 rfl, f 108 0 12 rfl, f 108 0 13 rfl, f 111 0 12 rfl, f 111 0 15 rfl, f 111 0 21 rfl, f 111 0 3 rfl, ⟨f 108 0 5 rfl, fun j => f 566 0 j rfl, fun j => f 567 0 j rfl, fun j => f 568 0 j rfl, fun j => f 569 0 j rfl⟩, fun j => f 564 0 j rfl, ⟨f 111 0 16 rfl, fun j => f 217 0 j rfl, fun j => f 218 0 j rfl, fun j => f 219 0 j rfl, fun j => f 220 0 j rfl⟩, ⟨f 105 0 1 rfl, f 105 0 3 rfl, f 106 0 2 rfl, fun j => f 500 0 j rfl, fun c j => f 401 c j rfl, fun c j => f 402 c j rfl⟩, ⟨f 111 0 1 rfl, f 111 0 2 rfl, f 111 0 6 rfl, fun j => f 200 0 j rfl, fun j => f 205 0 j rfl⟩⟩, h⟩
set_option maxRecDepth 100000 in
theorem cx_pot {N : Int} {T : Zt} {c9 k9 : Int} (hT : ok_T T) (ha : al_ T 109 0) (hI : IC_ N T) (hN : 0 ≤ N ∧ N ≤ 511) (hR : IR_ T) (hE : RE_ T) : Cw_ yX10_pot zX10_pot T [vR 110 0, vI c9, vI k9] (PX_ N T) := by
  refine ⟨_, ct_X10_pot , fun T1 r q => ?_⟩
  have g := (ic_pot hI q)
  obtain ⟨x, rfl, f, -⟩ := q
  exact px_f g hR f (by decide +kernel) ⟨rfl, rfl, rfl, rfl, rfl, rfl, rfl, rfl, rfl, rfl, fun _ => rfl, fun _ => rfl, fun _ => rfl, fun _ => rfl, fun _ => rfl, fun _ => rfl, fun _ => rfl, fun _ => rfl, fun _ => rfl, rfl, rfl, rfl, fun _ => rfl, fun _ => rfl, fun _ => rfl, rfl, rfl, rfl, fun _ => rfl, fun _ => rfl⟩
set_option maxRecDepth 100000 in
theorem cx_ways {N : Int} {T : Zt} (hT : ok_T T) (ha : al_ T 109 0) (hI : IC_ N T) (hN : 0 ≤ N ∧ N ≤ 511) (hR : IR_ T) (hE : RE_ T) : Cw_ yX10_ways zX10_ways T [vR 110 0] (PX_ N T) := by
  refine ⟨_, ct_X10_ways , fun T1 r q => ?_⟩
  have g := (ic_ways hI q)
  obtain ⟨x, rfl, f, -⟩ := q
  exact px_f g hR f (by decide +kernel) ⟨rfl, rfl, rfl, rfl, rfl, rfl, rfl, rfl, rfl, rfl, fun _ => rfl, fun _ => rfl, fun _ => rfl, fun _ => rfl, fun _ => rfl, fun _ => rfl, fun _ => rfl, fun _ => rfl, fun _ => rfl, rfl, rfl, rfl, fun _ => rfl, fun _ => rfl, fun _ => rfl, rfl, rfl, rfl, fun _ => rfl, fun _ => rfl⟩
set_option maxRecDepth 100000 in
theorem cx_chance {N : Int} {T : Zt} {c9 g9 : Int} (hT : ok_T T) (ha : al_ T 109 0) (hI : IC_ N T) (hN : 0 ≤ N ∧ N ≤ 511) (hR : IR_ T) (hE : RE_ T) : Cw_ yX10_chance zX10_chance T [vR 110 0, vI c9, vI g9] (PX_ N T) := by
  refine ⟨_, ct_X10_chance , fun T1 r q => ?_⟩
  have g := (ic_chance hI q)
  obtain ⟨x, rfl, f, -⟩ := q
  exact px_f g hR f (by decide +kernel) ⟨rfl, rfl, rfl, rfl, rfl, rfl, rfl, rfl, rfl, rfl, fun _ => rfl, fun _ => rfl, fun _ => rfl, fun _ => rfl, fun _ => rfl, fun _ => rfl, fun _ => rfl, fun _ => rfl, fun _ => rfl, rfl, rfl, rfl, fun _ => rfl, fun _ => rfl, fun _ => rfl, rfl, rfl, rfl, fun _ => rfl, fun _ => rfl⟩
set_option maxRecDepth 100000 in
theorem cx_ball {N : Int} {T : Zt} {s9 b9 : Int} (hT : ok_T T) (ha : al_ T 109 0) (hI : IC_ N T) (hN : 0 ≤ N ∧ N ≤ 511) (hR : IR_ T) (hE : RE_ T) : Cw_ yX10_ball zX10_ball T [vR 110 0, vI s9, vI b9] (PX_ N T) := by
  refine ⟨_, ct_X10_ball , fun T1 r q => ?_⟩
  have g := (ic_ball hI q)
  obtain ⟨x, rfl, f, -⟩ := q
  exact px_f g hR f (by decide +kernel) ⟨rfl, rfl, rfl, rfl, rfl, rfl, rfl, rfl, rfl, rfl, fun _ => rfl, fun _ => rfl, fun _ => rfl, fun _ => rfl, fun _ => rfl, fun _ => rfl, fun _ => rfl, fun _ => rfl, fun _ => rfl, rfl, rfl, rfl, fun _ => rfl, fun _ => rfl, fun _ => rfl, rfl, rfl, rfl, fun _ => rfl, fun _ => rfl⟩
set_option maxRecDepth 100000 in
theorem cx_drawn {N : Int} {T : Zt} {c9 : Int} (hT : ok_T T) (ha : al_ T 109 0) (hI : IC_ N T) (hN : 0 ≤ N ∧ N ≤ 511) (hR : IR_ T) (hE : RE_ T) : Cw_ yX10_drawn zX10_drawn T [vR 110 0, vI c9] (PX_ N T) := by
  refine ⟨_, ct_X10_drawn , fun T1 r q => ?_⟩
  obtain ⟨e, x, rfl, -⟩ := q
  subst e
  exact px_e hI hR
set_option maxRecDepth 100000 in
theorem cx_assign {N : Int} {T : Zt} {d9 : Int} (hT : ok_T T) (ha : al_ T 109 0) (hI : IC_ N T) (hN : 0 ≤ N ∧ N ≤ 511) (hR : IR_ T) (hE : RE_ T) : Cw_ yX10_assign zX10_assign T [vR 110 0, vI d9] (PX_ N T) := by
  have h9 : 0 ≤ T 191 0 0 ∧ T 191 0 0 ≤ 900000000 := ⟨hI.2.2.2.2.2.1, by have := hI.2.2.2.2.2.2; omega⟩
  refine ⟨_, ct_X10_assign hI.1.1 hI.1.2.1 hI.2.1 h9, fun T1 r q => ?_⟩
  have g := (ic_assign hT ha hI q)
  obtain ⟨x, rfl, f, -⟩ := q
  exact px_f g hR f (by decide +kernel) ⟨rfl, rfl, rfl, rfl, rfl, rfl, rfl, rfl, rfl, rfl, fun _ => rfl, fun _ => rfl, fun _ => rfl, fun _ => rfl, fun _ => rfl, fun _ => rfl, fun _ => rfl, fun _ => rfl, fun _ => rfl, rfl, rfl, rfl, fun _ => rfl, fun _ => rfl, fun _ => rfl, rfl, rfl, rfl, fun _ => rfl, fun _ => rfl⟩
set_option maxRecDepth 100000 in
theorem cx_officialOf {N : Int} {T : Zt} {m9 : Int} (hT : ok_T T) (ha : al_ T 109 0) (hI : IC_ N T) (hN : 0 ≤ N ∧ N ≤ 511) (hR : IR_ T) (hE : RE_ T) : Cw_ yX10_officialOf zX10_officialOf T [vR 110 0, vI m9] (PX_ N T) := by
  refine ⟨_, ct_X10_officialOf hI.1.1, fun T1 r q => ?_⟩
  obtain ⟨e, x, rfl, -⟩ := q
  subst e
  exact px_e hI hR
set_option maxRecDepth 100000 in
theorem cx_count {N : Int} {T : Zt} {w9 : Int} (hT : ok_T T) (ha : al_ T 109 0) (hI : IC_ N T) (hN : 0 ≤ N ∧ N ≤ 511) (hR : IR_ T) (hE : RE_ T) : Cw_ yX10_count zX10_count T [vR 110 0, vI w9] (PX_ N T) := by
  refine ⟨_, ct_X10_count , fun T1 r q => ?_⟩
  obtain ⟨e, x, rfl, -⟩ := q
  subst e
  exact px_e hI hR
def qm_sign (N : Int) (T : Zt) (c9 : Int) (T' : Zt) (r : Option Zv) : Prop := ∃ x : Int, r = some (vI x) ∧ IC_ N T' ∧ IR_ T' ∧ (T' 108 0 2 = T 108 0 2 ∧ T' 108 0 3 = T 108 0 3 ∧ T' 108 0 12 = T 108 0 12 ∧ T' 108 0 13 = T 108 0 13 ∧ T' 111 0 12 = T 111 0 12 ∧ T' 111 0 15 = T 111 0 15 ∧ T' 111 0 21 = T 111 0 21 ∧ T' 111 0 3 = T 111 0 3 ∧ krc_ T T' ∧ kfs_ T T' ∧ krm_ T T' ∧ kth_ T T' ∧ (T' 111 0 2 = T 111 0 2 ∧ T' 111 0 6 = T 111 0 6 ∧ ∀ j, T' 205 0 j = T 205 0 j)) ∧ (((x = -3 ∧ T' 111 0 1 = T 111 0 1 ∧ ¬ (c9 = 10 ∨ 32 ≤ c9 ∧ c9 ≤ 126) ∧ RS9_ 200 T T') ∨ ((c9 = 10 ∨ 32 ≤ c9 ∧ c9 ≤ 126) ∧ T 111 0 1 = 400 ∧ x = -5 ∧ T' 111 0 1 = 400 ∧ RS9_ 200 T T') ∨ ((c9 = 10 ∨ 32 ≤ c9 ∧ c9 ≤ 126) ∧ T 111 0 1 < 400 ∧ x = T 111 0 1 + 1 ∧ T' 111 0 1 = x ∧ SG9_ 200 T T' (T 111 0 1) c9)))
set_option maxRecDepth 100000 in
theorem cm_sign {N : Int} {T : Zt} {c9 : Int} (hT : ok_T T) (hI : IC_ N T) (hR : IR_ T) : Cw_ yX11_sign zX11_sign T [vR 111 0, vI c9] (qm_sign N T c9) := by
  refine ⟨_, ct_X11_sign_e , fun T1 r q => ?_⟩
  obtain ⟨x, rfl, f, h⟩ := q
  have g := (ir_sign hR (show po_X11_sign T c9 T1 (some (vI x)) from ⟨x, rfl, f, by omega⟩))
  exact ⟨x, rfl, ic_g hI (fr_s f (by decide +kernel)), g, ⟨f 108 0 2 rfl, f 108 0 3 rfl, f 108 0 12 rfl, f 108 0 13 rfl, f 111 0 12 rfl, f 111 0 15 rfl, f 111 0 21 rfl, f 111 0 3 rfl, ⟨f 108 0 5 rfl, fun j => f 566 0 j rfl, fun j => f 567 0 j rfl, fun j => f 568 0 j rfl, fun j => f 569 0 j rfl⟩, fun j => f 564 0 j rfl, ⟨f 111 0 16 rfl, fun j => f 217 0 j rfl, fun j => f 218 0 j rfl, fun j => f 219 0 j rfl, fun j => f 220 0 j rfl⟩, ⟨f 105 0 1 rfl, f 105 0 3 rfl, f 106 0 2 rfl, fun j => f 500 0 j rfl, fun c j => f 401 c j rfl, fun c j => f 402 c j rfl⟩, ⟨f 111 0 2 rfl, f 111 0 6 rfl, fun j => f 205 0 j rfl⟩⟩, h⟩
def qm_wipe (N : Int) (T : Zt) (T' : Zt) (r : Option Zv) : Prop := ∃ x : Int, r = some (vI x) ∧ IC_ N T' ∧ IR_ T' ∧ (T' 108 0 2 = T 108 0 2 ∧ T' 108 0 3 = T 108 0 3 ∧ T' 108 0 12 = T 108 0 12 ∧ T' 108 0 13 = T 108 0 13 ∧ T' 111 0 12 = T 111 0 12 ∧ T' 111 0 15 = T 111 0 15 ∧ T' 111 0 21 = T 111 0 21 ∧ T' 111 0 3 = T 111 0 3 ∧ krc_ T T' ∧ kfs_ T T' ∧ krm_ T T' ∧ kth_ T T' ∧ (T' 111 0 2 = T 111 0 2 ∧ T' 111 0 6 = T 111 0 6 ∧ (∀ j, T' 200 0 j = T 200 0 j) ∧ ∀ j, T' 205 0 j = T 205 0 j)) ∧ ((T' 111 0 1 = 0 ∧ x = T 111 0 1))
set_option maxRecDepth 100000 in
theorem cm_wipe {N : Int} {T : Zt} (hT : ok_T T) (hI : IC_ N T) (hR : IR_ T) : Cw_ yX11_wipe zX11_wipe T [vR 111 0] (qm_wipe N T) := by
  refine ⟨_, ct_X11_wipe , fun T1 r q => ?_⟩
  have g := (ir_wipe hR q)
  obtain ⟨x, rfl, f, h⟩ := q
  exact ⟨x, rfl, ic_g hI (fr_s f (by decide +kernel)), g, ⟨f 108 0 2 rfl, f 108 0 3 rfl, f 108 0 12 rfl, f 108 0 13 rfl, f 111 0 12 rfl, f 111 0 15 rfl, f 111 0 21 rfl, f 111 0 3 rfl, ⟨f 108 0 5 rfl, fun j => f 566 0 j rfl, fun j => f 567 0 j rfl, fun j => f 568 0 j rfl, fun j => f 569 0 j rfl⟩, fun j => f 564 0 j rfl, ⟨f 111 0 16 rfl, fun j => f 217 0 j rfl, fun j => f 218 0 j rfl, fun j => f 219 0 j rfl, fun j => f 220 0 j rfl⟩, ⟨f 105 0 1 rfl, f 105 0 3 rfl, f 106 0 2 rfl, fun j => f 500 0 j rfl, fun c j => f 401 c j rfl, fun c j => f 402 c j rfl⟩, ⟨f 111 0 2 rfl, f 111 0 6 rfl, fun j => f 200 0 j rfl, fun j => f 205 0 j rfl⟩⟩, h⟩
def qm_competition (N : Int) (T : Zt) (T' : Zt) (r : Option Zv) : Prop := ∃ x : Int, r = some (vI x) ∧ IC_ N T' ∧ IR_ T' ∧ (T' 108 0 2 = T 108 0 2 ∧ T' 108 0 3 = T 108 0 3 ∧ T' 108 0 12 = T 108 0 12 ∧ T' 108 0 13 = T 108 0 13 ∧ T' 111 0 12 = T 111 0 12 ∧ T' 111 0 15 = T 111 0 15 ∧ T' 111 0 21 = T 111 0 21 ∧ T' 111 0 3 = T 111 0 3 ∧ krc_ T T' ∧ kfs_ T T' ∧ krm_ T T' ∧ kth_ T T' ∧ ((∀ j, T' 200 0 j = T 200 0 j) ∧ ∀ j, j < 23 * T 111 0 6 → T' 205 0 j = T 205 0 j)) ∧ (CR9_ T T' x)
set_option maxRecDepth 100000 in
theorem cm_competition {N : Int} {T : Zt} (hT : ok_T T) (hI : IC_ N T) (hR : IR_ T) : Cw_ yX11_competition zX11_competition T [vR 111 0] (qm_competition N T) := by
  refine ⟨_, ct_X11_competition_e hR.1 hR.2.1 hR.2.2.1, fun T1 r q => ?_⟩
  obtain ⟨x, rfl, f, h⟩ := q
  have g := (ir_competition hT hR (show po_X11_competition_k T T1 (some (vI x)) from ⟨x, rfl, f, h.1, h.2.1, h.2.2.1, h.2.2.2.1⟩))
  exact ⟨x, rfl, ic_g hI (fr_s f (by decide +kernel)), g, ⟨f 108 0 2 rfl, f 108 0 3 rfl, f 108 0 12 rfl, f 108 0 13 rfl, f 111 0 12 rfl, f 111 0 15 rfl, f 111 0 21 rfl, f 111 0 3 rfl, ⟨f 108 0 5 rfl, fun j => f 566 0 j rfl, fun j => f 567 0 j rfl, fun j => f 568 0 j rfl, fun j => f 569 0 j rfl⟩, fun j => f 564 0 j rfl, ⟨f 111 0 16 rfl, fun j => f 217 0 j rfl, fun j => f 218 0 j rfl, fun j => f 219 0 j rfl, fun j => f 220 0 j rfl⟩, ⟨f 105 0 1 rfl, f 105 0 3 rfl, f 106 0 2 rfl, fun j => f 500 0 j rfl, fun c j => f 401 c j rfl, fun c j => f 402 c j rfl⟩, ⟨fun j => f 200 0 j rfl, h.2.2.2.1⟩⟩, h.2.2.2.2⟩
def qm_fault (N : Int) (T : Zt) (T' : Zt) (r : Option Zv) : Prop := ∃ x : Int, r = some (vI x) ∧ IC_ N T' ∧ IR_ T' ∧ (T' 108 0 2 = T 108 0 2 ∧ T' 108 0 3 = T 108 0 3 ∧ T' 108 0 12 = T 108 0 12 ∧ T' 108 0 13 = T 108 0 13 ∧ T' 111 0 12 = T 111 0 12 ∧ T' 111 0 15 = T 111 0 15 ∧ T' 111 0 21 = T 111 0 21 ∧ T' 111 0 3 = T 111 0 3 ∧ krc_ T T' ∧ kfs_ T T' ∧ krm_ T T' ∧ kth_ T T' ∧ ktr_ T T' ∧ T = T') ∧ (x = T 111 0 2)
set_option maxRecDepth 100000 in
theorem cm_fault {N : Int} {T : Zt} (hT : ok_T T) (hI : IC_ N T) (hR : IR_ T) : Cw_ yX11_fault zX11_fault T [vR 111 0] (qm_fault N T) := by
  refine ⟨_, ct_X11_fault_e , fun T1 r q => ?_⟩
  obtain ⟨e, x, rfl, h⟩ := q
  subst e
  exact ⟨x, rfl, hI, hR, ⟨rfl, rfl, rfl, rfl, rfl, rfl, rfl, rfl, krc_r, kfs_r, krm_r, kth_r, ktr_r, rfl⟩, h⟩
def qm_rule (N : Int) (T : Zt) (c9 w9 : Int) (T' : Zt) (r : Option Zv) : Prop := ∃ x : Int, r = some (vI x) ∧ IC_ N T' ∧ IR_ T' ∧ (T' 108 0 2 = T 108 0 2 ∧ T' 108 0 3 = T 108 0 3 ∧ T' 108 0 12 = T 108 0 12 ∧ T' 108 0 13 = T 108 0 13 ∧ T' 111 0 12 = T 111 0 12 ∧ T' 111 0 15 = T 111 0 15 ∧ T' 111 0 21 = T 111 0 21 ∧ T' 111 0 3 = T 111 0 3 ∧ krc_ T T' ∧ kfs_ T T' ∧ krm_ T T' ∧ kth_ T T' ∧ ktr_ T T' ∧ T = T') ∧ ((x = -2 ∧ ¬ (0 ≤ c9 ∧ c9 < T 111 0 6)) ∨ ((0 ≤ c9 ∧ c9 < T 111 0 6) ∧ x = -3 ∧ ¬ (0 ≤ w9 ∧ w9 < 23)) ∨ ((0 ≤ c9 ∧ c9 < T 111 0 6) ∧ (0 ≤ w9 ∧ w9 < 23) ∧ x = T 205 0 (23 * c9 + w9)))
set_option maxRecDepth 100000 in
theorem cm_rule {N : Int} {T : Zt} {c9 w9 : Int} (hT : ok_T T) (hI : IC_ N T) (hR : IR_ T) : Cw_ yX11_rule zX11_rule T [vR 111 0, vI c9, vI w9] (qm_rule N T c9 w9) := by
  refine ⟨_, ct_X11_rule_e , fun T1 r q => ?_⟩
  obtain ⟨e, x, rfl, h⟩ := q
  subst e
  exact ⟨x, rfl, hI, hR, ⟨rfl, rfl, rfl, rfl, rfl, rfl, rfl, rfl, krc_r, kfs_r, krm_r, kth_r, ktr_r, rfl⟩, h⟩
def qm_club (N : Int) (T : Zt) (s9 c9 : Int) (T' : Zt) (r : Option Zv) : Prop := ∃ x : Int, r = some (vI x) ∧ IC_ N T' ∧ IR_ T' ∧ (T' 108 0 2 = T 108 0 2 ∧ T' 108 0 3 = T 108 0 3 ∧ T' 108 0 12 = T 108 0 12 ∧ T' 108 0 13 = T 108 0 13 ∧ T' 111 0 15 = T 111 0 15 ∧ T' 111 0 21 = T 111 0 21 ∧ T' 111 0 3 = T 111 0 3 ∧ krc_ T T' ∧ kfs_ T T' ∧ krm_ T T' ∧ kth_ T T' ∧ ktr_ T T') ∧ (((x = -3 ∧ ¬ (0 ≤ s9 ∧ s9 ≤ 11 ∧ 0 ≤ c9 ∧ c9 ≤ 7) ∧ T' 111 0 12 = T 111 0 12) ∨ ((0 ≤ s9 ∧ s9 ≤ 11 ∧ 0 ≤ c9 ∧ c9 ≤ 7) ∧ T 111 0 12 = 12 ∧ x = -5 ∧ T' 111 0 12 = T 111 0 12) ∨ ((0 ≤ s9 ∧ s9 ≤ 11 ∧ 0 ≤ c9 ∧ c9 ≤ 7) ∧ T 111 0 12 < 12 ∧ x = T 111 0 12 ∧ T' 111 0 12 = T 111 0 12 + 1)))
set_option maxRecDepth 100000 in
theorem cm_club {N : Int} {T : Zt} {s9 c9 : Int} (hT : ok_T T) (hI : IC_ N T) (hR : IR_ T) : Cw_ yX11_club zX11_club T [vR 111 0, vI s9, vI c9] (qm_club N T s9 c9) := by
  refine ⟨_, ct_X11_club , fun T1 r q => ?_⟩
  have g := (ir_club hR q)
  obtain ⟨x, rfl, f, h⟩ := q
  exact ⟨x, rfl, ic_g hI (fr_s f (by decide +kernel)), g, ⟨f 108 0 2 rfl, f 108 0 3 rfl, f 108 0 12 rfl, f 108 0 13 rfl, f 111 0 15 rfl, f 111 0 21 rfl, f 111 0 3 rfl, ⟨f 108 0 5 rfl, fun j => f 566 0 j rfl, fun j => f 567 0 j rfl, fun j => f 568 0 j rfl, fun j => f 569 0 j rfl⟩, fun j => f 564 0 j rfl, ⟨f 111 0 16 rfl, fun j => f 217 0 j rfl, fun j => f 218 0 j rfl, fun j => f 219 0 j rfl, fun j => f 220 0 j rfl⟩, ⟨f 105 0 1 rfl, f 105 0 3 rfl, f 106 0 2 rfl, fun j => f 500 0 j rfl, fun c j => f 401 c j rfl, fun c j => f 402 c j rfl⟩, ⟨f 111 0 1 rfl, f 111 0 2 rfl, f 111 0 6 rfl, fun j => f 200 0 j rfl, fun j => f 205 0 j rfl⟩⟩, h⟩
def qm_person (N : Int) (T : Zt) (T' : Zt) (r : Option Zv) : Prop := ∃ x : Int, r = some (vI x) ∧ IC_ N T' ∧ IR_ T' ∧ (T' 108 0 2 = T 108 0 2 ∧ T' 108 0 3 = T 108 0 3 ∧ T' 108 0 12 = T 108 0 12 ∧ T' 108 0 13 = T 108 0 13 ∧ T' 111 0 12 = T 111 0 12 ∧ T' 111 0 21 = T 111 0 21 ∧ T' 111 0 3 = T 111 0 3 ∧ krc_ T T' ∧ kfs_ T T' ∧ krm_ T T' ∧ kth_ T T' ∧ ktr_ T T') ∧ (((x = -3 ∧ ¬ (0 = (0 : Int)) ∧ T' 111 0 15 = T 111 0 15) ∨ ((0 = (0 : Int)) ∧ T 111 0 15 = 200 ∧ x = -5 ∧ T' 111 0 15 = T 111 0 15) ∨ ((0 = (0 : Int)) ∧ T 111 0 15 < 200 ∧ x = T 111 0 15 ∧ T' 111 0 15 = T 111 0 15 + 1)))
set_option maxRecDepth 100000 in
theorem cm_person {N : Int} {T : Zt} (hT : ok_T T) (hI : IC_ N T) (hR : IR_ T) : Cw_ yX11_person zX11_person T [vR 111 0] (qm_person N T) := by
  refine ⟨_, ct_X11_person , fun T1 r q => ?_⟩
  have g := (ir_person hR q)
  obtain ⟨x, rfl, f, h⟩ := q
  exact ⟨x, rfl, ic_g hI (fr_s f (by decide +kernel)), g, ⟨f 108 0 2 rfl, f 108 0 3 rfl, f 108 0 12 rfl, f 108 0 13 rfl, f 111 0 12 rfl, f 111 0 21 rfl, f 111 0 3 rfl, ⟨f 108 0 5 rfl, fun j => f 566 0 j rfl, fun j => f 567 0 j rfl, fun j => f 568 0 j rfl, fun j => f 569 0 j rfl⟩, fun j => f 564 0 j rfl, ⟨f 111 0 16 rfl, fun j => f 217 0 j rfl, fun j => f 218 0 j rfl, fun j => f 219 0 j rfl, fun j => f 220 0 j rfl⟩, ⟨f 105 0 1 rfl, f 105 0 3 rfl, f 106 0 2 rfl, fun j => f 500 0 j rfl, fun c j => f 401 c j rfl, fun c j => f 402 c j rfl⟩, ⟨f 111 0 1 rfl, f 111 0 2 rfl, f 111 0 6 rfl, fun j => f 200 0 j rfl, fun j => f 205 0 j rfl⟩⟩, h⟩
def qm_register (N : Int) (T : Zt) (p9 c9 f9 t9 : Int) (T' : Zt) (r : Option Zv) : Prop := ∃ x : Int, r = some (vI x) ∧ IC_ N T' ∧ IR_ T' ∧ (T' 108 0 2 = T 108 0 2 ∧ T' 108 0 3 = T 108 0 3 ∧ T' 108 0 12 = T 108 0 12 ∧ T' 108 0 13 = T 108 0 13 ∧ T' 111 0 12 = T 111 0 12 ∧ T' 111 0 15 = T 111 0 15 ∧ T' 111 0 21 = T 111 0 21 ∧ T' 111 0 3 = T 111 0 3 ∧ krc_ T T' ∧ kfs_ T T' ∧ kth_ T T' ∧ ktr_ T T') ∧ ((QM_ T T' p9 c9 f9 t9 x))
set_option maxRecDepth 100000 in
theorem cm_register {N : Int} {T : Zt} {p9 c9 f9 t9 : Int} (hT : ok_T T) (hI : IC_ N T) (hR : IR_ T) : Cw_ yX11_register zX11_register T [vR 111 0, vI p9, vI c9, vI f9, vI t9] (qm_register N T p9 c9 f9 t9) := by
  refine ⟨_, ct_X11_register_e , fun T1 r q => ?_⟩
  have g := (ir_register hR (qm_o q))
  obtain ⟨x, rfl, f, h⟩ := q
  exact ⟨x, rfl, ic_g hI (fr_s f (by decide +kernel)), g, ⟨f 108 0 2 rfl, f 108 0 3 rfl, f 108 0 12 rfl, f 108 0 13 rfl, f 111 0 12 rfl, f 111 0 15 rfl, f 111 0 21 rfl, f 111 0 3 rfl, ⟨f 108 0 5 rfl, fun j => f 566 0 j rfl, fun j => f 567 0 j rfl, fun j => f 568 0 j rfl, fun j => f 569 0 j rfl⟩, fun j => f 564 0 j rfl, ⟨f 105 0 1 rfl, f 105 0 3 rfl, f 106 0 2 rfl, fun j => f 500 0 j rfl, fun c j => f 401 c j rfl, fun c j => f 402 c j rfl⟩, ⟨f 111 0 1 rfl, f 111 0 2 rfl, f 111 0 6 rfl, fun j => f 200 0 j rfl, fun j => f 205 0 j rfl⟩⟩, h⟩
def qm_official (N : Int) (T : Zt) (s9 c9 : Int) (T' : Zt) (r : Option Zv) : Prop := ∃ x : Int, r = some (vI x) ∧ IC_ N T' ∧ IR_ T' ∧ (T' 108 0 2 = T 108 0 2 ∧ T' 108 0 3 = T 108 0 3 ∧ T' 108 0 12 = T 108 0 12 ∧ T' 108 0 13 = T 108 0 13 ∧ T' 111 0 12 = T 111 0 12 ∧ T' 111 0 15 = T 111 0 15 ∧ T' 111 0 3 = T 111 0 3 ∧ krc_ T T' ∧ kfs_ T T' ∧ krm_ T T' ∧ kth_ T T' ∧ ktr_ T T') ∧ (((x = -3 ∧ ¬ (0 ≤ s9 ∧ s9 ≤ 11 ∧ 0 ≤ c9 ∧ c9 ≤ 7) ∧ T' 111 0 21 = T 111 0 21) ∨ ((0 ≤ s9 ∧ s9 ≤ 11 ∧ 0 ≤ c9 ∧ c9 ≤ 7) ∧ T 111 0 21 = 8 ∧ x = -5 ∧ T' 111 0 21 = T 111 0 21) ∨ ((0 ≤ s9 ∧ s9 ≤ 11 ∧ 0 ≤ c9 ∧ c9 ≤ 7) ∧ T 111 0 21 < 8 ∧ x = T 111 0 21 ∧ T' 111 0 21 = T 111 0 21 + 1)))
set_option maxRecDepth 100000 in
theorem cm_official {N : Int} {T : Zt} {s9 c9 : Int} (hT : ok_T T) (hI : IC_ N T) (hR : IR_ T) : Cw_ yX11_official zX11_official T [vR 111 0, vI s9, vI c9] (qm_official N T s9 c9) := by
  refine ⟨_, ct_X11_official , fun T1 r q => ?_⟩
  have g := (ir_official hR q)
  obtain ⟨x, rfl, f, h⟩ := q
  exact ⟨x, rfl, ic_g hI (fr_s f (by decide +kernel)), g, ⟨f 108 0 2 rfl, f 108 0 3 rfl, f 108 0 12 rfl, f 108 0 13 rfl, f 111 0 12 rfl, f 111 0 15 rfl, f 111 0 3 rfl, ⟨f 108 0 5 rfl, fun j => f 566 0 j rfl, fun j => f 567 0 j rfl, fun j => f 568 0 j rfl, fun j => f 569 0 j rfl⟩, fun j => f 564 0 j rfl, ⟨f 111 0 16 rfl, fun j => f 217 0 j rfl, fun j => f 218 0 j rfl, fun j => f 219 0 j rfl, fun j => f 220 0 j rfl⟩, ⟨f 105 0 1 rfl, f 105 0 3 rfl, f 106 0 2 rfl, fun j => f 500 0 j rfl, fun c j => f 401 c j rfl, fun c j => f 402 c j rfl⟩, ⟨f 111 0 1 rfl, f 111 0 2 rfl, f 111 0 6 rfl, fun j => f 200 0 j rfl, fun j => f 205 0 j rfl⟩⟩, h⟩
def qm_day (N : Int) (T : Zt) (d9 : Int) (T' : Zt) (r : Option Zv) : Prop := ∃ x : Int, r = some (vI x) ∧ IC_ N T' ∧ IR_ T' ∧ (T' 108 0 2 = T 108 0 2 ∧ T' 108 0 3 = T 108 0 3 ∧ T' 108 0 12 = T 108 0 12 ∧ T' 108 0 13 = T 108 0 13 ∧ T' 111 0 12 = T 111 0 12 ∧ T' 111 0 15 = T 111 0 15 ∧ T' 111 0 21 = T 111 0 21 ∧ krc_ T T' ∧ kfs_ T T' ∧ krm_ T T' ∧ kth_ T T' ∧ ktr_ T T') ∧ (((x = -3 ∧ ¬ (T 111 0 3 < d9 ∧ d9 ≤ 999) ∧ T' 111 0 3 = T 111 0 3) ∨ (T 111 0 3 < d9 ∧ d9 ≤ 999 ∧ x = T 111 0 3 ∧ T' 111 0 3 = d9)))
set_option maxRecDepth 100000 in
theorem cm_day {N : Int} {T : Zt} {d9 : Int} (hT : ok_T T) (hI : IC_ N T) (hR : IR_ T) : Cw_ yX11_day zX11_day T [vR 111 0, vI d9] (qm_day N T d9) := by
  refine ⟨_, ct_X11_day , fun T1 r q => ?_⟩
  have g := (ir_day hR q)
  obtain ⟨x, rfl, f, h⟩ := q
  exact ⟨x, rfl, ic_g hI (fr_s f (by decide +kernel)), g, ⟨f 108 0 2 rfl, f 108 0 3 rfl, f 108 0 12 rfl, f 108 0 13 rfl, f 111 0 12 rfl, f 111 0 15 rfl, f 111 0 21 rfl, ⟨f 108 0 5 rfl, fun j => f 566 0 j rfl, fun j => f 567 0 j rfl, fun j => f 568 0 j rfl, fun j => f 569 0 j rfl⟩, fun j => f 564 0 j rfl, ⟨f 111 0 16 rfl, fun j => f 217 0 j rfl, fun j => f 218 0 j rfl, fun j => f 219 0 j rfl, fun j => f 220 0 j rfl⟩, ⟨f 105 0 1 rfl, f 105 0 3 rfl, f 106 0 2 rfl, fun j => f 500 0 j rfl, fun c j => f 401 c j rfl, fun c j => f 402 c j rfl⟩, ⟨f 111 0 1 rfl, f 111 0 2 rfl, f 111 0 6 rfl, fun j => f 200 0 j rfl, fun j => f 205 0 j rfl⟩⟩, h⟩
set_option maxRecDepth 100000 in
theorem cm_enter {N : Int} {T : Zt} {c9 cl9 : Int} (hT : ok_T T) (hI : IC_ N T) (hR : IR_ T) : Cw_ yX11_enter zX11_enter T [vR 111 0, vI c9, vI cl9] (PM_ N T) := by
  refine ⟨_, ct_X11_enter hR.2.2.2.1, fun T1 r q => ?_⟩
  have g := (ir_enter hR q)
  obtain ⟨x, rfl, f, -⟩ := q
  exact pm_f hI g f (by decide +kernel) ⟨rfl, rfl, rfl, rfl, rfl, rfl, rfl, rfl, rfl, rfl, fun _ => rfl, fun _ => rfl, fun _ => rfl, fun _ => rfl, fun _ => rfl, fun _ => rfl, fun _ => rfl, fun _ => rfl, fun _ => rfl, rfl, rfl, rfl, fun _ => rfl, fun _ => rfl, fun _ => rfl, rfl, rfl, rfl, fun _ => rfl, fun _ => rfl⟩
set_option maxRecDepth 100000 in
theorem cm_plan {N : Int} {T : Zt} {c9 f9 : Int} (hT : ok_T T) (hI : IC_ N T) (hR : IR_ T) : Cw_ yX11_plan zX11_plan T [vR 111 0, vI c9, vI f9] (PM_ N T) := by
  refine ⟨_, ct_X11_plan_k hR.2.1, fun T1 r q => ?_⟩
  have g := (ir_plan hT hR q)
  obtain ⟨x, rfl, f, -⟩ := q
  exact pm_f hI g f (by decide +kernel) ⟨rfl, rfl, rfl, rfl, rfl, rfl, rfl, rfl, rfl, rfl, fun _ => rfl, fun _ => rfl, fun _ => rfl, fun _ => rfl, fun _ => rfl, fun _ => rfl, fun _ => rfl, fun _ => rfl, fun _ => rfl, rfl, rfl, rfl, fun _ => rfl, fun _ => rfl, fun _ => rfl, rfl, rfl, rfl, fun _ => rfl, fun _ => rfl⟩
set_option maxRecDepth 100000 in
theorem cm_match {N : Int} {T : Zt} {m9 w9 : Int} (hT : ok_T T) (hI : IC_ N T) (hR : IR_ T) : Cw_ yX11_match zX11_match T [vR 111 0, vI m9, vI w9] (PM_ N T) := by
  refine ⟨_, ct_X11_match , fun T1 r q => ?_⟩
  obtain ⟨e, x, rfl, -⟩ := q
  subst e
  exact pm_e hI hR
set_option maxRecDepth 100000 in
theorem cm_breaks {N : Int} {T : Zt} {c9 cl9 : Int} (hT : ok_T T) (hI : IC_ N T) (hR : IR_ T) : Cw_ yX11_breaks zX11_breaks T [vR 111 0, vI c9, vI cl9] (PM_ N T) := by
  refine ⟨_, ct_X11_breaks hR.2.2.2.2.1, fun T1 r q => ?_⟩
  obtain ⟨e, x, rfl, -⟩ := q
  subst e
  exact pm_e hI hR
set_option maxRecDepth 100000 in
theorem cm_postpone {N : Int} {T : Zt} {m9 d9 : Int} (hT : ok_T T) (hI : IC_ N T) (hR : IR_ T) : Cw_ yX11_postpone zX11_postpone T [vR 111 0, vI m9, vI d9] (PM_ N T) := by
  refine ⟨_, ct_X11_postpone , fun T1 r q => ?_⟩
  have g := (ir_postpone hR q)
  obtain ⟨x, rfl, f, -⟩ := q
  exact pm_f hI g f (by decide +kernel) ⟨rfl, rfl, rfl, rfl, rfl, rfl, rfl, rfl, rfl, rfl, fun _ => rfl, fun _ => rfl, fun _ => rfl, fun _ => rfl, fun _ => rfl, fun _ => rfl, fun _ => rfl, fun _ => rfl, fun _ => rfl, rfl, rfl, rfl, fun _ => rfl, fun _ => rfl, fun _ => rfl, rfl, rfl, rfl, fun _ => rfl, fun _ => rfl⟩
set_option maxRecDepth 100000 in
theorem cm_moved {N : Int} {T : Zt} {k9 : Int} (hT : ok_T T) (hI : IC_ N T) (hR : IR_ T) : Cw_ yX11_moved zX11_moved T [vR 111 0, vI k9] (PM_ N T) := by
  refine ⟨_, ct_X11_moved , fun T1 r q => ?_⟩
  obtain ⟨e, x, rfl, -⟩ := q
  subst e
  exact pm_e hI hR
set_option maxRecDepth 100000 in
theorem cm_deduct {N : Int} {T : Zt} {c9 cl9 p9 : Int} (hT : ok_T T) (hI : IC_ N T) (hR : IR_ T) : Cw_ yX11_deduct zX11_deduct T [vR 111 0, vI c9, vI cl9, vI p9] (PM_ N T) := by
  refine ⟨_, ct_X11_deduct , fun T1 r q => ?_⟩
  have g := (ir_deduct hR q)
  obtain ⟨x, rfl, f, -⟩ := q
  exact pm_f hI g f (by decide +kernel) ⟨rfl, rfl, rfl, rfl, rfl, rfl, rfl, rfl, rfl, rfl, fun _ => rfl, fun _ => rfl, fun _ => rfl, fun _ => rfl, fun _ => rfl, fun _ => rfl, fun _ => rfl, fun _ => rfl, fun _ => rfl, rfl, rfl, rfl, fun _ => rfl, fun _ => rfl, fun _ => rfl, rfl, rfl, rfl, fun _ => rfl, fun _ => rfl⟩
set_option maxRecDepth 100000 in
theorem cm_eligible {N : Int} {T : Zt} {p9 m9 sd9 : Int} (hT : ok_T T) (hI : IC_ N T) (hR : IR_ T) : Cw_ yX11_eligible zX11_eligible T [vR 111 0, vI p9, vI m9, vI sd9] (PM_ N T) := by
  refine ⟨_, ct_X11_eligible hR.2.2.2.2.1 hR.2.2.2.2.2.1 hR.2.1, fun T1 r q => ?_⟩
  obtain ⟨e, x, rfl, -⟩ := q
  subst e
  exact pm_e hI hR
set_option maxRecDepth 100000 in
theorem cm_lineUp {N : Int} {T : Zt} {p9 m9 sd9 : Int} (hT : ok_T T) (hI : IC_ N T) (hR : IR_ T) : Cw_ yX11_lineUp zX11_lineUp T [vR 111 0, vI p9, vI m9, vI sd9] (PM_ N T) := by
  refine ⟨_, ct_X11_lineUp_k hR.2.2.2.2.1 hR.2.2.2.2.2.1 hR.2.1 hR.2.2.2.2.2.2.1, fun T1 r q => ?_⟩
  have g := (ir_lineUp hR q)
  obtain ⟨x, rfl, f, -⟩ := q
  exact pm_f hI g f (by decide +kernel) ⟨rfl, rfl, rfl, rfl, rfl, rfl, rfl, rfl, rfl, rfl, fun _ => rfl, fun _ => rfl, fun _ => rfl, fun _ => rfl, fun _ => rfl, fun _ => rfl, fun _ => rfl, fun _ => rfl, fun _ => rfl, rfl, rfl, rfl, fun _ => rfl, fun _ => rfl, fun _ => rfl, rfl, rfl, rfl, fun _ => rfl, fun _ => rfl⟩
set_option maxRecDepth 100000 in
theorem cm_start {N : Int} {T : Zt} {m9 : Int} (hT : ok_T T) (hI : IC_ N T) (hR : IR_ T) : Cw_ yX11_start zX11_start T [vR 111 0, vI m9] (PM_ N T) := by
  refine ⟨_, ct_X11_start hR.2.2.2.2.2.1 hR.2.1 hR.2.2.2.2.2.2.2.1 hR.2.2.2.2.2.2.2.2.2.2.1 hR.2.2.2.2.2.2.2.2.2.2.2, fun T1 r q => ?_⟩
  have g := (ir_start hR q)
  obtain ⟨x, rfl, f, -⟩ := q
  exact pm_f hI g f (by decide +kernel) ⟨rfl, rfl, rfl, rfl, rfl, rfl, rfl, rfl, rfl, rfl, fun _ => rfl, fun _ => rfl, fun _ => rfl, fun _ => rfl, fun _ => rfl, fun _ => rfl, fun _ => rfl, fun _ => rfl, fun _ => rfl, rfl, rfl, rfl, fun _ => rfl, fun _ => rfl, fun _ => rfl, rfl, rfl, rfl, fun _ => rfl, fun _ => rfl⟩
set_option maxRecDepth 100000 in
theorem cm_walkOver {N : Int} {T : Zt} {m9 s9 : Int} (hT : ok_T T) (hI : IC_ N T) (hR : IR_ T) : Cw_ yX11_walkOver zX11_walkOver T [vR 111 0, vI m9, vI s9] (PM_ N T) := by
  refine ⟨_, ct_X11_walkOver hR.2.2.2.2.2.1 hR.2.1 hR.2.2.2.2.2.2.2.1 hR.2.2.2.2.2.2.2.2.2.2.1 hR.2.2.2.2.2.2.2.2.2.2.2, fun T1 r q => ?_⟩
  have g := (ir_walkOver hR q)
  obtain ⟨x, rfl, f, -⟩ := q
  exact pm_f hI g f (by decide +kernel) ⟨rfl, rfl, rfl, rfl, rfl, rfl, rfl, rfl, rfl, rfl, fun _ => rfl, fun _ => rfl, fun _ => rfl, fun _ => rfl, fun _ => rfl, fun _ => rfl, fun _ => rfl, fun _ => rfl, fun _ => rfl, rfl, rfl, rfl, fun _ => rfl, fun _ => rfl, fun _ => rfl, rfl, rfl, rfl, fun _ => rfl, fun _ => rfl⟩
set_option maxRecDepth 100000 in
theorem cm_event {N : Int} {T : Zt} {m9 k9 s9 p9 q9 : Int} (hT : ok_T T) (hI : IC_ N T) (hR : IR_ T) : Cw_ yX11_event zX11_event T [vR 111 0, vI m9, vI k9, vI s9, vI p9, vI q9] (PM_ N T) := by
  refine ⟨_, ct_X11_event hR.2.2.2.2.2.1 hR.2.1 hR.2.2.2.2.2.2.2.1 hR.2.2.2.2.2.2.2.2.1 hR.2.2.2.2.2.2.2.2.2.2.1 hR.2.2.2.2.2.2.2.2.2.2.2, fun T1 r q => ?_⟩
  have g := (ir_event hR q)
  obtain ⟨x, rfl, f, -⟩ := q
  exact pm_f hI g f (by decide +kernel) ⟨rfl, rfl, rfl, rfl, rfl, rfl, rfl, rfl, rfl, rfl, fun _ => rfl, fun _ => rfl, fun _ => rfl, fun _ => rfl, fun _ => rfl, fun _ => rfl, fun _ => rfl, fun _ => rfl, fun _ => rfl, rfl, rfl, rfl, fun _ => rfl, fun _ => rfl, fun _ => rfl, rfl, rfl, rfl, fun _ => rfl, fun _ => rfl⟩
set_option maxRecDepth 100000 in
theorem cm_review {N : Int} {T : Zt} {m9 i9 k9 s9 p9 q9 : Int} (hT : ok_T T) (hI : IC_ N T) (hR : IR_ T) : Cw_ yX11_review zX11_review T [vR 111 0, vI m9, vI i9, vI k9, vI s9, vI p9, vI q9] (PM_ N T) := by
  refine ⟨_, ct_X11_review hR.2.2.2.2.2.1 hR.2.1 hR.2.2.2.2.2.2.2.1 hR.2.2.2.2.2.2.2.2.1 hR.2.2.2.2.2.2.2.2.2.2.1 hR.2.2.2.2.2.2.2.2.2.2.2, fun T1 r q => ?_⟩
  have g := (ir_review hR q)
  obtain ⟨x, rfl, f, -⟩ := q
  exact pm_f hI g f (by decide +kernel) ⟨rfl, rfl, rfl, rfl, rfl, rfl, rfl, rfl, rfl, rfl, fun _ => rfl, fun _ => rfl, fun _ => rfl, fun _ => rfl, fun _ => rfl, fun _ => rfl, fun _ => rfl, fun _ => rfl, fun _ => rfl, rfl, rfl, rfl, fun _ => rfl, fun _ => rfl, fun _ => rfl, rfl, rfl, rfl, fun _ => rfl, fun _ => rfl⟩
set_option maxRecDepth 100000 in
theorem cm_rows {N : Int} {T : Zt} {m9 w9 : Int} (hT : ok_T T) (hI : IC_ N T) (hR : IR_ T) : Cw_ yX11_rows zX11_rows T [vR 111 0, vI m9, vI w9] (PM_ N T) := by
  refine ⟨_, ct_X11_rows , fun T1 r q => ?_⟩
  obtain ⟨e, x, rfl, -⟩ := q
  subst e
  exact pm_e hI hR
set_option maxRecDepth 100000 in
theorem cm_row {N : Int} {T : Zt} {m9 i9 w9 : Int} (hT : ok_T T) (hI : IC_ N T) (hR : IR_ T) : Cw_ yX11_row zX11_row T [vR 111 0, vI m9, vI i9, vI w9] (PM_ N T) := by
  refine ⟨_, ct_X11_row hR.2.2.2.2.2.2.2.2.1, fun T1 r q => ?_⟩
  obtain ⟨e, x, rfl, -⟩ := q
  subst e
  exact pm_e hI hR
set_option maxRecDepth 100000 in
theorem cm_state {N : Int} {T : Zt} {m9 w9 : Int} (hT : ok_T T) (hI : IC_ N T) (hR : IR_ T) : Cw_ yX11_state zX11_state T [vR 111 0, vI m9, vI w9] (PM_ N T) := by
  refine ⟨_, ct_X11_state , fun T1 r q => ?_⟩
  obtain ⟨e, x, rfl, -⟩ := q
  subst e
  exact pm_e hI hR
set_option maxRecDepth 100000 in
theorem cm_onField {N : Int} {T : Zt} {m9 s9 i9 : Int} (hT : ok_T T) (hI : IC_ N T) (hR : IR_ T) : Cw_ yX11_onField zX11_onField T [vR 111 0, vI m9, vI s9, vI i9] (PM_ N T) := by
  refine ⟨_, ct_X11_onField , fun T1 r q => ?_⟩
  obtain ⟨e, x, rfl, -⟩ := q
  subst e
  exact pm_e hI hR
set_option maxRecDepth 100000 in
theorem cm_table {N : Int} {T : Zt} {c9 d9 cl9 w9 : Int} (hT : ok_T T) (hI : IC_ N T) (hR : IR_ T) : Cw_ yX11_table zX11_table T [vR 111 0, vI c9, vI d9, vI cl9, vI w9] (PM_ N T) := by
  have hr4 : ∀ m, 0 ≤ m → m < 400 → T 254 0 m ≤ 3000 := fun m a _ => (bd_a hT 254 (by decide +kernel : ta_ 254 = some (1, some 400, 0, 3000)) 0 a).2
  refine ⟨_, ct_X11_table hR.2.1 hR.2.2.2.2.1 (sc_g hR.2.2.2.2.2.2.2.2.2.2.2 hr4) (yb_g hR.2.2.2.2.2.2.2.2.2.2.2 hr4), fun T1 r q => ?_⟩
  have g := (ir_table hR q)
  obtain ⟨x, rfl, f, -⟩ := q
  exact pm_f hI g f (by decide +kernel) ⟨rfl, rfl, rfl, rfl, rfl, rfl, rfl, rfl, rfl, rfl, fun _ => rfl, fun _ => rfl, fun _ => rfl, fun _ => rfl, fun _ => rfl, fun _ => rfl, fun _ => rfl, fun _ => rfl, fun _ => rfl, rfl, rfl, rfl, fun _ => rfl, fun _ => rfl, fun _ => rfl, rfl, rfl, rfl, fun _ => rfl, fun _ => rfl⟩
set_option maxRecDepth 100000 in
theorem cm_standing {N : Int} {T : Zt} {c9 d9 k9 : Int} (hT : ok_T T) (hI : IC_ N T) (hR : IR_ T) : Cw_ yX11_standing zX11_standing T [vR 111 0, vI c9, vI d9, vI k9] (PM_ N T) := by
  have hr4 : ∀ m, 0 ≤ m → m < 400 → T 254 0 m ≤ 3000 := fun m a _ => (bd_a hT 254 (by decide +kernel : ta_ 254 = some (1, some 400, 0, 3000)) 0 a).2
  refine ⟨_, ct_X11_standing hR.2.1 hR.2.2.2.2.1 (sc_g hR.2.2.2.2.2.2.2.2.2.2.2 hr4) (yb_g hR.2.2.2.2.2.2.2.2.2.2.2 hr4), fun T1 r q => ?_⟩
  have g := (ir_standing hR q)
  obtain ⟨x, rfl, f, -⟩ := q
  exact pm_f hI g f (by decide +kernel) ⟨rfl, rfl, rfl, rfl, rfl, rfl, rfl, rfl, rfl, rfl, fun _ => rfl, fun _ => rfl, fun _ => rfl, fun _ => rfl, fun _ => rfl, fun _ => rfl, fun _ => rfl, fun _ => rfl, fun _ => rfl, rfl, rfl, rfl, fun _ => rfl, fun _ => rfl, fun _ => rfl, rfl, rfl, rfl, fun _ => rfl, fun _ => rfl⟩
set_option maxRecDepth 100000 in
theorem cm_parted {N : Int} {T : Zt} {c9 d9 k9 : Int} (hT : ok_T T) (hI : IC_ N T) (hR : IR_ T) : Cw_ yX11_parted zX11_parted T [vR 111 0, vI c9, vI d9, vI k9] (PM_ N T) := by
  have hr4 : ∀ m, 0 ≤ m → m < 400 → T 254 0 m ≤ 3000 := fun m a _ => (bd_a hT 254 (by decide +kernel : ta_ 254 = some (1, some 400, 0, 3000)) 0 a).2
  refine ⟨_, ct_X11_parted hR.2.1 hR.2.2.2.2.1 (sc_g hR.2.2.2.2.2.2.2.2.2.2.2 hr4) (yb_g hR.2.2.2.2.2.2.2.2.2.2.2 hr4), fun T1 r q => ?_⟩
  have g := (ir_parted hR q)
  obtain ⟨x, rfl, f, -⟩ := q
  exact pm_f hI g f (by decide +kernel) ⟨rfl, rfl, rfl, rfl, rfl, rfl, rfl, rfl, rfl, rfl, fun _ => rfl, fun _ => rfl, fun _ => rfl, fun _ => rfl, fun _ => rfl, fun _ => rfl, fun _ => rfl, fun _ => rfl, fun _ => rfl, rfl, rfl, rfl, fun _ => rfl, fun _ => rfl, fun _ => rfl, rfl, rfl, rfl, fun _ => rfl, fun _ => rfl⟩
set_option maxRecDepth 100000 in
theorem cm_can {N : Int} {T : Zt} {c9 cl9 : Int} (hT : ok_T T) (hI : IC_ N T) (hR : IR_ T) : Cw_ yX11_can zX11_can T [vR 111 0, vI c9, vI cl9] (PM_ N T) := by
  have hr4 : ∀ m, 0 ≤ m → m < 400 → T 254 0 m ≤ 3000 := fun m a _ => (bd_a hT 254 (by decide +kernel : ta_ 254 = some (1, some 400, 0, 3000)) 0 a).2
  refine ⟨_, ct_X11_can hR.2.1 hR.2.2.1 hR.2.2.2.2.1 (sc_g hR.2.2.2.2.2.2.2.2.2.2.2 hr4) (yb_g hR.2.2.2.2.2.2.2.2.2.2.2 hr4), fun T1 r q => ?_⟩
  have g := (ir_can hR q)
  obtain ⟨x, rfl, f, -⟩ := q
  exact pm_f hI g f (by decide +kernel) ⟨rfl, rfl, rfl, rfl, rfl, rfl, rfl, rfl, rfl, rfl, fun _ => rfl, fun _ => rfl, fun _ => rfl, fun _ => rfl, fun _ => rfl, fun _ => rfl, fun _ => rfl, fun _ => rfl, fun _ => rfl, rfl, rfl, rfl, fun _ => rfl, fun _ => rfl, fun _ => rfl, rfl, rfl, rfl, fun _ => rfl, fun _ => rfl⟩
set_option maxRecDepth 100000 in
theorem cm_witness {N : Int} {T : Zt} {m9 : Int} (hT : ok_T T) (hI : IC_ N T) (hR : IR_ T) : Cw_ yX11_witness zX11_witness T [vR 111 0, vI m9] (PM_ N T) := by
  refine ⟨_, ct_X11_witness , fun T1 r q => ?_⟩
  obtain ⟨e, x, rfl, -⟩ := q
  subst e
  exact pm_e hI hR
set_option maxRecDepth 100000 in
theorem cm_cut {N : Int} {T : Zt} (hT : ok_T T) (hI : IC_ N T) (hR : IR_ T) : Cw_ yX11_cut zX11_cut T [vR 111 0] (PM_ N T) := by
  refine ⟨_, ct_X11_cut , fun T1 r q => ?_⟩
  obtain ⟨e, x, rfl, -⟩ := q
  subst e
  exact pm_e hI hR
set_option maxRecDepth 100000 in
theorem cm_firsts {N : Int} {T : Zt} {c9 cl9 : Int} (hT : ok_T T) (hI : IC_ N T) (hR : IR_ T) : Cw_ yX11_firsts zX11_firsts T [vR 111 0, vI c9, vI cl9] (PM_ N T) := by
  have hr4 : ∀ m, 0 ≤ m → m < 400 → T 254 0 m ≤ 3000 := fun m a _ => (bd_a hT 254 (by decide +kernel : ta_ 254 = some (1, some 400, 0, 3000)) 0 a).2
  refine ⟨_, ct_X11_firsts hR.2.1 hR.2.2.2.2.1 (sc_g hR.2.2.2.2.2.2.2.2.2.2.2 hr4) (yb_g hR.2.2.2.2.2.2.2.2.2.2.2 hr4), fun T1 r q => ?_⟩
  have g := (ir_firsts hR q)
  obtain ⟨x, rfl, f, -⟩ := q
  exact pm_f hI g f (by decide +kernel) ⟨rfl, rfl, rfl, rfl, rfl, rfl, rfl, rfl, rfl, rfl, fun _ => rfl, fun _ => rfl, fun _ => rfl, fun _ => rfl, fun _ => rfl, fun _ => rfl, fun _ => rfl, fun _ => rfl, fun _ => rfl, rfl, rfl, rfl, fun _ => rfl, fun _ => rfl, fun _ => rfl, rfl, rfl, rfl, fun _ => rfl, fun _ => rfl⟩
def qm_drawing (N : Int) (T : Zt) (g9 l9 : Int) (T' : Zt) (r : Option Zv) : Prop := ∃ x : Int, r = some (vI x) ∧ IC_ N T' ∧ IR_ T' ∧ (T' 108 0 2 = T 108 0 2 ∧ T' 108 0 3 = T 108 0 3 ∧ T' 108 0 12 = T 108 0 12 ∧ T' 108 0 13 = T 108 0 13 ∧ T' 111 0 12 = T 111 0 12 ∧ T' 111 0 15 = T 111 0 15 ∧ T' 111 0 21 = T 111 0 21 ∧ T' 111 0 3 = T 111 0 3 ∧ krc_ T T' ∧ kfs_ T T' ∧ krm_ T T' ∧ kth_ T T' ∧ ktr_ T T') ∧ (((x = -3 ∧ ¬ (1 ≤ g9 ∧ g9 ≤ 4 ∧ 1 ≤ l9 ∧ l9 ≤ 3)) ∨ (x = 1 ∧ 1 ≤ g9 ∧ g9 ≤ 4 ∧ 1 ≤ l9 ∧ l9 ≤ 3)))
set_option maxRecDepth 100000 in
theorem cm_drawing {N : Int} {T : Zt} {g9 l9 : Int} (hT : ok_T T) (hI : IC_ N T) (hR : IR_ T) : Cw_ yX11_drawing zX11_drawing T [vR 111 0, vI g9, vI l9] (qm_drawing N T g9 l9) := by
  refine ⟨_, ct_X11_drawing , fun T1 r q => ?_⟩
  have g := (ir_drawing hR q)
  obtain ⟨x, rfl, f, h⟩ := q
  exact ⟨x, rfl, ic_g hI (fr_s f (by decide +kernel)), g, ⟨f 108 0 2 rfl, f 108 0 3 rfl, f 108 0 12 rfl, f 108 0 13 rfl, f 111 0 12 rfl, f 111 0 15 rfl, f 111 0 21 rfl, f 111 0 3 rfl, ⟨f 108 0 5 rfl, fun j => f 566 0 j rfl, fun j => f 567 0 j rfl, fun j => f 568 0 j rfl, fun j => f 569 0 j rfl⟩, fun j => f 564 0 j rfl, ⟨f 111 0 16 rfl, fun j => f 217 0 j rfl, fun j => f 218 0 j rfl, fun j => f 219 0 j rfl, fun j => f 220 0 j rfl⟩, ⟨f 105 0 1 rfl, f 105 0 3 rfl, f 106 0 2 rfl, fun j => f 500 0 j rfl, fun c j => f 401 c j rfl, fun c j => f 402 c j rfl⟩, ⟨f 111 0 1 rfl, f 111 0 2 rfl, f 111 0 6 rfl, fun j => f 200 0 j rfl, fun j => f 205 0 j rfl⟩⟩, h⟩
set_option maxRecDepth 100000 in
theorem cm_pot {N : Int} {T : Zt} {cl9 p9 : Int} (hT : ok_T T) (hI : IC_ N T) (hR : IR_ T) : Cw_ yX11_pot zX11_pot T [vR 111 0, vI cl9, vI p9] (PM_ N T) := by
  refine ⟨_, ct_X11_pot , fun T1 r q => ?_⟩
  have g := (ir_pot hR q)
  obtain ⟨x, rfl, f, -⟩ := q
  exact pm_f hI g f (by decide +kernel) ⟨rfl, rfl, rfl, rfl, rfl, rfl, rfl, rfl, rfl, rfl, fun _ => rfl, fun _ => rfl, fun _ => rfl, fun _ => rfl, fun _ => rfl, fun _ => rfl, fun _ => rfl, fun _ => rfl, fun _ => rfl, rfl, rfl, rfl, fun _ => rfl, fun _ => rfl, fun _ => rfl, rfl, rfl, rfl, fun _ => rfl, fun _ => rfl⟩
set_option maxRecDepth 100000 in
theorem cm_ways {N : Int} {T : Zt} (hT : ok_T T) (hI : IC_ N T) (hR : IR_ T) : Cw_ yX11_ways zX11_ways T [vR 111 0] (PM_ N T) := by
  refine ⟨_, ct_X11_ways , fun T1 r q => ?_⟩
  have g := (ir_ways hR q)
  obtain ⟨x, rfl, f, -⟩ := q
  exact pm_f hI g f (by decide +kernel) ⟨rfl, rfl, rfl, rfl, rfl, rfl, rfl, rfl, rfl, rfl, fun _ => rfl, fun _ => rfl, fun _ => rfl, fun _ => rfl, fun _ => rfl, fun _ => rfl, fun _ => rfl, fun _ => rfl, fun _ => rfl, rfl, rfl, rfl, fun _ => rfl, fun _ => rfl, fun _ => rfl, rfl, rfl, rfl, fun _ => rfl, fun _ => rfl⟩
set_option maxRecDepth 100000 in
theorem cm_chance {N : Int} {T : Zt} {cl9 g9 : Int} (hT : ok_T T) (hI : IC_ N T) (hR : IR_ T) : Cw_ yX11_chance zX11_chance T [vR 111 0, vI cl9, vI g9] (PM_ N T) := by
  refine ⟨_, ct_X11_chance , fun T1 r q => ?_⟩
  have g := (ir_chance hR q)
  obtain ⟨x, rfl, f, -⟩ := q
  exact pm_f hI g f (by decide +kernel) ⟨rfl, rfl, rfl, rfl, rfl, rfl, rfl, rfl, rfl, rfl, fun _ => rfl, fun _ => rfl, fun _ => rfl, fun _ => rfl, fun _ => rfl, fun _ => rfl, fun _ => rfl, fun _ => rfl, fun _ => rfl, rfl, rfl, rfl, fun _ => rfl, fun _ => rfl, fun _ => rfl, rfl, rfl, rfl, fun _ => rfl, fun _ => rfl⟩
set_option maxRecDepth 100000 in
theorem cm_ball {N : Int} {T : Zt} {ta9 fi9 : Int} (hT : ok_T T) (hI : IC_ N T) (hR : IR_ T) : Cw_ yX11_ball zX11_ball T [vR 111 0, vI ta9, vI fi9] (PM_ N T) := by
  refine ⟨_, ct_X11_ball , fun T1 r q => ?_⟩
  have g := (ir_ball hR q)
  obtain ⟨x, rfl, f, -⟩ := q
  exact pm_f hI g f (by decide +kernel) ⟨rfl, rfl, rfl, rfl, rfl, rfl, rfl, rfl, rfl, rfl, fun _ => rfl, fun _ => rfl, fun _ => rfl, fun _ => rfl, fun _ => rfl, fun _ => rfl, fun _ => rfl, fun _ => rfl, fun _ => rfl, rfl, rfl, rfl, fun _ => rfl, fun _ => rfl, fun _ => rfl, rfl, rfl, rfl, fun _ => rfl, fun _ => rfl⟩
set_option maxRecDepth 100000 in
theorem cm_drawn {N : Int} {T : Zt} {c9 : Int} (hT : ok_T T) (hI : IC_ N T) (hR : IR_ T) : Cw_ yX11_drawn zX11_drawn T [vR 111 0, vI c9] (PM_ N T) := by
  refine ⟨_, ct_X11_drawn , fun T1 r q => ?_⟩
  obtain ⟨e, x, rfl, -⟩ := q
  subst e
  exact pm_e hI hR
set_option maxRecDepth 100000 in
theorem cm_assign {N : Int} {T : Zt} {d9 : Int} (hT : ok_T T) (hI : IC_ N T) (hR : IR_ T) : Cw_ yX11_assign zX11_assign T [vR 111 0, vI d9] (PM_ N T) := by
  refine ⟨_, ct_X11_assign , fun T1 r q => ?_⟩
  have g := (ir_assign hR q)
  obtain ⟨x, rfl, f, -⟩ := q
  exact pm_f hI g f (by decide +kernel) ⟨rfl, rfl, rfl, rfl, rfl, rfl, rfl, rfl, rfl, rfl, fun _ => rfl, fun _ => rfl, fun _ => rfl, fun _ => rfl, fun _ => rfl, fun _ => rfl, fun _ => rfl, fun _ => rfl, fun _ => rfl, rfl, rfl, rfl, fun _ => rfl, fun _ => rfl, fun _ => rfl, rfl, rfl, rfl, fun _ => rfl, fun _ => rfl⟩
set_option maxRecDepth 100000 in
theorem cm_officialOf {N : Int} {T : Zt} {m9 : Int} (hT : ok_T T) (hI : IC_ N T) (hR : IR_ T) : Cw_ yX11_officialOf zX11_officialOf T [vR 111 0, vI m9] (PM_ N T) := by
  refine ⟨_, ct_X11_officialOf , fun T1 r q => ?_⟩
  obtain ⟨e, x, rfl, -⟩ := q
  subst e
  exact pm_e hI hR
set_option maxRecDepth 100000 in
theorem cm_count {N : Int} {T : Zt} {w9 : Int} (hT : ok_T T) (hI : IC_ N T) (hR : IR_ T) : Cw_ yX11_count zX11_count T [vR 111 0, vI w9] (PM_ N T) := by
  refine ⟨_, ct_X11_count , fun T1 r q => ?_⟩
  obtain ⟨e, x, rfl, -⟩ := q
  subst e
  exact pm_e hI hR
theorem re_sign {N : Int} {T T1 T2 : Zt} {c9 : Int} {r1 r2 : Option Zv} (h : RE_ T) (hb : 0 ≤ T 108 0 5 ∧ 0 ≤ T 105 0 1 ∧ T 105 0 1 ≤ 400 ∧ 0 ≤ T 106 0 2) (a : qx_sign N T c9 T1 r1) (b : qm_sign (N + 1) T1 c9 T2 r2) : LQo_ N T2 r1 r2 := by
  obtain ⟨x1, e1, -, -, ⟨a0, a1, a2, a3, a4, a5, a6, a7, akrc, akfs, akrm, aktr, axt⟩, d1⟩ := a
  obtain ⟨x2, e2, i2, j2, ⟨b0, b1, b2, b3, b4, b5, b6, b7, bkrc, bkfs, bkrm, bkth, bxt⟩, d2⟩ := b
  obtain ⟨h0, h1, h2, h3, hs, ht⟩ := h
  obtain ⟨ex, ht2⟩ := txr_s ht hb.2.1 axt d1 aktr bxt d2 bkth
  subst ex
  exact ⟨_, e1, e2, i2, j2, by omega, by omega, by omega, by omega, spr_k hs (by omega) (krc_t akrc bkrc) (kfs_t akfs bkfs) (krm_t akrm bkrm), ht2⟩
theorem re_wipe {N : Int} {T T1 T2 : Zt} {r1 r2 : Option Zv} (h : RE_ T) (hb : 0 ≤ T 108 0 5 ∧ 0 ≤ T 105 0 1 ∧ T 105 0 1 ≤ 400 ∧ 0 ≤ T 106 0 2) (a : qx_wipe N T T1 r1) (b : qm_wipe (N + 1) T1 T2 r2) : LQo_ N T2 r1 r2 := by
  obtain ⟨x1, e1, -, -, ⟨a0, a1, a2, a3, a4, a5, a6, a7, akrc, akfs, akrm, aktr, axt⟩, d1⟩ := a
  obtain ⟨x2, e2, i2, j2, ⟨b0, b1, b2, b3, b4, b5, b6, b7, bkrc, bkfs, bkrm, bkth, bxt⟩, d2⟩ := b
  obtain ⟨h0, h1, h2, h3, hs, ht⟩ := h
  obtain ⟨ex, ht2⟩ := txr_w ht axt d1 aktr bxt d2 bkth
  subst ex
  exact ⟨_, e1, e2, i2, j2, by omega, by omega, by omega, by omega, spr_k hs (by omega) (krc_t akrc bkrc) (kfs_t akfs bkfs) (krm_t akrm bkrm), ht2⟩
theorem re_competition {N : Int} {T T1 T2 : Zt} {r1 r2 : Option Zv} (h : RE_ T) (hb : 0 ≤ T 108 0 5 ∧ 0 ≤ T 105 0 1 ∧ T 105 0 1 ≤ 400 ∧ 0 ≤ T 106 0 2) (a : qx_competition N T T1 r1) (b : qm_competition (N + 1) T1 T2 r2) : LQo_ N T2 r1 r2 := by
  obtain ⟨x1, e1, -, -, ⟨a0, a1, a2, a3, a4, a5, a6, a7, akrc, akfs, akrm, aktr, axt⟩, d1⟩ := a
  obtain ⟨x2, e2, i2, j2, ⟨b0, b1, b2, b3, b4, b5, b6, b7, bkrc, bkfs, bkrm, bkth, bxt⟩, d2⟩ := b
  obtain ⟨h0, h1, h2, h3, hs, ht⟩ := h
  obtain ⟨ex, ht2⟩ := txr_c ht hb.2.2.1 hb.2.2.2 axt d1 aktr bxt d2 bkth
  subst ex
  exact ⟨_, e1, e2, i2, j2, by omega, by omega, by omega, by omega, spr_k hs (by omega) (krc_t akrc bkrc) (kfs_t akfs bkfs) (krm_t akrm bkrm), ht2⟩
theorem re_fault {N : Int} {T T1 T2 : Zt} {r1 r2 : Option Zv} (h : RE_ T) (hb : 0 ≤ T 108 0 5 ∧ 0 ≤ T 105 0 1 ∧ T 105 0 1 ≤ 400 ∧ 0 ≤ T 106 0 2) (a : qx_fault N T T1 r1) (b : qm_fault (N + 1) T1 T2 r2) : LQo_ N T2 r1 r2 := by
  obtain ⟨x1, e1, -, -, ⟨a0, a1, a2, a3, a4, a5, a6, a7, akrc, akfs, akrm, akth, aktr, aeq⟩, d1⟩ := a
  obtain ⟨x2, e2, i2, j2, ⟨b0, b1, b2, b3, b4, b5, b6, b7, bkrc, bkfs, bkrm, bkth, bktr, beq⟩, d2⟩ := b
  obtain ⟨h0, h1, h2, h3, hs, ht⟩ := h
  subst aeq
  subst beq
  obtain rfl : x1 = x2 := by have := ht.2.1; omega
  exact ⟨_, e1, e2, i2, j2, by omega, by omega, by omega, by omega, hs, ht⟩
theorem re_rule {N : Int} {T T1 T2 : Zt} {c9 w9 : Int} {r1 r2 : Option Zv} (h : RE_ T) (hb : 0 ≤ T 108 0 5 ∧ 0 ≤ T 105 0 1 ∧ T 105 0 1 ≤ 400 ∧ 0 ≤ T 106 0 2) (a : qx_rule N T c9 w9 T1 r1) (b : qm_rule (N + 1) T1 c9 w9 T2 r2) : LQo_ N T2 r1 r2 := by
  obtain ⟨x1, e1, -, -, ⟨a0, a1, a2, a3, a4, a5, a6, a7, akrc, akfs, akrm, akth, aktr, aeq⟩, d1⟩ := a
  obtain ⟨x2, e2, i2, j2, ⟨b0, b1, b2, b3, b4, b5, b6, b7, bkrc, bkfs, bkrm, bkth, bktr, beq⟩, d2⟩ := b
  obtain ⟨h0, h1, h2, h3, hs, ht⟩ := h
  subst aeq
  subst beq
  obtain rfl : x1 = x2 := txr_r ht d1 d2
  exact ⟨_, e1, e2, i2, j2, by omega, by omega, by omega, by omega, hs, ht⟩
theorem re_club {N : Int} {T T1 T2 : Zt} {s9 c9 : Int} {r1 r2 : Option Zv} (h : RE_ T) (hb : 0 ≤ T 108 0 5 ∧ 0 ≤ T 105 0 1 ∧ T 105 0 1 ≤ 400 ∧ 0 ≤ T 106 0 2) (a : qx_club N T s9 c9 T1 r1) (b : qm_club (N + 1) T1 s9 c9 T2 r2) : LQo_ N T2 r1 r2 := by
  obtain ⟨x1, e1, -, -, ⟨a1, a2, a3, a4, a5, a6, a7, akrc, akfs, akrm, akth, aktr⟩, d1⟩ := a
  obtain ⟨x2, e2, i2, j2, ⟨b0, b1, b2, b3, b5, b6, b7, bkrc, bkfs, bkrm, bkth, bktr⟩, d2⟩ := b
  obtain ⟨h0, h1, h2, h3, hs, ht⟩ := h
  obtain rfl : x1 = x2 := by omega
  exact ⟨_, e1, e2, i2, j2, by omega, by omega, by omega, by omega, spr_k hs (by omega) (krc_t akrc bkrc) (kfs_t akfs bkfs) (krm_t akrm bkrm), txr_k ht (kth_t akth bkth) (ktr_t aktr bktr)⟩
theorem re_person {N : Int} {T T1 T2 : Zt} {r1 r2 : Option Zv} (h : RE_ T) (hb : 0 ≤ T 108 0 5 ∧ 0 ≤ T 105 0 1 ∧ T 105 0 1 ≤ 400 ∧ 0 ≤ T 106 0 2) (a : qx_person N T T1 r1) (b : qm_person (N + 1) T1 T2 r2) : LQo_ N T2 r1 r2 := by
  obtain ⟨x1, e1, -, -, ⟨a0, a2, a3, a4, a5, a6, a7, akrc, akrm, akth, aktr⟩, d1⟩ := a
  obtain ⟨x2, e2, i2, j2, ⟨b0, b1, b2, b3, b4, b6, b7, bkrc, bkfs, bkrm, bkth, bktr⟩, d2⟩ := b
  obtain ⟨h0, h1, h2, h3, hs, ht⟩ := h
  have hs2 := spr_p hs d1 akrc akrm b1 bkrc bkfs bkrm
  have d1 : (T 108 0 3 = 200 ∧ x1 = -5 ∧ T1 108 0 3 = T 108 0 3) ∨ (T 108 0 3 < 200 ∧ x1 = T 108 0 3 ∧ T1 108 0 3 = T 108 0 3 + 1) := d1.elim (fun z => Or.inl ⟨z.1, z.2.1, by rw [z.2.2]⟩) (fun z => Or.inr ⟨z.1, z.2.1, z.2.2.1⟩)
  obtain rfl : x1 = x2 := by omega
  exact ⟨_, e1, e2, i2, j2, by omega, by omega, by omega, by omega, hs2, txr_k ht (kth_t akth bkth) (ktr_t aktr bktr)⟩
theorem re_register {N : Int} {T T1 T2 : Zt} {p9 cl9 a9 b9 : Int} {r1 r2 : Option Zv} (h : RE_ T) (hb : 0 ≤ T 108 0 5 ∧ 0 ≤ T 105 0 1 ∧ T 105 0 1 ≤ 400 ∧ 0 ≤ T 106 0 2) (a : qx_register N T p9 cl9 a9 b9 T1 r1) (b : qm_register (N + 1) T1 p9 cl9 a9 b9 T2 r2) : LQo_ N T2 r1 r2 := by
  obtain ⟨x1, e1, -, -, ⟨a0, a1, a2, a3, a4, a5, a6, a7, akrm, akth, aktr⟩, d1⟩ := a
  obtain ⟨x2, e2, i2, j2, ⟨b0, b1, b2, b3, b4, b5, b6, b7, bkrc, bkfs, bkth, bktr⟩, d2⟩ := b
  obtain ⟨h0, h1, h2, h3, hs, ht⟩ := h
  obtain ⟨ex, hs2⟩ := spr_r hs hb.1 h1 h0 d1 akrm a1 a5 a4 d2 bkrc bkfs b1
  subst ex
  exact ⟨_, e1, e2, i2, j2, by omega, by omega, by omega, by omega, hs2, txr_k ht (kth_t akth bkth) (ktr_t aktr bktr)⟩
theorem re_official {N : Int} {T T1 T2 : Zt} {s9 c9 : Int} {r1 r2 : Option Zv} (h : RE_ T) (hb : 0 ≤ T 108 0 5 ∧ 0 ≤ T 105 0 1 ∧ T 105 0 1 ≤ 400 ∧ 0 ≤ T 106 0 2) (a : qx_official N T s9 c9 T1 r1) (b : qm_official (N + 1) T1 s9 c9 T2 r2) : LQo_ N T2 r1 r2 := by
  obtain ⟨x1, e1, -, -, ⟨a0, a1, a3, a4, a5, a6, a7, akrc, akfs, akrm, akth, aktr⟩, d1⟩ := a
  obtain ⟨x2, e2, i2, j2, ⟨b0, b1, b2, b3, b4, b5, b7, bkrc, bkfs, bkrm, bkth, bktr⟩, d2⟩ := b
  obtain ⟨h0, h1, h2, h3, hs, ht⟩ := h
  obtain rfl : x1 = x2 := by omega
  exact ⟨_, e1, e2, i2, j2, by omega, by omega, by omega, by omega, spr_k hs (by omega) (krc_t akrc bkrc) (kfs_t akfs bkfs) (krm_t akrm bkrm), txr_k ht (kth_t akth bkth) (ktr_t aktr bktr)⟩
theorem re_day {N : Int} {T T1 T2 : Zt} {d9 : Int} {r1 r2 : Option Zv} (h : RE_ T) (hb : 0 ≤ T 108 0 5 ∧ 0 ≤ T 105 0 1 ∧ T 105 0 1 ≤ 400 ∧ 0 ≤ T 106 0 2) (a : qx_day N T d9 T1 r1) (b : qm_day (N + 1) T1 d9 T2 r2) : LQo_ N T2 r1 r2 := by
  obtain ⟨x1, e1, -, -, ⟨a0, a1, a2, a4, a5, a6, a7, akrc, akfs, akrm, akth, aktr⟩, d1⟩ := a
  obtain ⟨x2, e2, i2, j2, ⟨b0, b1, b2, b3, b4, b5, b6, bkrc, bkfs, bkrm, bkth, bktr⟩, d2⟩ := b
  obtain ⟨h0, h1, h2, h3, hs, ht⟩ := h
  obtain rfl : x1 = x2 := by omega
  exact ⟨_, e1, e2, i2, j2, by omega, by omega, by omega, by omega, spr_k hs (by omega) (krc_t akrc bkrc) (kfs_t akfs bkfs) (krm_t akrm bkrm), txr_k ht (kth_t akth bkth) (ktr_t aktr bktr)⟩
theorem re_drawing {N : Int} {T T1 T2 : Zt} {g9 l9 : Int} {r1 r2 : Option Zv} (h : RE_ T) (hb : 0 ≤ T 108 0 5 ∧ 0 ≤ T 105 0 1 ∧ T 105 0 1 ≤ 400 ∧ 0 ≤ T 106 0 2) (a : qx_drawing N T g9 l9 T1 r1) (b : qm_drawing (N + 1) T1 g9 l9 T2 r2) : LQo_ N T2 r1 r2 := by
  obtain ⟨x1, e1, -, -, ⟨a0, a1, a2, a3, a4, a5, a6, a7, akrc, akfs, akrm, akth, aktr⟩, d1⟩ := a
  obtain ⟨x2, e2, i2, j2, ⟨b0, b1, b2, b3, b4, b5, b6, b7, bkrc, bkfs, bkrm, bkth, bktr⟩, d2⟩ := b
  obtain ⟨h0, h1, h2, h3, hs, ht⟩ := h
  obtain rfl : x1 = x2 := by omega
  exact ⟨_, e1, e2, i2, j2, by omega, by omega, by omega, by omega, spr_k hs (by omega) (krc_t akrc bkrc) (kfs_t akfs bkfs) (krm_t akrm bkrm), txr_k ht (kth_t akth bkth) (ktr_t aktr bktr)⟩

