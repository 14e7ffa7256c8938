-- each call of the law: what holds between the calls is kept by both sides
def LCla_ : List (Nat × List Int) := [(100, []), (101, []), (102, []), (103, []), (104, []), (105, []), (106, []), (107, []), (108, []), (109, []), (110, []), (150, []), (152, []), (153, []), (190, []), (191, []), (400, []), (401, []), (402, []), (403, []), (404, []), (405, []), (406, []), (407, []), (408, []), (409, []), (410, []), (411, []), (412, []), (413, []), (414, []), (415, []), (416, []), (417, []), (418, []), (419, []), (420, []), (421, []), (422, []), (423, []), (424, []), (425, []), (426, []), (427, []), (428, []), (429, []), (430, []), (431, []), (432, []), (433, []), (434, []), (435, []), (436, []), (437, []), (438, []), (439, []), (440, []), (441, []), (442, []), (443, []), (444, []), (445, []), (446, []), (447, []), (448, []), (449, []), (450, []), (451, []), (452, []), (453, []), (454, []), (455, []), (456, []), (457, []), (458, []), (459, []), (460, []), (461, []), (462, []), (463, []), (464, []), (465, []), (466, []), (467, []), (468, []), (469, []), (470, []), (471, []), (472, []), (473, []), (474, []), (475, []), (476, []), (477, []), (478, []), (479, []), (480, []), (481, []), (482, []), (483, []), (484, []), (485, []), (486, []), (487, []), (488, []), (489, []), (490, []), (491, []), (492, []), (493, []), (494, []), (495, []), (496, []), (497, []), (498, []), (499, []), (500, []), (501, []), (502, []), (503, []), (504, []), (505, []), (506, []), (507, []), (508, []), (509, []), (510, []), (511, []), (512, []), (513, []), (514, []), (515, []), (516, []), (517, []), (518, []), (519, []), (520, []), (521, []), (522, []), (523, []), (524, []), (525, []), (526, []), (527, []), (528, []), (529, []), (530, []), (531, []), (532, []), (533, []), (534, []), (535, []), (536, []), (537, []), (538, []), (539, []), (540, []), (541, []), (542, []), (543, []), (544, []), (545, []), (546, []), (547, []), (548, []), (549, []), (550, []), (551, []), (552, []), (553, []), (554, []), (555, []), (556, []), (557, []), (558, []), (559, []), (560, []), (561, []), (562, []), (563, []), (564, []), (565, []), (566, []), (567, []), (568, []), (569, []), (570, []), (571, []), (572, []), (573, []), (574, []), (575, []), (576, []), (577, []), (578, []), (579, []), (580, []), (581, []), (582, []), (583, []), (584, []), (585, []), (586, []), (587, []), (588, []), (589, []), (590, []), (591, []), (592, []), (593, []), (594, []), (595, []), (596, []), (597, []), (598, []), (599, [])]
def LRef_ : List (Nat × List Int) := [(111, []), (200, []), (201, []), (202, []), (203, []), (204, []), (205, []), (206, []), (207, []), (208, []), (209, []), (210, []), (211, []), (212, []), (213, []), (214, []), (215, []), (216, []), (217, []), (218, []), (219, []), (220, []), (221, []), (222, []), (223, []), (224, []), (225, []), (226, []), (227, []), (228, []), (229, []), (230, []), (231, []), (232, []), (233, []), (234, []), (235, []), (236, []), (237, []), (238, []), (239, []), (240, []), (241, []), (242, []), (243, []), (244, []), (245, []), (246, []), (247, []), (248, []), (249, []), (250, []), (251, []), (252, []), (253, []), (254, []), (255, []), (256, []), (257, []), (258, []), (259, []), (260, []), (261, []), (262, []), (263, []), (264, []), (265, []), (266, []), (267, []), (268, []), (269, []), (270, []), (271, []), (272, []), (273, []), (274, []), (275, []), (276, []), (277, []), (278, []), (279, []), (280, []), (281, []), (282, []), (283, []), (284, []), (285, []), (286, []), (287, []), (288, []), (289, []), (290, []), (291, []), (292, []), (293, []), (294, []), (295, []), (296, []), (297, []), (298, []), (299, []), (300, []), (301, []), (302, []), (303, []), (304, []), (305, []), (306, []), (307, []), (308, []), (309, []), (310, []), (311, []), (312, []), (313, [])]
set_option maxRecDepth 100000 in
set_option maxHeartbeats 4000000 in
theorem ir_g {T T' : Zt} (h : IR_ T) (f : fr_ LCla_ T T') : IR_ T' := by
  exact ⟨CW_f h.1 f ⟨fun _ => rfl, fun _ => rfl, fun _ => rfl, fun _ => rfl, fun _ => rfl⟩, RI__f h.2.1 f ⟨fun _ => rfl, rfl, trivial⟩, RW__f h.2.2.1 f ⟨fun _ => rfl, rfl, trivial⟩, EN__f h.2.2.2.1 f ⟨fun _ => rfl, fun _ => rfl, rfl, trivial⟩, ML__f h.2.2.2.2.1 f ⟨fun _ => rfl, fun _ => rfl, rfl, trivial⟩, MC__f h.2.2.2.2.2.1 f ⟨fun _ => rfl, rfl, rfl, trivial⟩, SH__f h.2.2.2.2.2.2.1 f ⟨fun _ => rfl, fun _ => rfl, fun _ => rfl, rfl, trivial⟩, FM__f h.2.2.2.2.2.2.2.1 f ⟨fun _ => rfl, fun _ => rfl, trivial⟩, rx_f h.2.2.2.2.2.2.2.2.1 (f 111 0 29 rfl) (f 111 0 47 rfl) (fun k j h => f k 0 j (by rcases h with rfl | rfl | rfl | rfl | rfl <;> rfl)), rz_f h.2.2.2.2.2.2.2.2.2.1 (f 111 0 29 rfl) (fun j => f 254 0 j rfl) (fun j => f 256 0 j rfl), ZS__f h.2.2.2.2.2.2.2.2.2.2.1 f ⟨fun _ => rfl, fun _ => rfl, trivial⟩, gx_f (x := -1) (y := -1) h.2.2.2.2.2.2.2.2.2.2.2 f ⟨fun _ => rfl, fun _ => rfl, fun _ => rfl⟩ (fun j _ => f 254 0 j rfl) (Or.inl rfl)⟩
theorem ic_h {N : Int} {ws : List (Nat × List Int)} {T T' : Zt} (h : IC_ N T) (f : fr_ ws T T') (w : wt8_ ws) (w2 : fw_ ws 102 5 = false ∧ fw_ ws 102 6 = false) (wn : wn_ ws) (wl : wl_ ws) (w9 : fw_ ws 109 15 = false ∧ fw_ ws 190 (-2) = false ∧ fw_ ws 191 0 = false) : IC_ N T' := by
  obtain ⟨k, d, n, l, s, b1, b2⟩ := h
  have e9 := f 191 0 0 w9.2.2
  refine ⟨ic_t k f w, DD__f d f ⟨w.2.2.1.1, w.2.2.1.2.2.1, w2.1, w2.2, w.2.1.2, trivial⟩, NA_f n f wn, LP_f l (by omega) (lh_f lh_r f w9.2.1 w9.2.2) f wl, ?_, by omega, by omega⟩
  rw [f 109 0 15 w9.1, f 190 _ _ w9.2.1]
  exact s
set_option maxRecDepth 100000 in
set_option maxHeartbeats 4000000 in
theorem ic_g {N : Int} {T T' : Zt} (h : IC_ N T) (f : fr_ LRef_ T T') : IC_ N T' := ic_h h f ⟨⟨fun _ => rfl, fun _ => rfl, fun _ => rfl, fun _ => rfl, fun _ => rfl⟩, ⟨rfl, rfl⟩, ⟨rfl, rfl, rfl, rfl⟩, rfl, rfl, rfl, rfl⟩ ⟨rfl, rfl⟩ ⟨rfl, rfl, rfl, rfl, rfl, rfl, rfl, rfl, rfl⟩ ⟨rfl, rfl, rfl, rfl, rfl, rfl, rfl, rfl, rfl, rfl, rfl⟩ ⟨rfl, rfl, rfl⟩
def FCNR_ : List (Nat × List Int) := [(108, [2, 3, 12, 13]), (111, [12, 15, 21, 3])]
theorem CNR_q {T T' : Zt} (h : CNR_ T) (k : ks_ FCNR_ T T') : CNR_ T' := by
  have e := fun j (q : fw_ FCNR_ 108 j = true) => k 108 0 j q
  have g := fun j (q : fw_ FCNR_ 111 j = true) => k 111 0 j q
  obtain ⟨h1, h2, h3, h4⟩ := h
  exact ⟨by rw [e 2 rfl, g 12 rfl]; exact h1, by rw [e 3 rfl, g 15 rfl]; exact h2, by rw [e 12 rfl, g 21 rfl]; exact h3, by rw [e 13 rfl, g 3 rfl]; exact h4⟩
def FTHR_ : List (Nat × List Int) := [(108, [2, 12]), (560, []), (561, []), (570, []), (571, []), (213, []), (214, []), (222, []), (223, [])]
theorem THR_q {T T' : Zt} (h : THR_ T) (k : ks_ FTHR_ T T') : THR_ T' := by
  refine ⟨fun j a b => ?_, fun j a b => ?_⟩
  · rw [k 108 0 2 rfl] at b
    rw [k 560 0 j rfl, k 561 0 j rfl, k 213 0 j rfl, k 214 0 j rfl]
    exact h.1 j a b
  · rw [k 108 0 12 rfl] at b
    rw [k 570 0 j rfl, k 571 0 j rfl, k 222 0 j rfl, k 223 0 j rfl]
    exact h.2 j a b
def FSPR_ : List (Nat × List Int) := [(108, [3, 5]), (564, []), (566, []), (567, []), (568, []), (569, []), (111, [16]), (217, []), (218, []), (219, []), (220, [])]
theorem SPR_q {T T' : Zt} (h : SPR_ T) (k : ks_ FSPR_ T T') : SPR_ T' := spr_k h (k 108 0 3 rfl) ⟨k 108 0 5 rfl, fun j => k 566 0 j rfl, fun j => k 567 0 j rfl, fun j => k 568 0 j rfl, fun j => k 569 0 j rfl⟩ (fun j => k 564 0 j rfl) ⟨k 111 0 16 rfl, fun j => k 217 0 j rfl, fun j => k 218 0 j rfl, fun j => k 219 0 j rfl, fun j => k 220 0 j rfl⟩
def FTXR_ : List (Nat × List Int) := [(105, [1, 3]), (106, [2]), (500, []), (401, []), (402, []), (111, [1, 2, 6]), (200, []), (205, [])]
theorem TXR_q {T T' : Zt} (h : TXR_ T) (k : ks_ FTXR_ T T') : TXR_ T' := txr_k h ⟨k 105 0 1 rfl, k 105 0 3 rfl, k 106 0 2 rfl, fun j => k 500 0 j rfl, fun c j => k 401 c j rfl, fun c j => k 402 c j rfl⟩ ⟨k 111 0 1 rfl, k 111 0 2 rfl, k 111 0 6 rfl, fun j => k 200 0 j rfl, fun j => k 205 0 j rfl⟩
def FENR_ : List (Nat × List Int) := [(106, [2]), (100, [5, 6, 7, 8]), (403, []), (404, []), (207, []), (208, []), (209, []), (210, []), (211, [])]
theorem ENR_q {T T' : Zt} (h : ENR_ T) (k : ks_ FENR_ T T') : ENR_ T' := enr_k h (k 106 0 2 rfl) ⟨fun c => ⟨k 100 c 5 rfl, k 100 c 6 rfl, k 100 c 7 rfl, k 100 c 8 rfl⟩, fun c j => k 403 c j rfl, fun c j => k 404 c j rfl⟩ ⟨fun j => k 207 0 j rfl, fun j => ⟨k 208 0 j rfl, k 209 0 j rfl, k 210 0 j rfl, k 211 0 j rfl⟩⟩
def FMAR_ : List (Nat × List Int) := [(106, [4]), (102, [0, 2, 3, 4]), (111, [29]), (230, []), (231, []), (232, []), (233, [])]
theorem MAR_q {T T' : Zt} (h : MAR_ T) (k : ks_ FMAR_ T T') : MAR_ T' := mar_k h ⟨k 106 0 4 rfl, fun m => ⟨k 102 m 0 rfl, k 102 m 2 rfl, k 102 m 3 rfl, k 102 m 4 rfl⟩⟩ ⟨k 111 0 29 rfl, fun m => ⟨k 230 0 m rfl, k 231 0 m rfl, k 232 0 m rfl, k 233 0 m rfl⟩⟩
def FDER_ : List (Nat × List Int) := [(106, [6]), (527, []), (528, []), (529, []), (530, []), (111, [24]), (225, []), (226, []), (227, []), (228, [])]
theorem DER_q {T T' : Zt} (h : DER_ T) (k : ks_ FDER_ T T') : DER_ T' := der_k h ⟨k 106 0 6 rfl, fun j => k 527 0 j rfl, fun j => k 528 0 j rfl, fun j => k 529 0 j rfl, fun j => k 530 0 j rfl⟩ ⟨k 111 0 24 rfl, fun j => k 225 0 j rfl, fun j => k 226 0 j rfl, fun j => k 227 0 j rfl, fun j => k 228 0 j rfl⟩
def FLOR_ : List (Nat × List Int) := [(101, [1, 2, 3, 4, 5, 6, 7, 13]), (108, [2]), (428, []), (429, []), (430, []), (431, []), (432, []), (561, []), (111, [98, 99, 100, 103]), (301, []), (302, [])]
theorem LOR_q {T T' : Zt} (h : LOR_ T) (k : ks_ FLOR_ T T') : LOR_ T' := lor_k h (kz_o k)
def FPLR_ : List (Nat × List Int) := [(102, [0, 6, 10]), (103, []), (448, []), (449, []), (466, []), (467, []), (468, []), (469, []), (470, []), (471, []), (472, []), (473, []), (401, []), (190, []), (106, [4]), (111, [29]), (235, []), (236, []), (237, []), (239, []), (240, []), (241, []), (242, []), (243, []), (244, []), (245, []), (246, []), (248, []), (249, []), (250, []), (251, []), (252, []), (253, []), (254, []), (256, [])]
theorem PLR_q {T T' : Zt} (h : PLR_ T) (k : ks_ FPLR_ T T') : PLR_ T' := plr_k h (ks_s k (by decide +kernel)) (ks_s k (by decide +kernel)) (k 106 0 4 rfl) (k 111 0 29 rfl)
def FLDR_ : List (Nat × List Int) := [(104, [4]), (109, [15]), (191, [0]), (106, [4]), (102, [10]), (103, [14, 16])]
theorem LDR_q {T T' : Zt} (h : LDR_ T) (k : ks_ FLDR_ T T') : LDR_ T' := ldr_k h ⟨k 104 0 4 rfl, k 109 0 15 rfl, k 191 0 0 rfl, k 106 0 4 rfl⟩ (fun m => ⟨k 102 m 10 rfl, k 103 m 14 rfl, k 103 m 16 rfl⟩)
def FRCR_ : List (Nat × List Int) := [(106, [5]), (111, [47])]
theorem RCR_q {T T' : Zt} (h : RCR_ T) (k : ks_ FRCR_ T T') : RCR_ T' := by
  show T' 106 0 5 = T' 111 0 47
  rw [k 106 0 5 rfl, k 111 0 47 rfl]
  exact h
def FDAR_ : List (Nat × List Int) := [(106, [4]), (102, [5]), (234, [])]
theorem DAR_q {T T' : Zt} (h : DAR_ T) (k : ks_ FDAR_ T T') : DAR_ T' := fun m a b => by
  rw [k 106 0 4 rfl] at b
  rw [k 102 m 5 rfl, k 234 0 m rfl]
  exact h m a b
def FMVR_ : List (Nat × List Int) := [(106, [12]), (531, []), (111, [75]), (274, [])]
theorem MVR_q {T T' : Zt} (h : MVR_ T) (k : ks_ FMVR_ T T') : MVR_ T' := ⟨by rw [k 106 0 12 rfl, k 111 0 75 rfl]; exact h.1, fun j a b => by rw [k 106 0 12 rfl] at b; rw [k 531 0 j rfl, k 274 0 j rfl]; exact h.2 j a b⟩
def FCNO_ : List (Nat × List Int) := [(106, [2]), (100, [0])]
theorem CNO_q {T T' : Zt} (h : CNO_ T) (k : ks_ FCNO_ T T') : CNO_ T' := fun c a b => by
  rw [k 106 0 2 rfl] at b
  rw [k 100 c 0 rfl]
  exact h c a b
def FCLM_ : List (Nat × List Int) := [(106, [4]), (102, [3, 4]), (108, [2])]
theorem CLM_q {T T' : Zt} (h : CLM_ T) (k : ks_ FCLM_ T T') : CLM_ T' := fun m a b => by
  rw [k 106 0 4 rfl] at b
  rw [k 102 m 3 rfl, k 102 m 4 rfl, k 108 0 2 rfl]
  exact h m a b
def FSUP_ : List (Nat × List Int) := [(111, [80])]
theorem SUP_q {T T' : Zt} (h : SUP_ T) (k : ks_ FSUP_ T T') : SUP_ T' := (k 111 0 80 rfl).trans h
def FKNK_ : List (Nat × List Int) := [(106, [2]), (401, []), (402, [])]
theorem KNK_q {T T' : Zt} (h : KNK_ T) (k : ks_ FKNK_ T T') : KNK_ T' := fun c a b j j0 j1 j2 => by
  rw [k 106 0 2 rfl] at b
  rw [k 401 c 4 rfl] at j2
  rw [k 402 c j rfl]
  exact h c a b j j0 j1 j2
/-- what is alike on both sides -/
def RE_ (T : Zt) : Prop := CNR_ T ∧ THR_ T ∧ SPR_ T ∧ TXR_ T ∧ ENR_ T ∧ MAR_ T ∧ DER_ T ∧ LOR_ T ∧ PLR_ T ∧ LDR_ T ∧ RCR_ T ∧ DAR_ T ∧ MVR_ T ∧ CNO_ T ∧ CLM_ T ∧ SUP_ T ∧ KNK_ T
def FALL_ : List (Nat × List Int) := [(108, [2, 3, 5, 12, 13]), (111, [1, 2, 3, 6, 12, 15, 16, 21, 24, 29, 47, 75, 80, 98, 99, 100, 103]), (560, []), (561, []), (570, []), (571, []), (213, []), (214, []), (222, []), (223, []), (564, []), (566, []), (567, []), (568, []), (569, []), (217, []), (218, []), (219, []), (220, []), (105, [1, 3]), (106, [2, 4, 5, 6, 12]), (500, []), (401, []), (402, []), (200, []), (205, []), (100, [0, 5, 6, 7, 8]), (403, []), (404, []), (207, []), (208, []), (209, []), (210, []), (211, []), (102, [0, 2, 3, 4, 5, 6, 10]), (230, []), (231, []), (232, []), (233, []), (527, []), (528, []), (529, []), (530, []), (225, []), (226, []), (227, []), (228, []), (101, [1, 2, 3, 4, 5, 6, 7, 13]), (428, []), (429, []), (430, []), (431, []), (432, []), (301, []), (302, []), (103, []), (448, []), (449, []), (466, []), (467, []), (468, []), (469, []), (470, []), (471, []), (472, []), (473, []), (190, []), (235, []), (236, []), (237, []), (239, []), (240, []), (241, []), (242, []), (243, []), (244, []), (245, []), (246, []), (248, []), (249, []), (250, []), (251, []), (252, []), (253, []), (254, []), (256, []), (104, [4]), (109, [15]), (191, [0]), (234, []), (531, []), (274, [])]
theorem RE_q {T T' : Zt} (h : RE_ T) (k : ks_ FALL_ T T') : RE_ T' := ⟨CNR_q h.1 (ks_s k (by decide +kernel)), THR_q h.2.1 (ks_s k (by decide +kernel)), SPR_q h.2.2.1 (ks_s k (by decide +kernel)), TXR_q h.2.2.2.1 (ks_s k (by decide +kernel)), ENR_q h.2.2.2.2.1 (ks_s k (by decide +kernel)), MAR_q h.2.2.2.2.2.1 (ks_s k (by decide +kernel)), DER_q h.2.2.2.2.2.2.1 (ks_s k (by decide +kernel)), LOR_q h.2.2.2.2.2.2.2.1 (ks_s k (by decide +kernel)), PLR_q h.2.2.2.2.2.2.2.2.1 (ks_s k (by decide +kernel)), LDR_q h.2.2.2.2.2.2.2.2.2.1 (ks_s k (by decide +kernel)), RCR_q h.2.2.2.2.2.2.2.2.2.2.1 (ks_s k (by decide +kernel)), DAR_q h.2.2.2.2.2.2.2.2.2.2.2.1 (ks_s k (by decide +kernel)), MVR_q h.2.2.2.2.2.2.2.2.2.2.2.2.1 (ks_s k (by decide +kernel)), CNO_q h.2.2.2.2.2.2.2.2.2.2.2.2.2.1 (ks_s k (by decide +kernel)), CLM_q h.2.2.2.2.2.2.2.2.2.2.2.2.2.2.1 (ks_s k (by decide +kernel)), SUP_q h.2.2.2.2.2.2.2.2.2.2.2.2.2.2.2.1 (ks_s k (by decide +kernel)), KNK_q h.2.2.2.2.2.2.2.2.2.2.2.2.2.2.2.2 (ks_s k (by decide +kernel))⟩
/-- both answers are there -/
def LBo_ (N : Int) (T : Zt) (r1 r2 : Option Zv) : Prop := ∃ x1 x2 : Int, r1 = some (vI x1) ∧ r2 = some (vI x2) ∧ IC_ (N + 1) T ∧ IR_ T ∧ RE_ T
/-- both answers are the same -/
def LQo_ (N : Int) (T : Zt) (r1 r2 : Option Zv) : Prop := ∃ x : Int, r1 = some (vI x) ∧ r2 = some (vI x) ∧ IC_ (N + 1) T ∧ IR_ T ∧ RE_ T
theorem lq_b {N : Int} {T : Zt} {r1 r2 : Option Zv} (h : LQo_ N T r1 r2) : LBo_ N T r1 r2 := by
  obtain ⟨x, h1, h2, h3⟩ := h
  exact ⟨x, x, h1, h2, h3⟩
theorem qm_o {T T' : Zt} {p c f t : Int} {r : Option Zv} (h : po_X11_register_e T p c f t T' r) : po_X11_register T p c f t T' r := by
  obtain ⟨x, e, g, q⟩ := h
  refine ⟨x, e, g, ?_⟩
  rcases q with q | q | q | q | q
  · exact Or.inl q.1
  · exact Or.inr (Or.inl q.1)
  · exact Or.inr (Or.inr (Or.inl q.1))
  · exact Or.inr (Or.inr (Or.inr (Or.inl q.1)))
  · exact Or.inr (Or.inr (Or.inr (Or.inr (by rw [q.1, q.2.2.2.2.2.1]))))
/-- a contract whose post gives P -/
def Cw_ (y : MethodName) (Y : Zm) (T : Zt) (avs : List Zv) (P : Zt → Option Zv → Prop) : Prop := ∃ Qp : Zt → Option Zv → Prop, Ct_ y Y T avs Qp ∧ ∀ T' r, Qp T' r → P T' r
def qx_sign (N : Int) (T : Zt) (c9 : Int) (T' : Zt) (r : Option Zv) : Prop := ∃ x : Int, r = some (vI x) ∧ IC_ (N + 1) T' ∧ IR_ T' ∧ fr_ [(105, [1]), (500, [])] T T' ∧ (((x = -3 ∧ T' 105 0 1 = T 105 0 1 ∧ ¬ (c9 = 10 ∨ 32 ≤ c9 ∧ c9 ≤ 126) ∧ RS9_ 500 T T') ∨ ((c9 = 10 ∨ 32 ≤ c9 ∧ c9 ≤ 126) ∧ T 105 0 1 = 400 ∧ x = -5 ∧ T' 105 0 1 = 400 ∧ RS9_ 500 T T') ∨ ((c9 = 10 ∨ 32 ≤ c9 ∧ c9 ≤ 126) ∧ T 105 0 1 < 400 ∧ x = T 105 0 1 + 1 ∧ T' 105 0 1 = x ∧ SG9_ 500 T T' (T 105 0 1) c9)))
set_option maxRecDepth 100000 in
theorem cx_sign {N : Int} {T : Zt} {c9 : Int} (hT : ok_T T) (ha : al_ T 109 0) (hI : IC_ N T) (hN : 0 ≤ N ∧ N ≤ 511) (hR : IR_ T) (hE : RE_ T) : Cw_ yX10_sign zX10_sign T [vR 110 0, vI c9] (qx_sign N T c9) := by
  refine ⟨_, ct_X10_sign_e , fun T1 r q => ?_⟩
  obtain ⟨x, rfl, f, h⟩ := q
  have g := (ic_sign hI (show po_X10_sign T c9 T1 (some (vI x)) from ⟨x, rfl, f, by omega⟩))
  exact ⟨x, rfl, g, ir_g hR (fr_s f (by decide +kernel)), f, h⟩
def qx_wipe (N : Int) (T : Zt) (T' : Zt) (r : Option Zv) : Prop := ∃ x : Int, r = some (vI x) ∧ IC_ (N + 1) T' ∧ IR_ T' ∧ fr_ [(105, [1])] T T' ∧ ((T' 105 0 1 = 0 ∧ x = T 105 0 1))
set_option maxRecDepth 100000 in
theorem cx_wipe {N : Int} {T : Zt} (hT : ok_T T) (ha : al_ T 109 0) (hI : IC_ N T) (hN : 0 ≤ N ∧ N ≤ 511) (hR : IR_ T) (hE : RE_ T) : Cw_ yX10_wipe zX10_wipe T [vR 110 0] (qx_wipe N T) := by
  refine ⟨_, ct_X10_wipe , fun T1 r q => ?_⟩
  have g := (ic_wipe hI q)
  obtain ⟨x, rfl, f, h⟩ := q
  exact ⟨x, rfl, g, ir_g hR (fr_s f (by decide +kernel)), f, h⟩
def qx_competition (N : Int) (T : Zt) (T' : Zt) (r : Option Zv) : Prop := ∃ x : Int, r = some (vI x) ∧ IC_ (N + 1) T' ∧ IR_ T' ∧ fr_ [(105, [7, 8, 9, 2, 3, 6, 1]), (504, []), (505, []), (106, [2]), (521, []), (150, []), (100, []), (401, []), (402, []), (403, []), (404, [])] T T' ∧ ((fr_ [(105, [7, 8, 9, 2, 3, 6, 1]), (504, []), (505, [])] T T' ∨ nc_ T T') ∧ CH9_ T T' x ∧ CNN_ T T')
set_option maxRecDepth 100000 in
theorem cx_competition {N : Int} {T : Zt} (hT : ok_T T) (ha : al_ T 109 0) (hI : IC_ N T) (hN : 0 ≤ N ∧ N ≤ 511) (hR : IR_ T) (hE : RE_ T) : Cw_ yX10_competition zX10_competition T [vR 110 0] (qx_competition N T) := by
  refine ⟨_, ct_X10_competition_s hI.2.2.1, fun T1 r q => ?_⟩
  obtain ⟨x, rfl, h⟩ := q
  have g := ic_competition hT hI (show po_X10_competition T T1 (some (vI x)) from ⟨x, rfl, h.1⟩)
  have f : fr_ [(105, [7, 8, 9, 2, 3, 6, 1]), (504, []), (505, []), (106, [2]), (521, []), (150, []), (100, []), (401, []), (402, []), (403, []), (404, [])] T T1 := h.1.elim (fun z => fr_s z (by decide +kernel)) (fun z => z.1)
  exact ⟨x, rfl, g, ir_g hR (fr_s f (by decide +kernel)), f, h⟩
def qx_fault (N : Int) (T : Zt) (T' : Zt) (r : Option Zv) : Prop := ∃ x : Int, r = some (vI x) ∧ IC_ (N + 1) T' ∧ IR_ T' ∧ fr_ [] T T' ∧ (x = T 105 0 3)
set_option maxRecDepth 100000 in
theorem cx_fault {N : Int} {T : Zt} (hT : ok_T T) (ha : al_ T 109 0) (hI : IC_ N T) (hN : 0 ≤ N ∧ N ≤ 511) (hR : IR_ T) (hE : RE_ T) : Cw_ yX10_fault zX10_fault T [vR 110 0] (qx_fault N T) := by
  refine ⟨_, ct_X10_fault_e , fun T1 r q => ?_⟩
  obtain ⟨e, x, rfl, h⟩ := q
  subst e
  exact ⟨x, rfl, ic_e hI, hR, fr_0 _ _, h⟩
def qx_rule (N : Int) (T : Zt) (c9 w9 : Int) (T' : Zt) (r : Option Zv) : Prop := ∃ x : Int, r = some (vI x) ∧ IC_ (N + 1) T' ∧ IR_ T' ∧ fr_ [] T T' ∧ ((x = -2 ∧ ¬ (0 ≤ c9 ∧ c9 < T 106 0 2)) ∨ ((0 ≤ c9 ∧ c9 < T 106 0 2) ∧ x = -3 ∧ ¬ (0 ≤ w9 ∧ w9 < 23)) ∨ ((0 ≤ c9 ∧ c9 < T 106 0 2) ∧ (0 ≤ w9 ∧ w9 < 16) ∧ x = T 401 c9 w9) ∨ ((0 ≤ c9 ∧ c9 < T 106 0 2) ∧ (16 ≤ w9 ∧ w9 < 23) ∧ w9 - 16 < T 401 c9 4 ∧ x = T 402 c9 (w9 - 16)) ∨ ((0 ≤ c9 ∧ c9 < T 106 0 2) ∧ (16 ≤ w9 ∧ w9 < 23) ∧ ¬ w9 - 16 < T 401 c9 4 ∧ x = -1))
set_option maxRecDepth 100000 in
theorem cx_rule {N : Int} {T : Zt} {c9 w9 : Int} (hT : ok_T T) (ha : al_ T 109 0) (hI : IC_ N T) (hN : 0 ≤ N ∧ N ≤ 511) (hR : IR_ T) (hE : RE_ T) : Cw_ yX10_rule zX10_rule T [vR 110 0, vI c9, vI w9] (qx_rule N T c9 w9) := by
  refine ⟨_, ct_X10_rule_e hI.1.1, fun T1 r q => ?_⟩
  obtain ⟨e, x, rfl, h⟩ := q
  subst e
  exact ⟨x, rfl, ic_e hI, hR, fr_0 _ _, h⟩
def qx_club (N : Int) (T : Zt) (s9 c9 : Int) (T' : Zt) (r : Option Zv) : Prop := ∃ x : Int, r = some (vI x) ∧ IC_ (N + 1) T' ∧ IR_ T' ∧ fr_ [(108, [2]), (560, []), (561, [])] T T' ∧ ((((x = -3 ∧ ¬ (0 ≤ s9 ∧ s9 ≤ 11 ∧ 0 ≤ c9 ∧ c9 ≤ 7) ∧ T' 108 0 2 = T 108 0 2) ∨ ((0 ≤ s9 ∧ s9 ≤ 11 ∧ 0 ≤ c9 ∧ c9 ≤ 7) ∧ T 108 0 2 = 12 ∧ x = -5 ∧ T' 108 0 2 = T 108 0 2) ∨ ((0 ≤ s9 ∧ s9 ≤ 11 ∧ 0 ≤ c9 ∧ c9 ≤ 7) ∧ T 108 0 2 < 12 ∧ x = T 108 0 2 ∧ T' 108 0 2 = T 108 0 2 + 1)) ∧ TG9_ 108 2 12 560 561 T T' s9 c9 x))
set_option maxRecDepth 100000 in
theorem cx_club {N : Int} {T : Zt} {s9 c9 : Int} (hT : ok_T T) (ha : al_ T 109 0) (hI : IC_ N T) (hN : 0 ≤ N ∧ N ≤ 511) (hR : IR_ T) (hE : RE_ T) : Cw_ yX10_club zX10_club T [vR 110 0, vI s9, vI c9] (qx_club N T s9 c9) := by
  refine ⟨_, ct_X10_club_e , fun T1 r q => ?_⟩
  obtain ⟨x, rfl, f, h⟩ := q
  have g := (ic_club hI (show po_X10_club T s9 c9 T1 (some (vI x)) from ⟨x, rfl, f, h.1⟩))
  exact ⟨x, rfl, g, ir_g hR (fr_s f (by decide +kernel)), f, h⟩
def qx_person (N : Int) (T : Zt) (T' : Zt) (r : Option Zv) : Prop := ∃ x : Int, r = some (vI x) ∧ IC_ (N + 1) T' ∧ IR_ T' ∧ fr_ [(108, [3]), (564, [])] T T' ∧ ((QP_ T T' x))
set_option maxRecDepth 100000 in
theorem cx_person {N : Int} {T : Zt} (hT : ok_T T) (ha : al_ T 109 0) (hI : IC_ N T) (hN : 0 ≤ N ∧ N ≤ 511) (hR : IR_ T) (hE : RE_ T) : Cw_ yX10_person zX10_person T [vR 110 0] (qx_person N T) := by
  refine ⟨_, ct_X10_person_e , fun T1 r q => ?_⟩
  obtain ⟨x, rfl, f, h⟩ := q
  have g := (ic_person hI ⟨x, rfl, f, h.elim (fun z => Or.inr (Or.inl ⟨rfl, z.1, z.2.1, by rw [z.2.2]⟩)) (fun z => Or.inr (Or.inr ⟨rfl, z.1, z.2.1, z.2.2.1⟩))⟩)
  exact ⟨x, rfl, g, ir_g hR (fr_s f (by decide +kernel)), f, h⟩
def qx_register (N : Int) (T : Zt) (p9 cl9 a9 b9 : Int) (T' : Zt) (r : Option Zv) : Prop := ∃ x : Int, r = some (vI x) ∧ IC_ (N + 1) T' ∧ IR_ T' ∧ fr_ [(108, [5]), (566, []), (567, []), (568, []), (569, []), (564, [])] T T' ∧ ((QR_ T T' p9 cl9 a9 b9 x))
set_option maxRecDepth 100000 in
theorem cx_register {N : Int} {T : Zt} {p9 cl9 a9 b9 : Int} (hT : ok_T T) (ha : al_ T 109 0) (hI : IC_ N T) (hN : 0 ≤ N ∧ N ≤ 511) (hR : IR_ T) (hE : RE_ T) : Cw_ yX10_register zX10_register T [vR 110 0, vI p9, vI cl9, vI a9, vI b9] (qx_register N T p9 cl9 a9 b9) := by
  refine ⟨_, ct_X10_register_e hE.2.2.1, fun T1 r q => ?_⟩
  obtain ⟨x, rfl, f, h⟩ := q
  have g := (ic_register (p := p9) (cl := cl9) (a := a9) (b := b9) hI ⟨x, rfl, f, rfl⟩)
  exact ⟨x, rfl, g, ir_g hR (fr_s f (by decide +kernel)), f, h⟩
def qx_official (N : Int) (T : Zt) (s9 c9 : Int) (T' : Zt) (r : Option Zv) : Prop := ∃ x : Int, r = some (vI x) ∧ IC_ (N + 1) T' ∧ IR_ T' ∧ fr_ [(108, [12]), (570, []), (571, [])] T T' ∧ ((((x = -3 ∧ ¬ (0 ≤ s9 ∧ s9 ≤ 11 ∧ 0 ≤ c9 ∧ c9 ≤ 7) ∧ T' 108 0 12 = T 108 0 12) ∨ ((0 ≤ s9 ∧ s9 ≤ 11 ∧ 0 ≤ c9 ∧ c9 ≤ 7) ∧ T 108 0 12 = 8 ∧ x = -5 ∧ T' 108 0 12 = T 108 0 12) ∨ ((0 ≤ s9 ∧ s9 ≤ 11 ∧ 0 ≤ c9 ∧ c9 ≤ 7) ∧ T 108 0 12 < 8 ∧ x = T 108 0 12 ∧ T' 108 0 12 = T 108 0 12 + 1)) ∧ TG9_ 108 12 8 570 571 T T' s9 c9 x))
set_option maxRecDepth 100000 in
theorem cx_official {N : Int} {T : Zt} {s9 c9 : Int} (hT : ok_T T) (ha : al_ T 109 0) (hI : IC_ N T) (hN : 0 ≤ N ∧ N ≤ 511) (hR : IR_ T) (hE : RE_ T) : Cw_ yX10_official zX10_official T [vR 110 0, vI s9, vI c9] (qx_official N T s9 c9) := by
  refine ⟨_, ct_X10_official_e , fun T1 r q => ?_⟩
  obtain ⟨x, rfl, f, h⟩ := q
  have g := (ic_official hI (show po_X10_official T s9 c9 T1 (some (vI x)) from ⟨x, rfl, f, h.1⟩))
  exact ⟨x, rfl, g, ir_g hR (fr_s f (by decide +kernel)), f, h⟩
def qx_day (N : Int) (T : Zt) (d9 : Int) (T' : Zt) (r : Option Zv) : Prop := ∃ x : Int, r = some (vI x) ∧ IC_ (N + 1) T' ∧ IR_ T' ∧ fr_ [(108, [13])] T T' ∧ (((x = -3 ∧ ¬ (T 108 0 13 < d9 ∧ d9 ≤ 999) ∧ T' 108 0 13 = T 108 0 13) ∨ (T 108 0 13 < d9 ∧ d9 ≤ 999 ∧ x = T 108 0 13 ∧ T' 108 0 13 = d9)))
set_option maxRecDepth 100000 in
theorem cx_day {N : Int} {T : Zt} {d9 : Int} (hT : ok_T T) (ha : al_ T 109 0) (hI : IC_ N T) (hN : 0 ≤ N ∧ N ≤ 511) (hR : IR_ T) (hE : RE_ T) : Cw_ yX10_day zX10_day T [vR 110 0, vI d9] (qx_day N T d9) := by
  refine ⟨_, ct_X10_day , fun T1 r q => ?_⟩
  have g := (ic_day hI q)
  obtain ⟨x, rfl, f, h⟩ := q
  exact ⟨x, rfl, g, ir_g hR (fr_s f (by decide +kernel)), f, h⟩
def qx_enter (N : Int) (T : Zt) (c9 b9 : Int) (T' : Zt) (r : Option Zv) : Prop := ∃ x : Int, r = some (vI x) ∧ IC_ (N + 1) T' ∧ IR_ T' ∧ fr_ [(404, []), (403, []), (100, [5])] T T' ∧ ((KE_ T' ∧ (∀ d z, 0 ≤ T 404 d z → 0 ≤ T' 404 d z) ∧ EH9_ T T' c9 b9 x))
set_option maxRecDepth 100000 in
theorem cx_enter {N : Int} {T : Zt} {c9 b9 : Int} (hT : ok_T T) (ha : al_ T 109 0) (hI : IC_ N T) (hN : 0 ≤ N ∧ N ≤ 511) (hR : IR_ T) (hE : RE_ T) : Cw_ yX10_enter zX10_enter T [vR 110 0, vI c9, vI b9] (qx_enter N T c9 b9) := by
  refine ⟨_, ct_X10_enter_e hI.1.1 hI.1.2.2.2.2.2.2.1, fun T1 r q => ?_⟩
  obtain ⟨x, rfl, f, h⟩ := q
  have g := (ic_enter hI (show po_X10_enter_k T c9 b9 T1 (some (vI x)) from ⟨x, rfl, f, h.1, h.2.1⟩))
  exact ⟨x, rfl, g, ir_g hR (fr_s f (by decide +kernel)), f, h⟩
def qx_plan (N : Int) (T : Zt) (c9 b9 : Int) (T' : Zt) (r : Option Zv) : Prop := ∃ x : Int, r = some (vI x) ∧ IC_ (N + 1) T' ∧ IR_ T' ∧ fr_ [(106, [4]), (523, []), (152, []), (102, []), (448, []), (449, []), (100, [6, 7, 8])] T T' ∧ ((T' = T ∨ SJ_ T T' c9) ∧ PH9_ T T' c9 b9 x ∧ SQ8_ T T')
set_option maxRecDepth 100000 in
theorem cx_plan {N : Int} {T : Zt} {c9 b9 : Int} (hT : ok_T T) (ha : al_ T 109 0) (hI : IC_ N T) (hN : 0 ≤ N ∧ N ≤ 511) (hR : IR_ T) (hE : RE_ T) : Cw_ yX10_plan zX10_plan T [vR 110 0, vI c9, vI b9] (qx_plan N T c9 b9) := by
  refine ⟨_, ct_X10_plan_s hI.1.1 hI.1.2.2.2.2.2.2.1 hI.1.2.2.2.2.2.2.2.1 hI.2.2.1, fun T1 r q => ?_⟩
  obtain ⟨x, rfl, h⟩ := q
  have g := ic_plan hT hI (show po_X10_plan T c9 b9 T1 (some (vI x)) from ⟨x, rfl, h.1⟩)
  have f : fr_ [(106, [4]), (523, []), (152, []), (102, []), (448, []), (449, []), (100, [6, 7, 8])] T T1 := h.1.elim (fun z => by rw [z]; exact fr_0 _ _) (fun z => z.2.1)
  exact ⟨x, rfl, g, ir_g hR (fr_s f (by decide +kernel)), f, h⟩
def qx_match (N : Int) (T : Zt) (m9 w9 : Int) (T' : Zt) (r : Option Zv) : Prop := ∃ x : Int, r = some (vI x) ∧ IC_ (N + 1) T' ∧ IR_ T' ∧ fr_ [] T T' ∧ ((x = -2 ∧ ¬ (0 ≤ m9 ∧ m9 < T 106 0 4)) ∨ ((0 ≤ m9 ∧ m9 < T 106 0 4) ∧ ((w9 = 0 ∧ x = T 100 (T 102 m9 0) 0) ∨ (w9 = 1 ∧ x = T 102 m9 2) ∨ (w9 = 2 ∧ x = T 102 m9 3) ∨ (w9 = 3 ∧ x = T 102 m9 4) ∨ (w9 = 4 ∧ x = T 102 m9 5) ∨ (w9 = 5 ∧ ((T 102 m9 6 ≠ -1 ∧ x = 3) ∨ (T 102 m9 6 = -1 ∧ ((T 102 m9 10 = 0 ∧ x = 0) ∨ (T 102 m9 10 ≠ 0 ∧ ((T 103 m9 3 = 0 ∧ x = 1) ∨ (T 103 m9 3 ≠ 0 ∧ x = 2))))))) ∨ (w9 = 6 ∧ ((T 102 m9 6 ≠ -1 ∧ ((0 = T 102 m9 6 ∧ x = 0) ∨ (0 ≠ T 102 m9 6 ∧ x = T 401 (T 102 m9 0) 12))) ∨ (T 102 m9 6 = -1 ∧ ((T 102 m9 10 = 0 ∧ x = 0) ∨ (T 102 m9 10 ≠ 0 ∧ x = T 468 m9 0))))) ∨ (w9 = 7 ∧ ((T 102 m9 6 ≠ -1 ∧ ((1 = T 102 m9 6 ∧ x = 0) ∨ (1 ≠ T 102 m9 6 ∧ x = T 401 (T 102 m9 0) 12))) ∨ (T 102 m9 6 = -1 ∧ ((T 102 m9 10 = 0 ∧ x = 0) ∨ (T 102 m9 10 ≠ 0 ∧ x = T 468 m9 1))))) ∨ (¬ (0 ≤ w9 ∧ w9 ≤ 7) ∧ x = -3))))
set_option maxRecDepth 100000 in
theorem cx_match {N : Int} {T : Zt} {m9 w9 : Int} (hT : ok_T T) (ha : al_ T 109 0) (hI : IC_ N T) (hN : 0 ≤ N ∧ N ≤ 511) (hR : IR_ T) (hE : RE_ T) : Cw_ yX10_match zX10_match T [vR 110 0, vI m9, vI w9] (qx_match N T m9 w9) := by
  refine ⟨_, ct_X10_match_e hI.1.1, fun T1 r q => ?_⟩
  obtain ⟨e, x, rfl, h⟩ := q
  subst e
  exact ⟨x, rfl, ic_e hI, hR, fr_0 _ _, h⟩
def qx_breaks (N : Int) (T : Zt) (c9 cl9 : Int) (T' : Zt) (r : Option Zv) : Prop := ∃ x : Int, r = some (vI x) ∧ IC_ (N + 1) T' ∧ IR_ T' ∧ fr_ [] T T' ∧ (BH9_ T c9 cl9 x)
set_option maxRecDepth 100000 in
theorem cx_breaks {N : Int} {T : Zt} {c9 cl9 : Int} (hT : ok_T T) (ha : al_ T 109 0) (hI : IC_ N T) (hN : 0 ≤ N ∧ N ≤ 511) (hR : IR_ T) (hE : RE_ T) : Cw_ yX10_breaks zX10_breaks T [vR 110 0, vI c9, vI cl9] (qx_breaks N T c9 cl9) := by
  refine ⟨_, ct_X10_breaks_e hI.1.1 hI.1.2.2.1, fun T1 r q => ?_⟩
  obtain ⟨e, x, rfl, h⟩ := q
  subst e
  exact ⟨x, rfl, ic_e hI, hR, fr_0 _ _, h⟩
def qx_postpone (N : Int) (T : Zt) (m9 d9 : Int) (T' : Zt) (r : Option Zv) : Prop := ∃ x : Int, r = some (vI x) ∧ IC_ (N + 1) T' ∧ IR_ T' ∧ fr_ [(535, []), (534, []), (102, [5]), (533, []), (531, []), (106, [12])] T T' ∧ (((x = -2 ∧ ¬ (0 ≤ m9 ∧ m9 < T 106 0 4) ∧ T = T') ∨ ((0 ≤ m9 ∧ m9 < T 106 0 4) ∧ ((x = -3 ∧ ¬ (T 108 0 13 < d9 ∧ d9 ≤ 999 ∧ 0 ≤ d9) ∧ T = T') ∨ ((T 108 0 13 < d9 ∧ d9 ≤ 999 ∧ 0 ≤ d9) ∧ ((x = -4 ∧ ¬ ((T 102 m9 6 = -1 ∧ T 102 m9 10 = 0) ∧ T 102 m9 5 ≠ d9) ∧ T = T') ∨ (((T 102 m9 6 = -1 ∧ T 102 m9 10 = 0) ∧ T 102 m9 5 ≠ d9) ∧ PTO_ T T' m9 d9 x)))))))
set_option maxRecDepth 100000 in
theorem cx_postpone {N : Int} {T : Zt} {m9 d9 : Int} (hT : ok_T T) (ha : al_ T 109 0) (hI : IC_ N T) (hN : 0 ≤ N ∧ N ≤ 511) (hR : IR_ T) (hE : RE_ T) : Cw_ yX10_postpone zX10_postpone T [vR 110 0, vI m9, vI d9] (qx_postpone N T m9 d9) := by
  refine ⟨_, ct_X10_postpone_f hI.1.1 hI.1.2.1, fun T1 r q => ?_⟩
  obtain ⟨x, rfl, f, h⟩ := q
  have g := (ic_postpone hI (show po_X10_postpone_k T m9 d9 T1 (some (vI x)) from ⟨x, rfl, f, dd_q hI.2.1 (f 106 0 4 rfl) (bd_f hT 106 4 tl_6_4 0).1 h⟩))
  exact ⟨x, rfl, g, ir_g hR (fr_s f (by decide +kernel)), f, h⟩
def qx_moved (N : Int) (T : Zt) (k9 : Int) (T' : Zt) (r : Option Zv) : Prop := ∃ x : Int, r = some (vI x) ∧ IC_ (N + 1) T' ∧ IR_ T' ∧ fr_ [] T T' ∧ ((0 ≤ k9 ∧ k9 < T 106 0 12 ∧ x = T 531 0 k9) ∨ (¬ (0 ≤ k9 ∧ k9 < T 106 0 12) ∧ x = -1))
set_option maxRecDepth 100000 in
theorem cx_moved {N : Int} {T : Zt} {k9 : Int} (hT : ok_T T) (ha : al_ T 109 0) (hI : IC_ N T) (hN : 0 ≤ N ∧ N ≤ 511) (hR : IR_ T) (hE : RE_ T) : Cw_ yX10_moved zX10_moved T [vR 110 0, vI k9] (qx_moved N T k9) := by
  refine ⟨_, ct_X10_moved_e , fun T1 r q => ?_⟩
  obtain ⟨e, x, rfl, h⟩ := q
  subst e
  exact ⟨x, rfl, ic_e hI, hR, fr_0 _ _, h⟩
def qx_deduct (N : Int) (T : Zt) (c9 cl9 p9 : Int) (T' : Zt) (r : Option Zv) : Prop := ∃ x : Int, r = some (vI x) ∧ IC_ (N + 1) T' ∧ IR_ T' ∧ fr_ [(106, [6]), (527, []), (528, []), (529, []), (530, [])] T T' ∧ ((DH9_ T T' c9 cl9 p9 x))
set_option maxRecDepth 100000 in
theorem cx_deduct {N : Int} {T : Zt} {c9 cl9 p9 : Int} (hT : ok_T T) (ha : al_ T 109 0) (hI : IC_ N T) (hN : 0 ≤ N ∧ N ≤ 511) (hR : IR_ T) (hE : RE_ T) : Cw_ yX10_deduct zX10_deduct T [vR 110 0, vI c9, vI cl9, vI p9] (qx_deduct N T c9 cl9 p9) := by
  refine ⟨_, ct_X10_deduct_e hI.1.1, fun T1 r q => ?_⟩
  obtain ⟨x, rfl, f, h⟩ := q
  have g := (ic_deduct hI (show po_X10_deduct T c9 cl9 p9 T1 (some (vI x)) from ⟨x, rfl, f, rfl⟩))
  exact ⟨x, rfl, g, ir_g hR (fr_s f (by decide +kernel)), f, h⟩
