-- each call of the law: what holds between the calls is kept by both sides
def LCla_ : List (Nat × List Int) := [(100, []), (101, []), (102, []), (103, []), (104, []), (105, []), (106, []), (107, []), (108, []), (109, []), (110, []), (150, []), (152, []), (153, []), (190, []), (191, []), (400, []), (401, []), (402, []), (403, []), (404, []), (405, []), (406, []), (407, []), (408, []), (409, []), (410, []), (411, []), (412, []), (413, []), (414, []), (415, []), (416, []), (417, []), (418, []), (419, []), (420, []), (421, []), (422, []), (423, []), (424, []), (425, []), (426, []), (427, []), (428, []), (429, []), (430, []), (431, []), (432, []), (433, []), (434, []), (435, []), (436, []), (437, []), (438, []), (439, []), (440, []), (441, []), (442, []), (443, []), (444, []), (445, []), (446, []), (447, []), (448, []), (449, []), (450, []), (451, []), (452, []), (453, []), (454, []), (455, []), (456, []), (457, []), (458, []), (459, []), (460, []), (461, []), (462, []), (463, []), (464, []), (465, []), (466, []), (467, []), (468, []), (469, []), (470, []), (471, []), (472, []), (473, []), (474, []), (475, []), (476, []), (477, []), (478, []), (479, []), (480, []), (481, []), (482, []), (483, []), (484, []), (485, []), (486, []), (487, []), (488, []), (489, []), (490, []), (491, []), (492, []), (493, []), (494, []), (495, []), (496, []), (497, []), (498, []), (499, []), (500, []), (501, []), (502, []), (503, []), (504, []), (505, []), (506, []), (507, []), (508, []), (509, []), (510, []), (511, []), (512, []), (513, []), (514, []), (515, []), (516, []), (517, []), (518, []), (519, []), (520, []), (521, []), (522, []), (523, []), (524, []), (525, []), (526, []), (527, []), (528, []), (529, []), (530, []), (531, []), (532, []), (533, []), (534, []), (535, []), (536, []), (537, []), (538, []), (539, []), (540, []), (541, []), (542, []), (543, []), (544, []), (545, []), (546, []), (547, []), (548, []), (549, []), (550, []), (551, []), (552, []), (553, []), (554, []), (555, []), (556, []), (557, []), (558, []), (559, []), (560, []), (561, []), (562, []), (563, []), (564, []), (565, []), (566, []), (567, []), (568, []), (569, []), (570, []), (571, []), (572, []), (573, []), (574, []), (575, []), (576, []), (577, []), (578, []), (579, []), (580, []), (581, []), (582, []), (583, []), (584, []), (585, []), (586, []), (587, []), (588, []), (589, []), (590, []), (591, []), (592, []), (593, []), (594, []), (595, []), (596, []), (597, []), (598, []), (599, [])]
def LRef_ : List (Nat × List Int) := [(111, []), (200, []), (201, []), (202, []), (203, []), (204, []), (205, []), (206, []), (207, []), (208, []), (209, []), (210, []), (211, []), (212, []), (213, []), (214, []), (215, []), (216, []), (217, []), (218, []), (219, []), (220, []), (221, []), (222, []), (223, []), (224, []), (225, []), (226, []), (227, []), (228, []), (229, []), (230, []), (231, []), (232, []), (233, []), (234, []), (235, []), (236, []), (237, []), (238, []), (239, []), (240, []), (241, []), (242, []), (243, []), (244, []), (245, []), (246, []), (247, []), (248, []), (249, []), (250, []), (251, []), (252, []), (253, []), (254, []), (255, []), (256, []), (257, []), (258, []), (259, []), (260, []), (261, []), (262, []), (263, []), (264, []), (265, []), (266, []), (267, []), (268, []), (269, []), (270, []), (271, []), (272, []), (273, []), (274, []), (275, []), (276, []), (277, []), (278, []), (279, []), (280, []), (281, []), (282, []), (283, []), (284, []), (285, []), (286, []), (287, []), (288, []), (289, []), (290, []), (291, []), (292, []), (293, []), (294, []), (295, []), (296, []), (297, []), (298, []), (299, []), (300, []), (301, []), (302, []), (303, []), (304, []), (305, []), (306, []), (307, []), (308, []), (309, []), (310, []), (311, []), (312, []), (313, [])]
set_option maxRecDepth 100000 in
set_option maxHeartbeats 4000000 in
theorem ir_g {T T' : Zt} (h : IR_ T) (f : fr_ LCla_ T T') : IR_ T' := by
  exact ⟨CW_f h.1 f ⟨fun _ => rfl, fun _ => rfl, fun _ => rfl, fun _ => rfl, fun _ => rfl⟩, RI__f h.2.1 f ⟨fun _ => rfl, rfl, trivial⟩, RW__f h.2.2.1 f ⟨fun _ => rfl, rfl, trivial⟩, EN__f h.2.2.2.1 f ⟨fun _ => rfl, fun _ => rfl, rfl, trivial⟩, ML__f h.2.2.2.2.1 f ⟨fun _ => rfl, fun _ => rfl, rfl, trivial⟩, MC__f h.2.2.2.2.2.1 f ⟨fun _ => rfl, rfl, rfl, trivial⟩, SH__f h.2.2.2.2.2.2.1 f ⟨fun _ => rfl, fun _ => rfl, fun _ => rfl, rfl, trivial⟩, FM__f h.2.2.2.2.2.2.2.1 f ⟨fun _ => rfl, fun _ => rfl, trivial⟩, rx_f h.2.2.2.2.2.2.2.2.1 (f 111 0 29 rfl) (f 111 0 47 rfl) (fun k j h => f k 0 j (by rcases h with rfl | rfl | rfl | rfl | rfl <;> rfl)), rz_f h.2.2.2.2.2.2.2.2.2.1 (f 111 0 29 rfl) (fun j => f 254 0 j rfl) (fun j => f 256 0 j rfl), ZS__f h.2.2.2.2.2.2.2.2.2.2.1 f ⟨fun _ => rfl, fun _ => rfl, trivial⟩, gx_f (x := -1) (y := -1) h.2.2.2.2.2.2.2.2.2.2.2 f ⟨fun _ => rfl, fun _ => rfl, fun _ => rfl⟩ (fun j _ => f 254 0 j rfl) (Or.inl rfl)⟩
theorem ic_h {N : Int} {ws : List (Nat × List Int)} {T T' : Zt} (h : IC_ N T) (f : fr_ ws T T') (w : wt8_ ws) (w2 : fw_ ws 102 5 = false ∧ fw_ ws 102 6 = false) (wn : wn_ ws) (wl : wl_ ws) (w9 : fw_ ws 109 15 = false ∧ fw_ ws 190 (-2) = false ∧ fw_ ws 191 0 = false) : IC_ N T' := by
  obtain ⟨k, d, n, l, s, b1, b2⟩ := h
  have e9 := f 191 0 0 w9.2.2
  refine ⟨ic_t k f w, DD__f d f ⟨w.2.2.1.1, w.2.2.1.2.2.1, w2.1, w2.2, w.2.1.2, trivial⟩, NA_f n f wn, LP_f l (by omega) (lh_f lh_r f w9.2.1 w9.2.2) f wl, ?_, by omega, by omega⟩
  rw [f 109 0 15 w9.1, f 190 _ _ w9.2.1]
  exact s
set_option maxRecDepth 100000 in
set_option maxHeartbeats 4000000 in
theorem ic_g {N : Int} {T T' : Zt} (h : IC_ N T) (f : fr_ LRef_ T T') : IC_ N T' := ic_h h f ⟨⟨fun _ => rfl, fun _ => rfl, fun _ => rfl, fun _ => rfl, fun _ => rfl⟩, ⟨rfl, rfl⟩, ⟨rfl, rfl, rfl, rfl⟩, rfl, rfl, rfl, rfl⟩ ⟨rfl, rfl⟩ ⟨rfl, rfl, rfl, rfl, rfl, rfl, rfl, rfl, rfl⟩ ⟨rfl, rfl, rfl, rfl, rfl, rfl, rfl, rfl, rfl, rfl, rfl⟩ ⟨rfl, rfl, rfl⟩
def FCNR_ : List (Nat × List Int) := [(108, [2, 3, 12, 13]), (111, [12, 15, 21, 3])]
theorem CNR_q {T T' : Zt} (h : CNR_ T) (k : ks_ FCNR_ T T') : CNR_ T' := by
  have e := fun j (q : fw_ FCNR_ 108 j = true) => k 108 0 j q
  have g := fun j (q : fw_ FCNR_ 111 j = true) => k 111 0 j q
  obtain ⟨h1, h2, h3, h4⟩ := h
  exact ⟨by rw [e 2 rfl, g 12 rfl]; exact h1, by rw [e 3 rfl, g 15 rfl]; exact h2, by rw [e 12 rfl, g 21 rfl]; exact h3, by rw [e 13 rfl, g 3 rfl]; exact h4⟩
def FTHR_ : List (Nat × List Int) := [(108, [2, 12]), (560, []), (561, []), (570, []), (571, []), (213, []), (214, []), (222, []), (223, [])]
theorem THR_q {T T' : Zt} (h : THR_ T) (k : ks_ FTHR_ T T') : THR_ T' := by
  refine ⟨fun j a b => ?_, fun j a b => ?_⟩
  · rw [k 108 0 2 rfl] at b
    rw [k 560 0 j rfl, k 561 0 j rfl, k 213 0 j rfl, k 214 0 j rfl]
    exact h.1 j a b
  · rw [k 108 0 12 rfl] at b
    rw [k 570 0 j rfl, k 571 0 j rfl, k 222 0 j rfl, k 223 0 j rfl]
    exact h.2 j a b
def FSPR_ : List (Nat × List Int) := [(108, [3, 5]), (564, []), (566, []), (567, []), (568, []), (569, []), (111, [16]), (217, []), (218, []), (219, []), (220, [])]
theorem SPR_q {T T' : Zt} (h : SPR_ T) (k : ks_ FSPR_ T T') : SPR_ T' := spr_k h (k 108 0 3 rfl) ⟨k 108 0 5 rfl, fun j => k 566 0 j rfl, fun j => k 567 0 j rfl, fun j => k 568 0 j rfl, fun j => k 569 0 j rfl⟩ (fun j => k 564 0 j rfl) ⟨k 111 0 16 rfl, fun j => k 217 0 j rfl, fun j => k 218 0 j rfl, fun j => k 219 0 j rfl, fun j => k 220 0 j rfl⟩
def FTXR_ : List (Nat × List Int) := [(105, [1, 3]), (106, [2]), (500, []), (401, []), (402, []), (111, [1, 2, 6]), (200, []), (205, [])]
theorem TXR_q {T T' : Zt} (h : TXR_ T) (k : ks_ FTXR_ T T') : TXR_ T' := txr_k h ⟨k 105 0 1 rfl, k 105 0 3 rfl, k 106 0 2 rfl, fun j => k 500 0 j rfl, fun c j => k 401 c j rfl, fun c j => k 402 c j rfl⟩ ⟨k 111 0 1 rfl, k 111 0 2 rfl, k 111 0 6 rfl, fun j => k 200 0 j rfl, fun j => k 205 0 j rfl⟩
def FENR_ : List (Nat × List Int) := [(106, [2]), (100, [5, 6, 7, 8]), (403, []), (404, []), (207, []), (208, []), (209, []), (210, []), (211, [])]
theorem ENR_q {T T' : Zt} (h : ENR_ T) (k : ks_ FENR_ T T') : ENR_ T' := enr_k h (k 106 0 2 rfl) ⟨fun c => ⟨k 100 c 5 rfl, k 100 c 6 rfl, k 100 c 7 rfl, k 100 c 8 rfl⟩, fun c j => k 403 c j rfl, fun c j => k 404 c j rfl⟩ ⟨fun j => k 207 0 j rfl, fun j => ⟨k 208 0 j rfl, k 209 0 j rfl, k 210 0 j rfl, k 211 0 j rfl⟩⟩
def FMAR_ : List (Nat × List Int) := [(106, [4]), (102, [0, 2, 3, 4]), (111, [29]), (230, []), (231, []), (232, []), (233, [])]
theorem MAR_q {T T' : Zt} (h : MAR_ T) (k : ks_ FMAR_ T T') : MAR_ T' := mar_k h ⟨k 106 0 4 rfl, fun m => ⟨k 102 m 0 rfl, k 102 m 2 rfl, k 102 m 3 rfl, k 102 m 4 rfl⟩⟩ ⟨k 111 0 29 rfl, fun m => ⟨k 230 0 m rfl, k 231 0 m rfl, k 232 0 m rfl, k 233 0 m rfl⟩⟩
def FDER_ : List (Nat × List Int) := [(106, [6]), (527, []), (528, []), (529, []), (530, []), (111, [24]), (225, []), (226, []), (227, []), (228, [])]
theorem DER_q {T T' : Zt} (h : DER_ T) (k : ks_ FDER_ T T') : DER_ T' := der_k h ⟨k 106 0 6 rfl, fun j => k 527 0 j rfl, fun j => k 528 0 j rfl, fun j => k 529 0 j rfl, fun j => k 530 0 j rfl⟩ ⟨k 111 0 24 rfl, fun j => k 225 0 j rfl, fun j => k 226 0 j rfl, fun j => k 227 0 j rfl, fun j => k 228 0 j rfl⟩
def FPLR_ : List (Nat × List Int) := [(102, [0, 6, 10]), (103, []), (448, []), (449, []), (466, []), (467, []), (468, []), (469, []), (470, []), (471, []), (472, []), (473, []), (401, []), (190, []), (106, [4]), (111, [29]), (235, []), (236, []), (237, []), (239, []), (240, []), (241, []), (242, []), (243, []), (244, []), (245, []), (246, []), (248, []), (249, []), (250, []), (251, []), (252, []), (253, []), (254, []), (256, [])]
theorem PLR_q {T T' : Zt} (h : PLR_ T) (k : ks_ FPLR_ T T') : PLR_ T' := plr_k h (ks_s k (by decide +kernel)) (ks_s k (by decide +kernel)) (k 106 0 4 rfl) (k 111 0 29 rfl)
def FLDR_ : List (Nat × List Int) := [(104, [4]), (109, [15]), (191, [0]), (106, [4]), (102, [10]), (103, [14, 16])]
theorem LDR_q {T T' : Zt} (h : LDR_ T) (k : ks_ FLDR_ T T') : LDR_ T' := ldr_k h ⟨k 104 0 4 rfl, k 109 0 15 rfl, k 191 0 0 rfl, k 106 0 4 rfl⟩ (fun m => ⟨k 102 m 10 rfl, k 103 m 14 rfl, k 103 m 16 rfl⟩)
def FRCR_ : List (Nat × List Int) := [(106, [5]), (111, [47])]
theorem RCR_q {T T' : Zt} (h : RCR_ T) (k : ks_ FRCR_ T T') : RCR_ T' := by
  show T' 106 0 5 = T' 111 0 47
  rw [k 106 0 5 rfl, k 111 0 47 rfl]
  exact h
def FDAR_ : List (Nat × List Int) := [(106, [4]), (102, [5]), (234, [])]
theorem DAR_q {T T' : Zt} (h : DAR_ T) (k : ks_ FDAR_ T T') : DAR_ T' := fun m a b => by
  rw [k 106 0 4 rfl] at b
  rw [k 102 m 5 rfl, k 234 0 m rfl]
  exact h m a b
def FMVR_ : List (Nat × List Int) := [(106, [12]), (531, []), (111, [75]), (274, [])]
theorem MVR_q {T T' : Zt} (h : MVR_ T) (k : ks_ FMVR_ T T') : MVR_ T' := ⟨by rw [k 106 0 12 rfl, k 111 0 75 rfl]; exact h.1, fun j a b => by rw [k 106 0 12 rfl] at b; rw [k 531 0 j rfl, k 274 0 j rfl]; exact h.2 j a b⟩
def FCNO_ : List (Nat × List Int) := [(106, [2]), (100, [0])]
theorem CNO_q {T T' : Zt} (h : CNO_ T) (k : ks_ FCNO_ T T') : CNO_ T' := fun c a b => by
  rw [k 106 0 2 rfl] at b
  rw [k 100 c 0 rfl]
  exact h c a b
def FCLM_ : List (Nat × List Int) := [(106, [4]), (102, [3, 4]), (108, [2])]
theorem CLM_q {T T' : Zt} (h : CLM_ T) (k : ks_ FCLM_ T T') : CLM_ T' := fun m a b => by
  rw [k 106 0 4 rfl] at b
  rw [k 102 m 3 rfl, k 102 m 4 rfl, k 108 0 2 rfl]
  exact h m a b
def FSUP_ : List (Nat × List Int) := [(111, [80])]
theorem SUP_q {T T' : Zt} (h : SUP_ T) (k : ks_ FSUP_ T T') : SUP_ T' := (k 111 0 80 rfl).trans h
def FKNK_ : List (Nat × List Int) := [(106, [2]), (401, []), (402, [])]
theorem KNK_q {T T' : Zt} (h : KNK_ T) (k : ks_ FKNK_ T T') : KNK_ T' := fun c a b j j0 j1 j2 => by
  rw [k 106 0 2 rfl] at b
  rw [k 401 c 4 rfl] at j2
  rw [k 402 c j rfl]
  exact h c a b j j0 j1 j2
def FHNA_ : List (Nat × List Int) := [(106, [4]), (102, [3, 4])]
theorem HNA_q {T T' : Zt} (h : HNA_ T) (k : ks_ FHNA_ T T') : HNA_ T' := fun m a b => by
  rw [k 106 0 4 rfl] at b
  rw [k 102 m 3 rfl, k 102 m 4 rfl]
  exact h m a b
def FWIT_ : List (Nat × List Int) := [(109, [2]), (111, [88]), (106, [2, 4]), (100, [6]), (102, [0]), (584, []), (289, [])]
theorem WIT_q {T T' : Zt} (h : WIT_ T) (k : ks_ FWIT_ T T') : WIT_ T' := wit_k h (k 109 0 2 rfl) (k 111 0 88 rfl) (k 106 0 2 rfl) (k 106 0 4 rfl) (fun c => k 100 c 6 rfl) (fun m => k 102 m 0 rfl) (fun m => k 584 0 m rfl) (fun m => k 289 0 m rfl)
def FCUT_ : List (Nat × List Int) := [(109, [3]), (111, [90])]
theorem CUT_q {T T' : Zt} (h : CUT_ T) (k : ks_ FCUT_ T T') : CUT_ T' := (k 109 0 3 rfl).trans (Eq.trans h (k 111 0 90 rfl).symm)
/-- what is alike on both sides -/
def RE_ (T : Zt) : Prop := CNR_ T ∧ THR_ T ∧ SPR_ T ∧ TXR_ T ∧ ENR_ T ∧ MAR_ T ∧ DER_ T ∧ PLR_ T ∧ LDR_ T ∧ RCR_ T ∧ DAR_ T ∧ MVR_ T ∧ CNO_ T ∧ CLM_ T ∧ SUP_ T ∧ KNK_ T ∧ HNA_ T ∧ WIT_ T ∧ CUT_ T
def FALL_ : List (Nat × List Int) := [(108, [2, 3, 5, 12, 13]), (111, [1, 2, 3, 6, 12, 15, 16, 21, 24, 29, 47, 75, 80, 88, 90]), (560, []), (561, []), (570, []), (571, []), (213, []), (214, []), (222, []), (223, []), (564, []), (566, []), (567, []), (568, []), (569, []), (217, []), (218, []), (219, []), (220, []), (105, [1, 3]), (106, [2, 4, 5, 6, 12]), (500, []), (401, []), (402, []), (200, []), (205, []), (100, [0, 5, 6, 7, 8]), (403, []), (404, []), (207, []), (208, []), (209, []), (210, []), (211, []), (102, [0, 2, 3, 4, 5, 6, 10]), (230, []), (231, []), (232, []), (233, []), (527, []), (528, []), (529, []), (530, []), (225, []), (226, []), (227, []), (228, []), (103, []), (448, []), (449, []), (466, []), (467, []), (468, []), (469, []), (470, []), (471, []), (472, []), (473, []), (190, []), (235, []), (236, []), (237, []), (239, []), (240, []), (241, []), (242, []), (243, []), (244, []), (245, []), (246, []), (248, []), (249, []), (250, []), (251, []), (252, []), (253, []), (254, []), (256, []), (104, [4]), (109, [2, 3, 15]), (191, [0]), (234, []), (531, []), (274, []), (584, []), (289, [])]
theorem RE_q {T T' : Zt} (h : RE_ T) (k : ks_ FALL_ T T') : RE_ T' := ⟨CNR_q h.1 (ks_s k (by decide +kernel)), THR_q h.2.1 (ks_s k (by decide +kernel)), SPR_q h.2.2.1 (ks_s k (by decide +kernel)), TXR_q h.2.2.2.1 (ks_s k (by decide +kernel)), ENR_q h.2.2.2.2.1 (ks_s k (by decide +kernel)), MAR_q h.2.2.2.2.2.1 (ks_s k (by decide +kernel)), DER_q h.2.2.2.2.2.2.1 (ks_s k (by decide +kernel)), PLR_q h.2.2.2.2.2.2.2.1 (ks_s k (by decide +kernel)), LDR_q h.2.2.2.2.2.2.2.2.1 (ks_s k (by decide +kernel)), RCR_q h.2.2.2.2.2.2.2.2.2.1 (ks_s k (by decide +kernel)), DAR_q h.2.2.2.2.2.2.2.2.2.2.1 (ks_s k (by decide +kernel)), MVR_q h.2.2.2.2.2.2.2.2.2.2.2.1 (ks_s k (by decide +kernel)), CNO_q h.2.2.2.2.2.2.2.2.2.2.2.2.1 (ks_s k (by decide +kernel)), CLM_q h.2.2.2.2.2.2.2.2.2.2.2.2.2.1 (ks_s k (by decide +kernel)), SUP_q h.2.2.2.2.2.2.2.2.2.2.2.2.2.2.1 (ks_s k (by decide +kernel)), KNK_q h.2.2.2.2.2.2.2.2.2.2.2.2.2.2.2.1 (ks_s k (by decide +kernel)), HNA_q h.2.2.2.2.2.2.2.2.2.2.2.2.2.2.2.2.1 (ks_s k (by decide +kernel)), WIT_q h.2.2.2.2.2.2.2.2.2.2.2.2.2.2.2.2.2.1 (ks_s k (by decide +kernel)), CUT_q h.2.2.2.2.2.2.2.2.2.2.2.2.2.2.2.2.2.2 (ks_s k (by decide +kernel))⟩
/-- both answers are there -/
def LBo_ (N : Int) (T : Zt) (r1 r2 : Option Zv) : Prop := ∃ x1 x2 : Int, r1 = some (vI x1) ∧ r2 = some (vI x2) ∧ IC_ (N + 1) T ∧ IR_ T ∧ RE_ T
/-- both answers are the same -/
def LQo_ (N : Int) (T : Zt) (r1 r2 : Option Zv) : Prop := ∃ x : Int, r1 = some (vI x) ∧ r2 = some (vI x) ∧ IC_ (N + 1) T ∧ IR_ T ∧ RE_ T
theorem lq_b {N : Int} {T : Zt} {r1 r2 : Option Zv} (h : LQo_ N T r1 r2) : LBo_ N T r1 r2 := by
  obtain ⟨x, h1, h2, h3⟩ := h
  exact ⟨x, x, h1, h2, h3⟩
theorem qm_o {T T' : Zt} {p c f t : Int} {r : Option Zv} (h : po_X11_register_e T p c f t T' r) : po_X11_register T p c f t T' r := by
  obtain ⟨x, e, g, q⟩ := h
  refine ⟨x, e, g, ?_⟩
  rcases q with q | q | q | q | q
  · exact Or.inl q.1
  · exact Or.inr (Or.inl q.1)
  · exact Or.inr (Or.inr (Or.inl q.1))
  · exact Or.inr (Or.inr (Or.inr (Or.inl q.1)))
  · exact Or.inr (Or.inr (Or.inr (Or.inr (by rw [q.1, q.2.2.2.2.2.1]))))
/-- a contract whose post gives P -/
def Cw_ (y : MethodName) (Y : Zm) (T : Zt) (avs : List Zv) (P : Zt → Option Zv → Prop) : Prop := ∃ Qp : Zt → Option Zv → Prop, Ct_ y Y T avs Qp ∧ ∀ T' r, Qp T' r → P T' r
def qx_sign (N : Int) (T : Zt) (c9 : Int) (T' : Zt) (r : Option Zv) : Prop := ∃ x : Int, r = some (vI x) ∧ IC_ (N + 1) T' ∧ IR_ T' ∧ fr_ [(105, [1]), (500, [])] T T' ∧ (((x = -3 ∧ T' 105 0 1 = T 105 0 1 ∧ ¬ (c9 = 10 ∨ 32 ≤ c9 ∧ c9 ≤ 126) ∧ RS9_ 500 T T') ∨ ((c9 = 10 ∨ 32 ≤ c9 ∧ c9 ≤ 126) ∧ T 105 0 1 = 400 ∧ x = -5 ∧ T' 105 0 1 = 400 ∧ RS9_ 500 T T') ∨ ((c9 = 10 ∨ 32 ≤ c9 ∧ c9 ≤ 126) ∧ T 105 0 1 < 400 ∧ x = T 105 0 1 + 1 ∧ T' 105 0 1 = x ∧ SG9_ 500 T T' (T 105 0 1) c9)))
set_option maxRecDepth 100000 in
theorem cx_sign {N : Int} {T : Zt} {c9 : Int} (hT : ok_T T) (ha : al_ T 109 0) (hI : IC_ N T) (hN : 0 ≤ N ∧ N ≤ 511) (hR : IR_ T) (hE : RE_ T) : Cw_ yX10_sign zX10_sign T [vR 110 0, vI c9] (qx_sign N T c9) := by
  refine ⟨_, ct_X10_sign_e , fun T1 r q => ?_⟩
  obtain ⟨x, rfl, f, h⟩ := q
  have g := (ic_sign hI (show po_X10_sign T c9 T1 (some (vI x)) from ⟨x, rfl, f, by omega⟩))
  exact ⟨x, rfl, g, ir_g hR (fr_s f (by decide +kernel)), f, h⟩
def qx_wipe (N : Int) (T : Zt) (T' : Zt) (r : Option Zv) : Prop := ∃ x : Int, r = some (vI x) ∧ IC_ (N + 1) T' ∧ IR_ T' ∧ fr_ [(105, [1])] T T' ∧ ((T' 105 0 1 = 0 ∧ x = T 105 0 1))
set_option maxRecDepth 100000 in
theorem cx_wipe {N : Int} {T : Zt} (hT : ok_T T) (ha : al_ T 109 0) (hI : IC_ N T) (hN : 0 ≤ N ∧ N ≤ 511) (hR : IR_ T) (hE : RE_ T) : Cw_ yX10_wipe zX10_wipe T [vR 110 0] (qx_wipe N T) := by
  refine ⟨_, ct_X10_wipe , fun T1 r q => ?_⟩
  have g := (ic_wipe hI q)
  obtain ⟨x, rfl, f, h⟩ := q
  exact ⟨x, rfl, g, ir_g hR (fr_s f (by decide +kernel)), f, h⟩
def qx_competition (N : Int) (T : Zt) (T' : Zt) (r : Option Zv) : Prop := ∃ x : Int, r = some (vI x) ∧ IC_ (N + 1) T' ∧ IR_ T' ∧ fr_ [(105, [7, 8, 9, 2, 3, 6, 1]), (504, []), (505, []), (106, [2]), (521, []), (150, []), (100, []), (401, []), (402, []), (403, []), (404, [])] T T' ∧ ((fr_ [(105, [7, 8, 9, 2, 3, 6, 1]), (504, []), (505, [])] T T' ∨ nc_ T T') ∧ CH9_ T T' x ∧ CNN_ T T')
set_option maxRecDepth 100000 in
theorem cx_competition {N : Int} {T : Zt} (hT : ok_T T) (ha : al_ T 109 0) (hI : IC_ N T) (hN : 0 ≤ N ∧ N ≤ 511) (hR : IR_ T) (hE : RE_ T) : Cw_ yX10_competition zX10_competition T [vR 110 0] (qx_competition N T) := by
  refine ⟨_, ct_X10_competition_s hI.2.2.1, fun T1 r q => ?_⟩
  obtain ⟨x, rfl, h⟩ := q
  have g := ic_competition hT hI (show po_X10_competition T T1 (some (vI x)) from ⟨x, rfl, h.1⟩)
  have f : fr_ [(105, [7, 8, 9, 2, 3, 6, 1]), (504, []), (505, []), (106, [2]), (521, []), (150, []), (100, []), (401, []), (402, []), (403, []), (404, [])] T T1 := h.1.elim (fun z => fr_s z (by decide +kernel)) (fun z => z.1)
  exact ⟨x, rfl, g, ir_g hR (fr_s f (by decide +kernel)), f, h⟩
def qx_fault (N : Int) (T : Zt) (T' : Zt) (r : Option Zv) : Prop := ∃ x : Int, r = some (vI x) ∧ IC_ (N + 1) T' ∧ IR_ T' ∧ fr_ [] T T' ∧ (x = T 105 0 3)
set_option maxRecDepth 100000 in
theorem cx_fault {N : Int} {T : Zt} (hT : ok_T T) (ha : al_ T 109 0) (hI : IC_ N T) (hN : 0 ≤ N ∧ N ≤ 511) (hR : IR_ T) (hE : RE_ T) : Cw_ yX10_fault zX10_fault T [vR 110 0] (qx_fault N T) := by
  refine ⟨_, ct_X10_fault_e , fun T1 r q => ?_⟩
  obtain ⟨e, x, rfl, h⟩ := q
  subst e
  exact ⟨x, rfl, ic_e hI, hR, fr_0 _ _, h⟩
def qx_rule (N : Int) (T : Zt) (c9 w9 : Int) (T' : Zt) (r : Option Zv) : Prop := ∃ x : Int, r = some (vI x) ∧ IC_ (N + 1) T' ∧ IR_ T' ∧ fr_ [] T T' ∧ ((x = -2 ∧ ¬ (0 ≤ c9 ∧ c9 < T 106 0 2)) ∨ ((0 ≤ c9 ∧ c9 < T 106 0 2) ∧ x = -3 ∧ ¬ (0 ≤ w9 ∧ w9 < 23)) ∨ ((0 ≤ c9 ∧ c9 < T 106 0 2) ∧ (0 ≤ w9 ∧ w9 < 16) ∧ x = T 401 c9 w9) ∨ ((0 ≤ c9 ∧ c9 < T 106 0 2) ∧ (16 ≤ w9 ∧ w9 < 23) ∧ w9 - 16 < T 401 c9 4 ∧ x = T 402 c9 (w9 - 16)) ∨ ((0 ≤ c9 ∧ c9 < T 106 0 2) ∧ (16 ≤ w9 ∧ w9 < 23) ∧ ¬ w9 - 16 < T 401 c9 4 ∧ x = -1))
set_option maxRecDepth 100000 in
theorem cx_rule {N : Int} {T : Zt} {c9 w9 : Int} (hT : ok_T T) (ha : al_ T 109 0) (hI : IC_ N T) (hN : 0 ≤ N ∧ N ≤ 511) (hR : IR_ T) (hE : RE_ T) : Cw_ yX10_rule zX10_rule T [vR 110 0, vI c9, vI w9] (qx_rule N T c9 w9) := by
  refine ⟨_, ct_X10_rule_e hI.1.1, fun T1 r q => ?_⟩
  obtain ⟨e, x, rfl, h⟩ := q
  subst e
  exact ⟨x, rfl, ic_e hI, hR, fr_0 _ _, h⟩
def qx_club (N : Int) (T : Zt) (s9 c9 : Int) (T' : Zt) (r : Option Zv) : Prop := ∃ x : Int, r = some (vI x) ∧ IC_ (N + 1) T' ∧ IR_ T' ∧ fr_ [(108, [2]), (560, []), (561, [])] T T' ∧ ((((x = -3 ∧ ¬ (0 ≤ s9 ∧ s9 ≤ 11 ∧ 0 ≤ c9 ∧ c9 ≤ 7) ∧ T' 108 0 2 = T 108 0 2) ∨ ((0 ≤ s9 ∧ s9 ≤ 11 ∧ 0 ≤ c9 ∧ c9 ≤ 7) ∧ T 108 0 2 = 12 ∧ x = -5 ∧ T' 108 0 2 = T 108 0 2) ∨ ((0 ≤ s9 ∧ s9 ≤ 11 ∧ 0 ≤ c9 ∧ c9 ≤ 7) ∧ T 108 0 2 < 12 ∧ x = T 108 0 2 ∧ T' 108 0 2 = T 108 0 2 + 1)) ∧ TG9_ 108 2 12 560 561 T T' s9 c9 x))
set_option maxRecDepth 100000 in
theorem cx_club {N : Int} {T : Zt} {s9 c9 : Int} (hT : ok_T T) (ha : al_ T 109 0) (hI : IC_ N T) (hN : 0 ≤ N ∧ N ≤ 511) (hR : IR_ T) (hE : RE_ T) : Cw_ yX10_club zX10_club T [vR 110 0, vI s9, vI c9] (qx_club N T s9 c9) := by
  refine ⟨_, ct_X10_club_e , fun T1 r q => ?_⟩
  obtain ⟨x, rfl, f, h⟩ := q
  have g := (ic_club hI (show po_X10_club T s9 c9 T1 (some (vI x)) from ⟨x, rfl, f, h.1⟩))
  exact ⟨x, rfl, g, ir_g hR (fr_s f (by decide +kernel)), f, h⟩
def qx_person (N : Int) (T : Zt) (T' : Zt) (r : Option Zv) : Prop := ∃ x : Int, r = some (vI x) ∧ IC_ (N + 1) T' ∧ IR_ T' ∧ fr_ [(108, [3]), (564, [])] T T' ∧ ((QP_ T T' x))
set_option maxRecDepth 100000 in
theorem cx_person {N : Int} {T : Zt} (hT : ok_T T) (ha : al_ T 109 0) (hI : IC_ N T) (hN : 0 ≤ N ∧ N ≤ 511) (hR : IR_ T) (hE : RE_ T) : Cw_ yX10_person zX10_person T [vR 110 0] (qx_person N T) := by
  refine ⟨_, ct_X10_person_e , fun T1 r q => ?_⟩
  obtain ⟨x, rfl, f, h⟩ := q
  have g := (ic_person hI ⟨x, rfl, f, h.elim (fun z => Or.inr (Or.inl ⟨rfl, z.1, z.2.1, by rw [z.2.2]⟩)) (fun z => Or.inr (Or.inr ⟨rfl, z.1, z.2.1, z.2.2.1⟩))⟩)
  exact ⟨x, rfl, g, ir_g hR (fr_s f (by decide +kernel)), f, h⟩
def qx_register (N : Int) (T : Zt) (p9 cl9 a9 b9 : Int) (T' : Zt) (r : Option Zv) : Prop := ∃ x : Int, r = some (vI x) ∧ IC_ (N + 1) T' ∧ IR_ T' ∧ fr_ [(108, [5]), (566, []), (567, []), (568, []), (569, []), (564, [])] T T' ∧ ((QR_ T T' p9 cl9 a9 b9 x))
set_option maxRecDepth 100000 in
theorem cx_register {N : Int} {T : Zt} {p9 cl9 a9 b9 : Int} (hT : ok_T T) (ha : al_ T 109 0) (hI : IC_ N T) (hN : 0 ≤ N ∧ N ≤ 511) (hR : IR_ T) (hE : RE_ T) : Cw_ yX10_register zX10_register T [vR 110 0, vI p9, vI cl9, vI a9, vI b9] (qx_register N T p9 cl9 a9 b9) := by
  refine ⟨_, ct_X10_register_e hE.2.2.1, fun T1 r q => ?_⟩
  obtain ⟨x, rfl, f, h⟩ := q
  have g := (ic_register (p := p9) (cl := cl9) (a := a9) (b := b9) hI ⟨x, rfl, f, rfl⟩)
  exact ⟨x, rfl, g, ir_g hR (fr_s f (by decide +kernel)), f, h⟩
def qx_official (N : Int) (T : Zt) (s9 c9 : Int) (T' : Zt) (r : Option Zv) : Prop := ∃ x : Int, r = some (vI x) ∧ IC_ (N + 1) T' ∧ IR_ T' ∧ fr_ [(108, [12]), (570, []), (571, [])] T T' ∧ ((((x = -3 ∧ ¬ (0 ≤ s9 ∧ s9 ≤ 11 ∧ 0 ≤ c9 ∧ c9 ≤ 7) ∧ T' 108 0 12 = T 108 0 12) ∨ ((0 ≤ s9 ∧ s9 ≤ 11 ∧ 0 ≤ c9 ∧ c9 ≤ 7) ∧ T 108 0 12 = 8 ∧ x = -5 ∧ T' 108 0 12 = T 108 0 12) ∨ ((0 ≤ s9 ∧ s9 ≤ 11 ∧ 0 ≤ c9 ∧ c9 ≤ 7) ∧ T 108 0 12 < 8 ∧ x = T 108 0 12 ∧ T' 108 0 12 = T 108 0 12 + 1)) ∧ TG9_ 108 12 8 570 571 T T' s9 c9 x))
set_option maxRecDepth 100000 in
theorem cx_official {N : Int} {T : Zt} {s9 c9 : Int} (hT : ok_T T) (ha : al_ T 109 0) (hI : IC_ N T) (hN : 0 ≤ N ∧ N ≤ 511) (hR : IR_ T) (hE : RE_ T) : Cw_ yX10_official zX10_official T [vR 110 0, vI s9, vI c9] (qx_official N T s9 c9) := by
  refine ⟨_, ct_X10_official_e , fun T1 r q => ?_⟩
  obtain ⟨x, rfl, f, h⟩ := q
  have g := (ic_official hI (show po_X10_official T s9 c9 T1 (some (vI x)) from ⟨x, rfl, f, h.1⟩))
  exact ⟨x, rfl, g, ir_g hR (fr_s f (by decide +kernel)), f, h⟩
def qx_day (N : Int) (T : Zt) (d9 : Int) (T' : Zt) (r : Option Zv) : Prop := ∃ x : Int, r = some (vI x) ∧ IC_ (N + 1) T' ∧ IR_ T' ∧ fr_ [(108, [13])] T T' ∧ (((x = -3 ∧ ¬ (T 108 0 13 < d9 ∧ d9 ≤ 999) ∧ T' 108 0 13 = T 108 0 13) ∨ (T 108 0 13 < d9 ∧ d9 ≤ 999 ∧ x = T 108 0 13 ∧ T' 108 0 13 = d9)))
set_option maxRecDepth 100000 in
theorem cx_day {N : Int} {T : Zt} {d9 : Int} (hT : ok_T T) (ha : al_ T 109 0) (hI : IC_ N T) (hN : 0 ≤ N ∧ N ≤ 511) (hR : IR_ T) (hE : RE_ T) : Cw_ yX10_day zX10_day T [vR 110 0, vI d9] (qx_day N T d9) := by
  refine ⟨_, ct_X10_day , fun T1 r q => ?_⟩
  have g := (ic_day hI q)
  obtain ⟨x, rfl, f, h⟩ := q
  exact ⟨x, rfl, g, ir_g hR (fr_s f (by decide +kernel)), f, h⟩
def qx_enter (N : Int) (T : Zt) (c9 b9 : Int) (T' : Zt) (r : Option Zv) : Prop := ∃ x : Int, r = some (vI x) ∧ IC_ (N + 1) T' ∧ IR_ T' ∧ fr_ [(404, []), (403, []), (100, [5])] T T' ∧ ((KE_ T' ∧ (∀ d z, 0 ≤ T 404 d z → 0 ≤ T' 404 d z) ∧ EH9_ T T' c9 b9 x))
set_option maxRecDepth 100000 in
theorem cx_enter {N : Int} {T : Zt} {c9 b9 : Int} (hT : ok_T T) (ha : al_ T 109 0) (hI : IC_ N T) (hN : 0 ≤ N ∧ N ≤ 511) (hR : IR_ T) (hE : RE_ T) : Cw_ yX10_enter zX10_enter T [vR 110 0, vI c9, vI b9] (qx_enter N T c9 b9) := by
  refine ⟨_, ct_X10_enter_e hI.1.1 hI.1.2.2.2.2.2.2.1, fun T1 r q => ?_⟩
  obtain ⟨x, rfl, f, h⟩ := q
  have g := (ic_enter hI (show po_X10_enter_k T c9 b9 T1 (some (vI x)) from ⟨x, rfl, f, h.1, h.2.1⟩))
  exact ⟨x, rfl, g, ir_g hR (fr_s f (by decide +kernel)), f, h⟩
def qx_plan (N : Int) (T : Zt) (c9 b9 : Int) (T' : Zt) (r : Option Zv) : Prop := ∃ x : Int, r = some (vI x) ∧ IC_ (N + 1) T' ∧ IR_ T' ∧ fr_ [(106, [4]), (523, []), (152, []), (102, []), (448, []), (449, []), (100, [6, 7, 8])] T T' ∧ ((T' = T ∨ SJ_ T T' c9) ∧ PH9_ T T' c9 b9 x ∧ SQ8_ T T')
set_option maxRecDepth 100000 in
theorem cx_plan {N : Int} {T : Zt} {c9 b9 : Int} (hT : ok_T T) (ha : al_ T 109 0) (hI : IC_ N T) (hN : 0 ≤ N ∧ N ≤ 511) (hR : IR_ T) (hE : RE_ T) : Cw_ yX10_plan zX10_plan T [vR 110 0, vI c9, vI b9] (qx_plan N T c9 b9) := by
  refine ⟨_, ct_X10_plan_s hI.1.1 hI.1.2.2.2.2.2.2.1 hI.1.2.2.2.2.2.2.2.1 hI.2.2.1, fun T1 r q => ?_⟩
  obtain ⟨x, rfl, h⟩ := q
  have g := ic_plan hT hI (show po_X10_plan T c9 b9 T1 (some (vI x)) from ⟨x, rfl, h.1⟩)
  have f : fr_ [(106, [4]), (523, []), (152, []), (102, []), (448, []), (449, []), (100, [6, 7, 8])] T T1 := h.1.elim (fun z => by rw [z]; exact fr_0 _ _) (fun z => z.2.1)
  exact ⟨x, rfl, g, ir_g hR (fr_s f (by decide +kernel)), f, h⟩
def qx_match (N : Int) (T : Zt) (m9 w9 : Int) (T' : Zt) (r : Option Zv) : Prop := ∃ x : Int, r = some (vI x) ∧ IC_ (N + 1) T' ∧ IR_ T' ∧ fr_ [] T T' ∧ ((x = -2 ∧ ¬ (0 ≤ m9 ∧ m9 < T 106 0 4)) ∨ ((0 ≤ m9 ∧ m9 < T 106 0 4) ∧ ((w9 = 0 ∧ x = T 100 (T 102 m9 0) 0) ∨ (w9 = 1 ∧ x = T 102 m9 2) ∨ (w9 = 2 ∧ x = T 102 m9 3) ∨ (w9 = 3 ∧ x = T 102 m9 4) ∨ (w9 = 4 ∧ x = T 102 m9 5) ∨ (w9 = 5 ∧ ((T 102 m9 6 ≠ -1 ∧ x = 3) ∨ (T 102 m9 6 = -1 ∧ ((T 102 m9 10 = 0 ∧ x = 0) ∨ (T 102 m9 10 ≠ 0 ∧ ((T 103 m9 3 = 0 ∧ x = 1) ∨ (T 103 m9 3 ≠ 0 ∧ x = 2))))))) ∨ (w9 = 6 ∧ ((T 102 m9 6 ≠ -1 ∧ ((0 = T 102 m9 6 ∧ x = 0) ∨ (0 ≠ T 102 m9 6 ∧ x = T 401 (T 102 m9 0) 12))) ∨ (T 102 m9 6 = -1 ∧ ((T 102 m9 10 = 0 ∧ x = 0) ∨ (T 102 m9 10 ≠ 0 ∧ x = T 468 m9 0))))) ∨ (w9 = 7 ∧ ((T 102 m9 6 ≠ -1 ∧ ((1 = T 102 m9 6 ∧ x = 0) ∨ (1 ≠ T 102 m9 6 ∧ x = T 401 (T 102 m9 0) 12))) ∨ (T 102 m9 6 = -1 ∧ ((T 102 m9 10 = 0 ∧ x = 0) ∨ (T 102 m9 10 ≠ 0 ∧ x = T 468 m9 1))))) ∨ (¬ (0 ≤ w9 ∧ w9 ≤ 7) ∧ x = -3))))
set_option maxRecDepth 100000 in
theorem cx_match {N : Int} {T : Zt} {m9 w9 : Int} (hT : ok_T T) (ha : al_ T 109 0) (hI : IC_ N T) (hN : 0 ≤ N ∧ N ≤ 511) (hR : IR_ T) (hE : RE_ T) : Cw_ yX10_match zX10_match T [vR 110 0, vI m9, vI w9] (qx_match N T m9 w9) := by
  refine ⟨_, ct_X10_match_e hI.1.1, fun T1 r q => ?_⟩
  obtain ⟨e, x, rfl, h⟩ := q
  subst e
  exact ⟨x, rfl, ic_e hI, hR, fr_0 _ _, h⟩
def qx_breaks (N : Int) (T : Zt) (c9 cl9 : Int) (T' : Zt) (r : Option Zv) : Prop := ∃ x : Int, r = some (vI x) ∧ IC_ (N + 1) T' ∧ IR_ T' ∧ fr_ [] T T' ∧ (BH9_ T c9 cl9 x)
set_option maxRecDepth 100000 in
theorem cx_breaks {N : Int} {T : Zt} {c9 cl9 : Int} (hT : ok_T T) (ha : al_ T 109 0) (hI : IC_ N T) (hN : 0 ≤ N ∧ N ≤ 511) (hR : IR_ T) (hE : RE_ T) : Cw_ yX10_breaks zX10_breaks T [vR 110 0, vI c9, vI cl9] (qx_breaks N T c9 cl9) := by
  refine ⟨_, ct_X10_breaks_e hI.1.1 hI.1.2.2.1, fun T1 r q => ?_⟩
  obtain ⟨e, x, rfl, h⟩ := q
  subst e
  exact ⟨x, rfl, ic_e hI, hR, fr_0 _ _, h⟩
def qx_postpone (N : Int) (T : Zt) (m9 d9 : Int) (T' : Zt) (r : Option Zv) : Prop := ∃ x : Int, r = some (vI x) ∧ IC_ (N + 1) T' ∧ IR_ T' ∧ fr_ [(535, []), (534, []), (102, [5]), (533, []), (531, []), (106, [12])] T T' ∧ (((x = -2 ∧ ¬ (0 ≤ m9 ∧ m9 < T 106 0 4) ∧ T = T') ∨ ((0 ≤ m9 ∧ m9 < T 106 0 4) ∧ ((x = -3 ∧ ¬ (T 108 0 13 < d9 ∧ d9 ≤ 999 ∧ 0 ≤ d9) ∧ T = T') ∨ ((T 108 0 13 < d9 ∧ d9 ≤ 999 ∧ 0 ≤ d9) ∧ ((x = -4 ∧ ¬ ((T 102 m9 6 = -1 ∧ T 102 m9 10 = 0) ∧ T 102 m9 5 ≠ d9) ∧ T = T') ∨ (((T 102 m9 6 = -1 ∧ T 102 m9 10 = 0) ∧ T 102 m9 5 ≠ d9) ∧ PTO_ T T' m9 d9 x)))))))
set_option maxRecDepth 100000 in
theorem cx_postpone {N : Int} {T : Zt} {m9 d9 : Int} (hT : ok_T T) (ha : al_ T 109 0) (hI : IC_ N T) (hN : 0 ≤ N ∧ N ≤ 511) (hR : IR_ T) (hE : RE_ T) : Cw_ yX10_postpone zX10_postpone T [vR 110 0, vI m9, vI d9] (qx_postpone N T m9 d9) := by
  refine ⟨_, ct_X10_postpone_f hI.1.1 hI.1.2.1, fun T1 r q => ?_⟩
  obtain ⟨x, rfl, f, h⟩ := q
  have g := (ic_postpone hI (show po_X10_postpone_k T m9 d9 T1 (some (vI x)) from ⟨x, rfl, f, dd_q hI.2.1 (f 106 0 4 rfl) (bd_f hT 106 4 tl_6_4 0).1 h⟩))
  exact ⟨x, rfl, g, ir_g hR (fr_s f (by decide +kernel)), f, h⟩
def qx_moved (N : Int) (T : Zt) (k9 : Int) (T' : Zt) (r : Option Zv) : Prop := ∃ x : Int, r = some (vI x) ∧ IC_ (N + 1) T' ∧ IR_ T' ∧ fr_ [] T T' ∧ ((0 ≤ k9 ∧ k9 < T 106 0 12 ∧ x = T 531 0 k9) ∨ (¬ (0 ≤ k9 ∧ k9 < T 106 0 12) ∧ x = -1))
set_option maxRecDepth 100000 in
theorem cx_moved {N : Int} {T : Zt} {k9 : Int} (hT : ok_T T) (ha : al_ T 109 0) (hI : IC_ N T) (hN : 0 ≤ N ∧ N ≤ 511) (hR : IR_ T) (hE : RE_ T) : Cw_ yX10_moved zX10_moved T [vR 110 0, vI k9] (qx_moved N T k9) := by
  refine ⟨_, ct_X10_moved_e , fun T1 r q => ?_⟩
  obtain ⟨e, x, rfl, h⟩ := q
  subst e
  exact ⟨x, rfl, ic_e hI, hR, fr_0 _ _, h⟩
def qx_deduct (N : Int) (T : Zt) (c9 cl9 p9 : Int) (T' : Zt) (r : Option Zv) : Prop := ∃ x : Int, r = some (vI x) ∧ IC_ (N + 1) T' ∧ IR_ T' ∧ fr_ [(106, [6]), (527, []), (528, []), (529, []), (530, [])] T T' ∧ ((DH9_ T T' c9 cl9 p9 x))
set_option maxRecDepth 100000 in
theorem cx_deduct {N : Int} {T : Zt} {c9 cl9 p9 : Int} (hT : ok_T T) (ha : al_ T 109 0) (hI : IC_ N T) (hN : 0 ≤ N ∧ N ≤ 511) (hR : IR_ T) (hE : RE_ T) : Cw_ yX10_deduct zX10_deduct T [vR 110 0, vI c9, vI cl9, vI p9] (qx_deduct N T c9 cl9 p9) := by
  refine ⟨_, ct_X10_deduct_e hI.1.1, fun T1 r q => ?_⟩
  obtain ⟨x, rfl, f, h⟩ := q
  have g := (ic_deduct hI (show po_X10_deduct T c9 cl9 p9 T1 (some (vI x)) from ⟨x, rfl, f, rfl⟩))
  exact ⟨x, rfl, g, ir_g hR (fr_s f (by decide +kernel)), f, h⟩
def qx_eligible (N : Int) (T : Zt) (q9 m9 d9 : Int) (T' : Zt) (r : Option Zv) : Prop := ∃ x : Int, r = some (vI x) ∧ IC_ (N + 1) T' ∧ IR_ T' ∧ fr_ [(533, [])] T T' ∧ (((x = -2 ∧ ¬ ((0 ≤ q9 ∧ q9 < T 108 0 3) ∧ 0 ≤ m9 ∧ m9 < T 106 0 4)) ∨ (((0 ≤ q9 ∧ q9 < T 108 0 3) ∧ 0 ≤ m9 ∧ m9 < T 106 0 4) ∧ ((x = -3 ∧ ¬ (0 ≤ d9 ∧ d9 ≤ 1)) ∨ ((0 ≤ d9 ∧ d9 ≤ 1) ∧ x = wyH_ T q9 m9 d9)))))
set_option maxRecDepth 100000 in
theorem cx_eligible {N : Int} {T : Zt} {q9 m9 d9 : Int} (hT : ok_T T) (ha : al_ T 109 0) (hI : IC_ N T) (hN : 0 ≤ N ∧ N ≤ 511) (hR : IR_ T) (hE : RE_ T) : Cw_ yX10_eligible zX10_eligible T [vR 110 0, vI q9, vI m9, vI d9] (qx_eligible N T q9 m9 d9) := by
  refine ⟨_, ct_X10_eligible_f hI.1.1 hI.1.2.1 hI.1.2.2.1 hE.2.2.1, fun T1 r q => ?_⟩
  obtain ⟨x, rfl, f, h⟩ := q
  have g := (ic_eligible hI (show po_X10_eligible T q9 m9 d9 T1 (some (vI x)) from ⟨x, rfl, f, rfl⟩))
  exact ⟨x, rfl, g, ir_g hR (fr_s f (by decide +kernel)), f, h⟩
def qx_lineUp (N : Int) (T : Zt) (q9 b9 s9 : Int) (T' : Zt) (r : Option Zv) : Prop := ∃ x : Int, r = some (vI x) ∧ IC_ (N + 1) T' ∧ IR_ T' ∧ fr_ [(448, []), (449, []), (533, [])] T T' ∧ (((x = -2 ∧ ¬ ((0 ≤ q9 ∧ q9 < T 108 0 3) ∧ 0 ≤ b9 ∧ b9 < T 106 0 4) ∧ SHN_ T T') ∨ (((0 ≤ q9 ∧ q9 < T 108 0 3) ∧ 0 ≤ b9 ∧ b9 < T 106 0 4) ∧ ((x = -3 ∧ ¬ (0 ≤ s9 ∧ s9 ≤ 1) ∧ SHN_ T T') ∨ ((0 ≤ s9 ∧ s9 ≤ 1) ∧ ((x = -4 ∧ ¬ (T 102 b9 6 = -1 ∧ T 102 b9 10 = 0) ∧ SHN_ T T') ∨ ((T 102 b9 6 = -1 ∧ T 102 b9 10 = 0) ∧ ((x = -5 ∧ T 401 (T 102 b9 0) 9 + 4 ≤ T 449 b9 s9 ∧ SHN_ T T') ∨ (T 449 b9 s9 < T 401 (T 102 b9 0) 9 + 4 ∧ ((wyH_ T q9 b9 s9 ≠ 0 ∧ x = -10 - wyH_ T q9 b9 s9 ∧ SHN_ T T') ∨ (wyH_ T q9 b9 s9 = 0 ∧ x = T 449 b9 s9 + 1 ∧ SHH_ T T' b9 s9 q9)))))))))))
set_option maxRecDepth 100000 in
theorem cx_lineUp {N : Int} {T : Zt} {q9 b9 s9 : Int} (hT : ok_T T) (ha : al_ T 109 0) (hI : IC_ N T) (hN : 0 ≤ N ∧ N ≤ 511) (hR : IR_ T) (hE : RE_ T) : Cw_ yX10_lineUp zX10_lineUp T [vR 110 0, vI q9, vI b9, vI s9] (qx_lineUp N T q9 b9 s9) := by
  refine ⟨_, ct_X10_lineUp_f hI.1.1 hI.1.2.1 hI.1.2.2.1 hI.1.2.2.2.1 hE.2.2.1, fun T1 r q => ?_⟩
  obtain ⟨x, rfl, f, h⟩ := q
  have g := (ic_lineUp hI (show po_X10_lineUp T q9 b9 s9 T1 (some (vI x)) from ⟨x, rfl, f, rfl⟩))
  exact ⟨x, rfl, g, ir_g hR (fr_s f (by decide +kernel)), f, h⟩
def qx_start (N : Int) (T : Zt) (m9 : Int) (T' : Zt) (r : Option Zv) : Prop := ∃ x : Int, r = some (vI x) ∧ IC_ (N + 1) T' ∧ IR_ T' ∧ fr_ [(153, []), (103, []), (102, [10]), (466, []), (467, []), (468, []), (469, []), (470, []), (471, []), (472, []), (473, []), (190, []), (191, [0])] T T' ∧ ((LP_ N T' ∧ lh_ T T' ∧ T' 191 0 0 ≤ T 191 0 0 + 600 ∧ NA_ T' ∧ ∀ k i j, i ≠ m9 → k ≠ 190 → k ≠ 191 → T' k i j = T k i j) ∧ ((x = -2 ∧ ¬ (0 ≤ m9 ∧ m9 < T 106 0 4) ∧ T = T') ∨ ((0 ≤ m9 ∧ m9 < T 106 0 4) ∧ ((x = -4 ∧ ¬ ((T 102 m9 6 = -1 ∧ T 102 m9 10 = 0) ∧ T 102 m9 5 = T 108 0 13 ∧ T 401 (T 102 m9 0) 9 ≤ T 449 m9 0 ∧ T 401 (T 102 m9 0) 9 ≤ T 449 m9 1) ∧ T = T') ∨ (x = 1 ∧ ((T 102 m9 6 = -1 ∧ T 102 m9 10 = 0) ∧ T 102 m9 5 = T 108 0 13 ∧ T 401 (T 102 m9 0) 9 ≤ T 449 m9 0 ∧ T 401 (T 102 m9 0) 9 ≤ T 449 m9 1) ∧ T' 102 m9 10 ≠ 0 ∧ T' 103 m9 0 = T 102 m9 0 ∧ (∃ z : Sg_, (∀ (k : Nat) (j : Int), k = 448 ∨ k = 449 → z k j = rs9_ T m9 k j) ∧ rs9_ T' m9 = bb9_ (rlm_ (fun w => T 401 (T 102 m9 0) w)) z) ∧ T' 103 m9 14 = T 191 0 0 ∧ T' 103 m9 16 = T 191 0 0 + 1 ∧ T' 103 m9 15 = 0 ∧ T' 103 m9 17 = 0 ∧ (∀ x j, x < T 191 0 0 → T' 190 x j = T 190 x j) ∧ ∀ k i j, i ≠ m9 → k ≠ 190 → k ≠ 191 → T' k i j = T k i j)))))
set_option maxRecDepth 100000 in
theorem cx_start {N : Int} {T : Zt} {m9 : Int} (hT : ok_T T) (ha : al_ T 109 0) (hI : IC_ N T) (hN : 0 ≤ N ∧ N ≤ 511) (hR : IR_ T) (hE : RE_ T) : Cw_ yX10_start zX10_start T [vR 110 0, vI m9] (qx_start N T m9) := by
  have h9 : 0 ≤ T 191 0 0 ∧ T 191 0 0 ≤ 900000000 := ⟨hI.2.2.2.2.2.1, by have := hI.2.2.2.2.2.2; omega⟩
  refine ⟨_, ct_X10_start_e hI.1.1 hI.1.2.1 hI.1.2.2.2.1 hI.2.2.2.1 hN h9 hI.2.2.1 rlm_s, fun T1 r q => ?_⟩
  obtain ⟨x, rfl, f, h⟩ := q
  have g := (ic_start hT ha hI (show po_X10_start T N m9 T1 (some (vI x)) from ⟨x, rfl, f, h.1⟩))
  exact ⟨x, rfl, g, ir_g hR (fr_s f (by decide +kernel)), f, h⟩
def qx_walkOver (N : Int) (T : Zt) (m9 d9 : Int) (T' : Zt) (r : Option Zv) : Prop := ∃ x : Int, r = some (vI x) ∧ IC_ (N + 1) T' ∧ IR_ T' ∧ fr_ [(102, [6])] T T' ∧ (((x = -2 ∧ ¬ (0 ≤ m9 ∧ m9 < T 106 0 4) ∧ T = T') ∨ ((0 ≤ m9 ∧ m9 < T 106 0 4) ∧ ((x = -3 ∧ ¬ (0 ≤ d9 ∧ d9 ≤ 1) ∧ T = T') ∨ ((0 ≤ d9 ∧ d9 ≤ 1) ∧ ((x = -4 ∧ ¬ ((T 102 m9 6 = -1 ∧ T 102 m9 10 = 0) ∧ T 102 m9 5 ≤ T 108 0 13) ∧ T = T') ∨ (x = 1 ∧ ((T 102 m9 6 = -1 ∧ T 102 m9 10 = 0) ∧ T 102 m9 5 ≤ T 108 0 13) ∧ T' = up_ T 102 m9 6 d9)))))))
set_option maxRecDepth 100000 in
theorem cx_walkOver {N : Int} {T : Zt} {m9 d9 : Int} (hT : ok_T T) (ha : al_ T 109 0) (hI : IC_ N T) (hN : 0 ≤ N ∧ N ≤ 511) (hR : IR_ T) (hE : RE_ T) : Cw_ yX10_walkOver zX10_walkOver T [vR 110 0, vI m9, vI d9] (qx_walkOver N T m9 d9) := by
  refine ⟨_, ct_X10_walkOver_e hI.1.1, fun T1 r q => ?_⟩
  obtain ⟨x, rfl, f, h⟩ := q
  have g := (ic_walkOver hI (show po_X10_walkOver_k T m9 d9 T1 (some (vI x)) from ⟨x, rfl, f, wo_k h⟩))
  exact ⟨x, rfl, g, ir_g hR (fr_s f (by decide +kernel)), f, h⟩
def qx_event (N : Int) (T : Zt) (m9 k9 s9 a9 b9 : Int) (T' : Zt) (r : Option Zv) : Prop := ∃ x : Int, r = some (vI x) ∧ IC_ (N + 1) T' ∧ IR_ T' ∧ fr_ [(106, [5]), (103, [3, 4, 5, 14, 15]), (466, []), (467, []), (468, []), (472, []), (471, []), (469, []), (470, []), (473, []), (190, []), (191, [0])] T T' ∧ ((LP_ (N + 1) T' ∧ lh_ T T' ∧ T' 191 0 0 ≤ T 191 0 0 + 600) ∧ ((x = -2 ∧ ¬ (0 ≤ m9 ∧ m9 < T 106 0 4) ∧ T = T') ∨ ((0 ≤ m9 ∧ m9 < T 106 0 4) ∧ ((T 102 m9 10 = 0 ∧ x = -11 ∧ T = T') ∨ (¬ (T 102 m9 10 = 0) ∧ ((lw9_ (rlm_ (fun w => T 401 (T 103 m9 0) w)) (rs9_ T m9) k9 s9 a9 b9 ≠ 0 ∧ x = -10 - lw9_ (rlm_ (fun w => T 401 (T 103 m9 0) w)) (rs9_ T m9) k9 s9 a9 b9 ∧ T = T') ∨ (lw9_ (rlm_ (fun w => T 401 (T 103 m9 0) w)) (rs9_ T m9) k9 s9 a9 b9 = 0 ∧ 3000 ≤ T 106 0 5 ∧ x = -5 ∧ T = T') ∨ (lw9_ (rlm_ (fun w => T 401 (T 103 m9 0) w)) (rs9_ T m9) k9 s9 a9 b9 = 0 ∧ T 106 0 5 < 3000 ∧ T' 106 0 5 = T 106 0 5 + 1 ∧ rs9_ T' m9 = ca9_ (rlm_ (fun w => T 401 (T 103 m9 0) w)) (rs9_ T m9) k9 s9 a9 b9 ∧ hr9_ T' (T' 103 m9 14) (T' 103 m9 15).toNat = hr9_ T (T 103 m9 14) (T 103 m9 15).toNat ++ [(k9, s9, a9, b9)] ∧ x = T' 103 m9 15 ∧ T' 103 m9 15 = T 103 m9 15 + 1 ∧ T' 103 m9 17 = T 103 m9 17 ∧ OMH_ T T' m9)))))))
set_option maxRecDepth 100000 in
theorem cx_event {N : Int} {T : Zt} {m9 k9 s9 a9 b9 : Int} (hT : ok_T T) (ha : al_ T 109 0) (hI : IC_ N T) (hN : 0 ≤ N ∧ N ≤ 511) (hR : IR_ T) (hE : RE_ T) : Cw_ yX10_event zX10_event T [vR 110 0, vI m9, vI k9, vI s9, vI a9, vI b9] (qx_event N T m9 k9 s9 a9 b9) := by
  have h9 : 0 ≤ T 191 0 0 ∧ T 191 0 0 ≤ 900000000 := ⟨hI.2.2.2.2.2.1, by have := hI.2.2.2.2.2.2; omega⟩
  refine ⟨_, ct_X10_event_e hI.1.1 hI.1.2.1 hI.1.2.2.2.1 hI.2.2.2.1 hN h9 rlm_p, fun T1 r q => ?_⟩
  obtain ⟨x, rfl, f, h⟩ := q
  have g := (ic_event hT ha hI (show po_X10_event T N m9 k9 s9 a9 b9 T1 (some (vI x)) from ⟨x, rfl, f, h.1⟩))
  exact ⟨x, rfl, g, ir_g hR (fr_s f (by decide +kernel)), f, h⟩
def qx_review (N : Int) (T : Zt) (m9 i9 k9 s9 a9 b9 : Int) (T' : Zt) (r : Option Zv) : Prop := ∃ x : Int, r = some (vI x) ∧ IC_ (N + 1) T' ∧ IR_ T' ∧ fr_ [(103, [3, 4, 5, 15, 16, 17]), (466, []), (467, []), (468, []), (469, []), (472, []), (473, []), (470, []), (471, []), (190, []), (191, [0])] T T' ∧ ((LP_ (N + 1) T' ∧ lh_ T T' ∧ T' 191 0 0 ≤ T 191 0 0 + 600) ∧ ((x = -2 ∧ ¬ ((0 ≤ m9 ∧ m9 < T 106 0 4) ∧ ¬ (T 102 m9 10 = 0) ∧ 0 ≤ i9 ∧ i9 < T 103 m9 15) ∧ T = T') ∨ (((0 ≤ m9 ∧ m9 < T 106 0 4) ∧ ¬ (T 102 m9 10 = 0) ∧ 0 ≤ i9 ∧ i9 < T 103 m9 15) ∧ OMH_ T T' m9 ∧ ((k9 = -1 ∧ RNH_ (rlm_ (fun w => T 401 (T 103 m9 0) w)) m9 x T T' ((hr9_ T (T 103 m9 14) (T 103 m9 15).toNat).eraseIdx i9.toNat)) ∨ (k9 ≠ -1 ∧ ((¬ ((k9 = 0 ∨ (0 ≤ s9 ∧ s9 ≤ 1)) ∧ (((rlm_ (fun w => T 401 (T 103 m9 0) w)) 0 = 0 ∧ 0 ≤ k9 ∧ k9 ≤ 5) ∨ ((rlm_ (fun w => T 401 (T 103 m9 0) w)) 0 = 1 ∧ (k9 = 1 ∨ k9 = 5)) ∨ ((rlm_ (fun w => T 401 (T 103 m9 0) w)) 0 = 2 ∧ (k9 = 1 ∨ k9 = 6)) ∨ (¬ (rlm_ (fun w => T 401 (T 103 m9 0) w)) 0 = 0 ∧ ¬ (rlm_ (fun w => T 401 (T 103 m9 0) w)) 0 = 1 ∧ ¬ (rlm_ (fun w => T 401 (T 103 m9 0) w)) 0 = 2 ∧ 1 ≤ k9 ∧ k9 ≤ 4))) ∧ x = -12 ∧ T = T') ∨ (((k9 = 0 ∨ (0 ≤ s9 ∧ s9 ≤ 1)) ∧ (((rlm_ (fun w => T 401 (T 103 m9 0) w)) 0 = 0 ∧ 0 ≤ k9 ∧ k9 ≤ 5) ∨ ((rlm_ (fun w => T 401 (T 103 m9 0) w)) 0 = 1 ∧ (k9 = 1 ∨ k9 = 5)) ∨ ((rlm_ (fun w => T 401 (T 103 m9 0) w)) 0 = 2 ∧ (k9 = 1 ∨ k9 = 6)) ∨ (¬ (rlm_ (fun w => T 401 (T 103 m9 0) w)) 0 = 0 ∧ ¬ (rlm_ (fun w => T 401 (T 103 m9 0) w)) 0 = 1 ∧ ¬ (rlm_ (fun w => T 401 (T 103 m9 0) w)) 0 = 2 ∧ 1 ≤ k9 ∧ k9 ≤ 4))) ∧ ¬ ((rlm_ (fun w => T 401 (T 103 m9 0) w)) 0 ≠ 3 ∨ k9 ≠ 1 ∨ (1 ≤ b9 ∧ b9 ≤ 4)) ∧ x = -17 ∧ T = T') ∨ (((k9 = 0 ∨ (0 ≤ s9 ∧ s9 ≤ 1)) ∧ (((rlm_ (fun w => T 401 (T 103 m9 0) w)) 0 = 0 ∧ 0 ≤ k9 ∧ k9 ≤ 5) ∨ ((rlm_ (fun w => T 401 (T 103 m9 0) w)) 0 = 1 ∧ (k9 = 1 ∨ k9 = 5)) ∨ ((rlm_ (fun w => T 401 (T 103 m9 0) w)) 0 = 2 ∧ (k9 = 1 ∨ k9 = 6)) ∨ (¬ (rlm_ (fun w => T 401 (T 103 m9 0) w)) 0 = 0 ∧ ¬ (rlm_ (fun w => T 401 (T 103 m9 0) w)) 0 = 1 ∧ ¬ (rlm_ (fun w => T 401 (T 103 m9 0) w)) 0 = 2 ∧ 1 ≤ k9 ∧ k9 ≤ 4))) ∧ ((rlm_ (fun w => T 401 (T 103 m9 0) w)) 0 ≠ 3 ∨ k9 ≠ 1 ∨ (1 ≤ b9 ∧ b9 ≤ 4)) ∧ (hr9_ T (T 103 m9 14) (T 103 m9 15).toNat)[i9.toNat]? = some (k9, s9, a9, b9) ∧ x = -20 ∧ T = T') ∨ (((k9 = 0 ∨ (0 ≤ s9 ∧ s9 ≤ 1)) ∧ (((rlm_ (fun w => T 401 (T 103 m9 0) w)) 0 = 0 ∧ 0 ≤ k9 ∧ k9 ≤ 5) ∨ ((rlm_ (fun w => T 401 (T 103 m9 0) w)) 0 = 1 ∧ (k9 = 1 ∨ k9 = 5)) ∨ ((rlm_ (fun w => T 401 (T 103 m9 0) w)) 0 = 2 ∧ (k9 = 1 ∨ k9 = 6)) ∨ (¬ (rlm_ (fun w => T 401 (T 103 m9 0) w)) 0 = 0 ∧ ¬ (rlm_ (fun w => T 401 (T 103 m9 0) w)) 0 = 1 ∧ ¬ (rlm_ (fun w => T 401 (T 103 m9 0) w)) 0 = 2 ∧ 1 ≤ k9 ∧ k9 ≤ 4))) ∧ ((rlm_ (fun w => T 401 (T 103 m9 0) w)) 0 ≠ 3 ∨ k9 ≠ 1 ∨ (1 ≤ b9 ∧ b9 ≤ 4)) ∧ ¬ ((hr9_ T (T 103 m9 14) (T 103 m9 15).toNat)[i9.toNat]? = some (k9, s9, a9, b9)) ∧ RNH_ (rlm_ (fun w => T 401 (T 103 m9 0) w)) m9 x T T' ((hr9_ T (T 103 m9 14) (T 103 m9 15).toNat).set i9.toNat (k9, s9, a9, b9)))))))))
set_option maxRecDepth 100000 in
theorem cx_review {N : Int} {T : Zt} {m9 i9 k9 s9 a9 b9 : Int} (hT : ok_T T) (ha : al_ T 109 0) (hI : IC_ N T) (hN : 0 ≤ N ∧ N ≤ 511) (hR : IR_ T) (hE : RE_ T) : Cw_ yX10_review zX10_review T [vR 110 0, vI m9, vI i9, vI k9, vI s9, vI a9, vI b9] (qx_review N T m9 i9 k9 s9 a9 b9) := by
  have h9 : 0 ≤ T 191 0 0 ∧ T 191 0 0 ≤ 900000000 := ⟨hI.2.2.2.2.2.1, by have := hI.2.2.2.2.2.2; omega⟩
  refine ⟨_, ct_X10_review_e hI.1.1 hI.1.2.1 hI.1.2.2.2.1 hI.2.2.2.1 hN h9 rlm_p (fun a b c => (hE.2.2.2.2.2.2.2.2.1.2 _ a b c).1.1), fun T1 r q => ?_⟩
  obtain ⟨x, rfl, f, h⟩ := q
  have g := (ic_review hT ha hI (show po_X10_review T N m9 i9 k9 s9 a9 b9 T1 (some (vI x)) from ⟨x, rfl, f, h.1⟩))
  exact ⟨x, rfl, g, ir_g hR (fr_s f (by decide +kernel)), f, h⟩
def qx_rows (N : Int) (T : Zt) (m9 w9 : Int) (T' : Zt) (r : Option Zv) : Prop := ∃ x : Int, r = some (vI x) ∧ IC_ (N + 1) T' ∧ IR_ T' ∧ fr_ [] T T' ∧ ((x = -2 ∧ ¬ (0 ≤ m9 ∧ m9 < T 106 0 4)) ∨ ((0 ≤ m9 ∧ m9 < T 106 0 4) ∧ ((¬ (0 ≤ w9 ∧ w9 ≤ 1) ∧ x = -3) ∨ ((0 ≤ w9 ∧ w9 ≤ 1) ∧ ((T 102 m9 10 = 0 ∧ x = 0) ∨ (T 102 m9 10 ≠ 0 ∧ ((w9 = 0 ∧ x = T 103 m9 15) ∨ (w9 = 1 ∧ x = T 103 m9 17))))))))
set_option maxRecDepth 100000 in
theorem cx_rows {N : Int} {T : Zt} {m9 w9 : Int} (hT : ok_T T) (ha : al_ T 109 0) (hI : IC_ N T) (hN : 0 ≤ N ∧ N ≤ 511) (hR : IR_ T) (hE : RE_ T) : Cw_ yX10_rows zX10_rows T [vR 110 0, vI m9, vI w9] (qx_rows N T m9 w9) := by
  refine ⟨_, ct_X10_rows_e hI.1.1, fun T1 r q => ?_⟩
  obtain ⟨e, x, rfl, h⟩ := q
  subst e
  exact ⟨x, rfl, ic_e hI, hR, fr_0 _ _, h⟩
def qx_row (N : Int) (T : Zt) (m9 i9 w9 : Int) (T' : Zt) (r : Option Zv) : Prop := ∃ x : Int, r = some (vI x) ∧ IC_ (N + 1) T' ∧ IR_ T' ∧ fr_ [] T T' ∧ (True)
set_option maxRecDepth 100000 in
theorem cx_row {N : Int} {T : Zt} {m9 i9 w9 : Int} (hT : ok_T T) (ha : al_ T 109 0) (hI : IC_ N T) (hN : 0 ≤ N ∧ N ≤ 511) (hR : IR_ T) (hE : RE_ T) : Cw_ yX10_row zX10_row T [vR 110 0, vI m9, vI i9, vI w9] (qx_row N T m9 i9 w9) := by
  have h9 : 0 ≤ T 191 0 0 ∧ T 191 0 0 ≤ 900000000 := ⟨hI.2.2.2.2.2.1, by have := hI.2.2.2.2.2.2; omega⟩
  refine ⟨_, ct_X10_row hI.1.1 hI.1.2.1 hI.1.2.2.2.1 hI.2.2.2.1 hN h9, fun T1 r q => ?_⟩
  obtain ⟨e, x, rfl, h⟩ := q
  subst e
  exact ⟨x, rfl, ic_e hI, hR, fr_0 _ _, trivial⟩
def qx_state (N : Int) (T : Zt) (m9 w9 : Int) (T' : Zt) (r : Option Zv) : Prop := ∃ x : Int, r = some (vI x) ∧ IC_ (N + 1) T' ∧ IR_ T' ∧ fr_ [] T T' ∧ ((x = -2 ∧ ¬ (0 ≤ m9 ∧ m9 < T 106 0 4)) ∨ ((0 ≤ m9 ∧ m9 < T 106 0 4) ∧ ((¬ (0 ≤ w9 ∧ w9 ≤ 7) ∧ x = -3) ∨ ((0 ≤ w9 ∧ w9 ≤ 7) ∧ ((T 102 m9 10 = 0 ∧ x = -4) ∨ (T 102 m9 10 ≠ 0 ∧ ((w9 = 0 ∧ x = T 103 m9 4) ∨ ((w9 = 1 ∨ w9 = 2) ∧ x = T 466 m9 (w9 - 1)) ∨ ((w9 = 3 ∨ w9 = 4) ∧ x = T 467 m9 (w9 - 3)) ∨ (w9 = 5 ∧ x = T 103 m9 5) ∨ ((w9 = 6 ∨ w9 = 7) ∧ x = T 469 m9 (w9 - 6)))))))))
set_option maxRecDepth 100000 in
theorem cx_state {N : Int} {T : Zt} {m9 w9 : Int} (hT : ok_T T) (ha : al_ T 109 0) (hI : IC_ N T) (hN : 0 ≤ N ∧ N ≤ 511) (hR : IR_ T) (hE : RE_ T) : Cw_ yX10_state zX10_state T [vR 110 0, vI m9, vI w9] (qx_state N T m9 w9) := by
  refine ⟨_, ct_X10_state_e hI.1.1, fun T1 r q => ?_⟩
  obtain ⟨e, x, rfl, h⟩ := q
  subst e
  exact ⟨x, rfl, ic_e hI, hR, fr_0 _ _, h⟩
def qx_onField (N : Int) (T : Zt) (m9 d9 k9 : Int) (T' : Zt) (r : Option Zv) : Prop := ∃ x : Int, r = some (vI x) ∧ IC_ (N + 1) T' ∧ IR_ T' ∧ fr_ [] T T' ∧ ((x = -2 ∧ ¬ (0 ≤ m9 ∧ m9 < T 106 0 4)) ∨ ((0 ≤ m9 ∧ m9 < T 106 0 4) ∧ ((¬ (0 ≤ d9 ∧ d9 ≤ 1) ∧ x = -3) ∨ ((0 ≤ d9 ∧ d9 ≤ 1) ∧ ((¬ (T 102 m9 10 ≠ 0 ∧ 0 ≤ k9 ∧ k9 < T 470 m9 d9) ∧ x = -1) ∨ (T 102 m9 10 ≠ 0 ∧ (0 ≤ k9 ∧ k9 < T 470 m9 d9) ∧ x = T 448 m9 (T 471 m9 (d9 * 6 + k9))))))))
set_option maxRecDepth 100000 in
theorem cx_onField {N : Int} {T : Zt} {m9 d9 k9 : Int} (hT : ok_T T) (ha : al_ T 109 0) (hI : IC_ N T) (hN : 0 ≤ N ∧ N ≤ 511) (hR : IR_ T) (hE : RE_ T) : Cw_ yX10_onField zX10_onField T [vR 110 0, vI m9, vI d9, vI k9] (qx_onField N T m9 d9 k9) := by
  refine ⟨_, ct_X10_onField_e hI.1.1, fun T1 r q => ?_⟩
  obtain ⟨e, x, rfl, h⟩ := q
  subst e
  exact ⟨x, rfl, ic_e hI, hR, fr_0 _ _, h⟩
def qx_table (N : Int) (T : Zt) (c9 d9 b9 w9 : Int) (T' : Zt) (r : Option Zv) : Prop := ∃ x : Int, r = some (vI x) ∧ IC_ (N + 1) T' ∧ IR_ T' ∧ fr_ [(107, [1, 13]), (542, []), (543, []), (544, []), (545, []), (546, []), (550, []), (551, []), (552, []), (549, []), (547, []), (548, [])] T T' ∧ (True)
set_option maxRecDepth 100000 in
theorem cx_table {N : Int} {T : Zt} {c9 d9 b9 w9 : Int} (hT : ok_T T) (ha : al_ T 109 0) (hI : IC_ N T) (hN : 0 ≤ N ∧ N ≤ 511) (hR : IR_ T) (hE : RE_ T) : Cw_ yX10_table zX10_table T [vR 110 0, vI c9, vI d9, vI b9, vI w9] (qx_table N T c9 d9 b9 w9) := by
  refine ⟨_, ct_X10_table hI.1.1 hI.1.2.1 hI.1.2.2.1 hI.1.2.2.2.2.2.1, fun T1 r q => ?_⟩
  have g := (ic_table hI q)
  obtain ⟨x, rfl, f, h⟩ := q
  exact ⟨x, rfl, g, ir_g hR (fr_s f (by decide +kernel)), f, trivial⟩
def qx_standing (N : Int) (T : Zt) (c9 d9 k9 : Int) (T' : Zt) (r : Option Zv) : Prop := ∃ x : Int, r = some (vI x) ∧ IC_ (N + 1) T' ∧ IR_ T' ∧ fr_ [(107, [1, 13]), (542, []), (543, []), (544, []), (545, []), (546, []), (550, []), (551, []), (552, []), (549, []), (547, []), (548, [])] T T' ∧ (True)
set_option maxRecDepth 100000 in
theorem cx_standing {N : Int} {T : Zt} {c9 d9 k9 : Int} (hT : ok_T T) (ha : al_ T 109 0) (hI : IC_ N T) (hN : 0 ≤ N ∧ N ≤ 511) (hR : IR_ T) (hE : RE_ T) : Cw_ yX10_standing zX10_standing T [vR 110 0, vI c9, vI d9, vI k9] (qx_standing N T c9 d9 k9) := by
  refine ⟨_, ct_X10_standing hI.1.1 hI.1.2.1 hI.1.2.2.1 hI.1.2.2.2.2.2.1, fun T1 r q => ?_⟩
  have g := (ic_standing hI q)
  obtain ⟨x, rfl, f, h⟩ := q
  exact ⟨x, rfl, g, ir_g hR (fr_s f (by decide +kernel)), f, trivial⟩
def qx_parted (N : Int) (T : Zt) (c9 d9 k9 : Int) (T' : Zt) (r : Option Zv) : Prop := ∃ x : Int, r = some (vI x) ∧ IC_ (N + 1) T' ∧ IR_ T' ∧ fr_ [(107, [1, 13]), (542, []), (543, []), (544, []), (545, []), (546, []), (550, []), (551, []), (552, []), (549, []), (547, []), (548, [])] T T' ∧ (True)
set_option maxRecDepth 100000 in
theorem cx_parted {N : Int} {T : Zt} {c9 d9 k9 : Int} (hT : ok_T T) (ha : al_ T 109 0) (hI : IC_ N T) (hN : 0 ≤ N ∧ N ≤ 511) (hR : IR_ T) (hE : RE_ T) : Cw_ yX10_parted zX10_parted T [vR 110 0, vI c9, vI d9, vI k9] (qx_parted N T c9 d9 k9) := by
  refine ⟨_, ct_X10_parted hI.1.1 hI.1.2.1 hI.1.2.2.1 hI.1.2.2.2.2.2.1, fun T1 r q => ?_⟩
  have g := (ic_parted hI q)
  obtain ⟨x, rfl, f, h⟩ := q
  exact ⟨x, rfl, g, ir_g hR (fr_s f (by decide +kernel)), f, trivial⟩
def qx_can (N : Int) (T : Zt) (c9 b9 : Int) (T' : Zt) (r : Option Zv) : Prop := ∃ x : Int, r = some (vI x) ∧ IC_ (N + 1) T' ∧ IR_ T' ∧ fr_ [(109, [5, 3, 9, 6, 2, 15]), (584, []), (588, []), (587, []), (591, []), (592, []), (590, []), (593, []), (594, []), (107, [1]), (542, []), (543, []), (544, []), (545, []), (546, []), (190, []), (191, [0])] T T' ∧ ((T' 109 0 15 ≠ 0 → T' 190 (T' 109 0 15 - 1) (-2) = 4096 ∧ 1 ≤ T' 109 0 15) ∧ KPT_ T T' ∧ lh_ T T' ∧ T' 191 0 0 ≤ T 191 0 0 + 1 ∧ CA7_ T T' c9 b9 x)
set_option maxRecDepth 100000 in
theorem cx_can {N : Int} {T : Zt} {c9 b9 : Int} (hT : ok_T T) (ha : al_ T 109 0) (hI : IC_ N T) (hN : 0 ≤ N ∧ N ≤ 511) (hR : IR_ T) (hE : RE_ T) : Cw_ yX10_can zX10_can T [vR 110 0, vI c9, vI b9] (qx_can N T c9 b9) := by
  have h9 : 0 ≤ T 191 0 0 ∧ T 191 0 0 ≤ 900000000 := ⟨hI.2.2.2.2.2.1, by have := hI.2.2.2.2.2.2; omega⟩
  have hr4 : ∀ m, 0 ≤ m → m < 400 → T 254 0 m ≤ 3000 := fun m a _ => (bd_a hT 254 (by decide +kernel : ta_ 254 = some (1, some 400, 0, 3000)) 0 a).2
  refine ⟨_, ct_X10_can_f hI.1.1 hI.1.2.1 hI.1.2.2.1 hI.1.2.2.2.2.1 hI.1.2.2.2.2.2.2.1 hI.1.2.2.2.2.2.2.2.2.2 hI.2.2.2.2.1 h9 (fun c a b => ⟨hI.1.2.2.2.2.2.2.1 c a b, (hE.2.2.2.2.1.1 c a b).2.2.2.2.2⟩) hE.2.2.2.2.2.2.2.2.2.2.2.2.1 (fun c a b => r9_q (tq_i hT hE.2.2.2.1 hR.2.1 hE.2.2.2.2.1 hE.2.2.2.2.2.1 hE.2.2.2.2.2.2.1 hE.2.2.2.2.2.2.2.2.2.2.1 hE.2.2.2.2.2.2.2.1 hE.2.2.2.2.2.2.2.2.2.2.2.2.2.2.1 hE.2.2.2.2.2.2.2.2.2.2.2.2.2.2.2.1 hR.2.2.2.2.2.2.2.2.2.2.2 hR.2.2.2.2.2.2.2.2.1 (yb_g hR.2.2.2.2.2.2.2.2.2.2.2 hr4) hI.1.2.2.2.2.1 hI.1.2.2.2.2.2.2.1 hI.1.2.2.1 ⟨a, b⟩)) (fun c a b x _ _ => pp7_b hT (tq_i hT hE.2.2.2.1 hR.2.1 hE.2.2.2.2.1 hE.2.2.2.2.2.1 hE.2.2.2.2.2.2.1 hE.2.2.2.2.2.2.2.2.2.2.1 hE.2.2.2.2.2.2.2.1 hE.2.2.2.2.2.2.2.2.2.2.2.2.2.2.1 hE.2.2.2.2.2.2.2.2.2.2.2.2.2.2.2.1 hR.2.2.2.2.2.2.2.2.2.2.2 hR.2.2.2.2.2.2.2.2.1 (yb_g hR.2.2.2.2.2.2.2.2.2.2.2 hr4) hI.1.2.2.2.2.1 hI.1.2.2.2.2.2.2.1 hI.1.2.2.1 ⟨a, b⟩)) (fun c a b => k9_q hT hI.1.2.2.2.2.1 hI.1.2.2.1 hE.2.2.2.2.2.2.2.2.2.2.2.2.2.2.2.2.1 ⟨a, b⟩), fun T1 r q => ?_⟩
  obtain ⟨x, rfl, f, h⟩ := q
  have g := (ic_can hT ha hI (show po_X10_can T c9 b9 T1 (some (vI x)) from ⟨x, rfl, f, h.1, h.2.2.1, h.2.2.2.1⟩))
  exact ⟨x, rfl, g, ir_g hR (fr_s f (by decide +kernel)), f, h⟩
def qx_witness (N : Int) (T : Zt) (m9 : Int) (T' : Zt) (r : Option Zv) : Prop := ∃ x : Int, r = some (vI x) ∧ IC_ (N + 1) T' ∧ IR_ T' ∧ fr_ [] T T' ∧ ((x = -2 ∧ ¬ (0 ≤ m9 ∧ m9 < T 106 0 4)) ∨ ((0 ≤ m9 ∧ m9 < T 106 0 4) ∧ ((T 109 0 2 = 1 ∧ x = T 584 0 m9) ∨ (T 109 0 2 ≠ 1 ∧ x = -1))))
set_option maxRecDepth 100000 in
theorem cx_witness {N : Int} {T : Zt} {m9 : Int} (hT : ok_T T) (ha : al_ T 109 0) (hI : IC_ N T) (hN : 0 ≤ N ∧ N ≤ 511) (hR : IR_ T) (hE : RE_ T) : Cw_ yX10_witness zX10_witness T [vR 110 0, vI m9] (qx_witness N T m9) := by
  refine ⟨_, ct_X10_witness_e , fun T1 r q => ?_⟩
  obtain ⟨e, x, rfl, h⟩ := q
  subst e
  exact ⟨x, rfl, ic_e hI, hR, fr_0 _ _, h⟩
def qx_cut (N : Int) (T : Zt) (T' : Zt) (r : Option Zv) : Prop := ∃ x : Int, r = some (vI x) ∧ IC_ (N + 1) T' ∧ IR_ T' ∧ fr_ [] T T' ∧ (x = T 109 0 3)
set_option maxRecDepth 100000 in
theorem cx_cut {N : Int} {T : Zt} (hT : ok_T T) (ha : al_ T 109 0) (hI : IC_ N T) (hN : 0 ≤ N ∧ N ≤ 511) (hR : IR_ T) (hE : RE_ T) : Cw_ yX10_cut zX10_cut T [vR 110 0] (qx_cut N T) := by
  refine ⟨_, ct_X10_cut_e , fun T1 r q => ?_⟩
  obtain ⟨e, x, rfl, h⟩ := q
  subst e
  exact ⟨x, rfl, ic_e hI, hR, fr_0 _ _, h⟩
def qx_firsts (N : Int) (T : Zt) (c9 b9 : Int) (T' : Zt) (r : Option Zv) : Prop := ∃ x : Int, r = some (vI x) ∧ IC_ (N + 1) T' ∧ IR_ T' ∧ fr_ [(109, [5]), (588, []), (107, [1, 13]), (542, []), (543, []), (544, []), (545, []), (546, []), (550, []), (551, []), (552, []), (549, []), (547, []), (548, [])] T T' ∧ (True)
set_option maxRecDepth 100000 in
theorem cx_firsts {N : Int} {T : Zt} {c9 b9 : Int} (hT : ok_T T) (ha : al_ T 109 0) (hI : IC_ N T) (hN : 0 ≤ N ∧ N ≤ 511) (hR : IR_ T) (hE : RE_ T) : Cw_ yX10_firsts zX10_firsts T [vR 110 0, vI c9, vI b9] (qx_firsts N T c9 b9) := by
  refine ⟨_, ct_X10_firsts hI.1.1 hI.1.2.1 hI.1.2.2.1 hI.1.2.2.2.2.2.1, fun T1 r q => ?_⟩
  have g := (ic_firsts hI q)
  obtain ⟨x, rfl, f, h⟩ := q
  exact ⟨x, rfl, g, ir_g hR (fr_s f (by decide +kernel)), f, trivial⟩
def qx_drawing (N : Int) (T : Zt) (g9 l9 : Int) (T' : Zt) (r : Option Zv) : Prop := ∃ x : Int, r = some (vI x) ∧ IC_ (N + 1) T' ∧ IR_ T' ∧ fr_ [(101, [1, 2, 3, 4, 7]), (428, []), (429, []), (430, [])] T T' ∧ (True)
set_option maxRecDepth 100000 in
theorem cx_drawing {N : Int} {T : Zt} {g9 l9 : Int} (hT : ok_T T) (ha : al_ T 109 0) (hI : IC_ N T) (hN : 0 ≤ N ∧ N ≤ 511) (hR : IR_ T) (hE : RE_ T) : Cw_ yX10_drawing zX10_drawing T [vR 110 0, vI g9, vI l9] (qx_drawing N T g9 l9) := by
  refine ⟨_, ct_X10_drawing , fun T1 r q => ?_⟩
  have g := (ic_drawing hI q)
  obtain ⟨x, rfl, f, h⟩ := q
  exact ⟨x, rfl, g, ir_g hR (fr_s f (by decide +kernel)), f, trivial⟩
def qx_pot (N : Int) (T : Zt) (c9 k9 : Int) (T' : Zt) (r : Option Zv) : Prop := ∃ x : Int, r = some (vI x) ∧ IC_ (N + 1) T' ∧ IR_ T' ∧ fr_ [(428, []), (430, []), (101, [3, 7])] T T' ∧ (True)
set_option maxRecDepth 100000 in
theorem cx_pot {N : Int} {T : Zt} {c9 k9 : Int} (hT : ok_T T) (ha : al_ T 109 0) (hI : IC_ N T) (hN : 0 ≤ N ∧ N ≤ 511) (hR : IR_ T) (hE : RE_ T) : Cw_ yX10_pot zX10_pot T [vR 110 0, vI c9, vI k9] (qx_pot N T c9 k9) := by
  refine ⟨_, ct_X10_pot , fun T1 r q => ?_⟩
  have g := (ic_pot hI q)
  obtain ⟨x, rfl, f, h⟩ := q
  exact ⟨x, rfl, g, ir_g hR (fr_s f (by decide +kernel)), f, trivial⟩
def qx_ways (N : Int) (T : Zt) (T' : Zt) (r : Option Zv) : Prop := ∃ x : Int, r = some (vI x) ∧ IC_ (N + 1) T' ∧ IR_ T' ∧ fr_ [(101, [13, 6, 7]), (434, []), (435, []), (431, []), (432, [])] T T' ∧ (True)
set_option maxRecDepth 100000 in
theorem cx_ways {N : Int} {T : Zt} (hT : ok_T T) (ha : al_ T 109 0) (hI : IC_ N T) (hN : 0 ≤ N ∧ N ≤ 511) (hR : IR_ T) (hE : RE_ T) : Cw_ yX10_ways zX10_ways T [vR 110 0] (qx_ways N T) := by
  refine ⟨_, ct_X10_ways , fun T1 r q => ?_⟩
  have g := (ic_ways hI q)
  obtain ⟨x, rfl, f, h⟩ := q
  exact ⟨x, rfl, g, ir_g hR (fr_s f (by decide +kernel)), f, trivial⟩
def qx_chance (N : Int) (T : Zt) (c9 g9 : Int) (T' : Zt) (r : Option Zv) : Prop := ∃ x : Int, r = some (vI x) ∧ IC_ (N + 1) T' ∧ IR_ T' ∧ fr_ [(101, [13, 6, 7]), (434, []), (435, []), (431, []), (432, [])] T T' ∧ (True)
set_option maxRecDepth 100000 in
theorem cx_chance {N : Int} {T : Zt} {c9 g9 : Int} (hT : ok_T T) (ha : al_ T 109 0) (hI : IC_ N T) (hN : 0 ≤ N ∧ N ≤ 511) (hR : IR_ T) (hE : RE_ T) : Cw_ yX10_chance zX10_chance T [vR 110 0, vI c9, vI g9] (qx_chance N T c9 g9) := by
  refine ⟨_, ct_X10_chance , fun T1 r q => ?_⟩
  have g := (ic_chance hI q)
  obtain ⟨x, rfl, f, h⟩ := q
  exact ⟨x, rfl, g, ir_g hR (fr_s f (by decide +kernel)), f, trivial⟩
def qx_ball (N : Int) (T : Zt) (s9 b9 : Int) (T' : Zt) (r : Option Zv) : Prop := ∃ x : Int, r = some (vI x) ∧ IC_ (N + 1) T' ∧ IR_ T' ∧ fr_ [(101, [13, 6, 7, 5, 4]), (434, []), (435, []), (431, []), (432, []), (429, [])] T T' ∧ (True)
set_option maxRecDepth 100000 in
theorem cx_ball {N : Int} {T : Zt} {s9 b9 : Int} (hT : ok_T T) (ha : al_ T 109 0) (hI : IC_ N T) (hN : 0 ≤ N ∧ N ≤ 511) (hR : IR_ T) (hE : RE_ T) : Cw_ yX10_ball zX10_ball T [vR 110 0, vI s9, vI b9] (qx_ball N T s9 b9) := by
  refine ⟨_, ct_X10_ball , fun T1 r q => ?_⟩
  have g := (ic_ball hI q)
  obtain ⟨x, rfl, f, h⟩ := q
  exact ⟨x, rfl, g, ir_g hR (fr_s f (by decide +kernel)), f, trivial⟩
def qx_drawn (N : Int) (T : Zt) (c9 : Int) (T' : Zt) (r : Option Zv) : Prop := ∃ x : Int, r = some (vI x) ∧ IC_ (N + 1) T' ∧ IR_ T' ∧ fr_ [] T T' ∧ (True)
set_option maxRecDepth 100000 in
theorem cx_drawn {N : Int} {T : Zt} {c9 : Int} (hT : ok_T T) (ha : al_ T 109 0) (hI : IC_ N T) (hN : 0 ≤ N ∧ N ≤ 511) (hR : IR_ T) (hE : RE_ T) : Cw_ yX10_drawn zX10_drawn T [vR 110 0, vI c9] (qx_drawn N T c9) := by
  refine ⟨_, ct_X10_drawn , fun T1 r q => ?_⟩
  obtain ⟨e, x, rfl, h⟩ := q
  subst e
  exact ⟨x, rfl, ic_e hI, hR, fr_0 _ _, trivial⟩
def qx_assign (N : Int) (T : Zt) (d9 : Int) (T' : Zt) (r : Option Zv) : Prop := ∃ x : Int, r = some (vI x) ∧ IC_ (N + 1) T' ∧ IR_ T' ∧ fr_ [(104, [3, 4]), (482, []), (102, [7]), (190, []), (191, [0])] T T' ∧ (KPA_ T T' ∧ lh_ T T' ∧ T' 191 0 0 ≤ T 191 0 0 + 1)
set_option maxRecDepth 100000 in
theorem cx_assign {N : Int} {T : Zt} {d9 : Int} (hT : ok_T T) (ha : al_ T 109 0) (hI : IC_ N T) (hN : 0 ≤ N ∧ N ≤ 511) (hR : IR_ T) (hE : RE_ T) : Cw_ yX10_assign zX10_assign T [vR 110 0, vI d9] (qx_assign N T d9) := by
  have h9 : 0 ≤ T 191 0 0 ∧ T 191 0 0 ≤ 900000000 := ⟨hI.2.2.2.2.2.1, by have := hI.2.2.2.2.2.2; omega⟩
  refine ⟨_, ct_X10_assign_e hI.1.1 hI.1.2.1 hI.2.1 h9, fun T1 r q => ?_⟩
  obtain ⟨x, rfl, f, h⟩ := q
  have g := (ic_assign hT ha hI (show po_X10_assign T d9 T1 (some (vI x)) from ⟨x, rfl, f, h.2⟩))
  exact ⟨x, rfl, g, ir_g hR (fr_s f (by decide +kernel)), f, h⟩
def qx_officialOf (N : Int) (T : Zt) (m9 : Int) (T' : Zt) (r : Option Zv) : Prop := ∃ x : Int, r = some (vI x) ∧ IC_ (N + 1) T' ∧ IR_ T' ∧ fr_ [] T T' ∧ (True)
set_option maxRecDepth 100000 in
theorem cx_officialOf {N : Int} {T : Zt} {m9 : Int} (hT : ok_T T) (ha : al_ T 109 0) (hI : IC_ N T) (hN : 0 ≤ N ∧ N ≤ 511) (hR : IR_ T) (hE : RE_ T) : Cw_ yX10_officialOf zX10_officialOf T [vR 110 0, vI m9] (qx_officialOf N T m9) := by
  refine ⟨_, ct_X10_officialOf hI.1.1, fun T1 r q => ?_⟩
  obtain ⟨e, x, rfl, h⟩ := q
  subst e
  exact ⟨x, rfl, ic_e hI, hR, fr_0 _ _, trivial⟩
def qx_count (N : Int) (T : Zt) (w9 : Int) (T' : Zt) (r : Option Zv) : Prop := ∃ x : Int, r = some (vI x) ∧ IC_ (N + 1) T' ∧ IR_ T' ∧ fr_ [] T T' ∧ ((w9 = 0 ∧ x = T 108 0 2) ∨ (w9 = 1 ∧ x = T 108 0 3) ∨ (w9 = 2 ∧ x = T 108 0 5) ∨ (w9 = 3 ∧ x = T 108 0 12) ∨ (w9 = 4 ∧ x = T 106 0 2) ∨ (w9 = 5 ∧ x = T 106 0 4) ∨ (w9 = 6 ∧ x = T 106 0 5) ∨ (w9 = 7 ∧ x = T 108 0 13) ∨ (¬ (0 ≤ w9 ∧ w9 ≤ 7) ∧ x = -3))
set_option maxRecDepth 100000 in
theorem cx_count {N : Int} {T : Zt} {w9 : Int} (hT : ok_T T) (ha : al_ T 109 0) (hI : IC_ N T) (hN : 0 ≤ N ∧ N ≤ 511) (hR : IR_ T) (hE : RE_ T) : Cw_ yX10_count zX10_count T [vR 110 0, vI w9] (qx_count N T w9) := by
  refine ⟨_, ct_X10_count_e , fun T1 r q => ?_⟩
  obtain ⟨e, x, rfl, h⟩ := q
  subst e
  exact ⟨x, rfl, ic_e hI, hR, fr_0 _ _, h⟩
def qm_sign (N : Int) (T : Zt) (c9 : Int) (T' : Zt) (r : Option Zv) : Prop := ∃ x : Int, r = some (vI x) ∧ IC_ N T' ∧ IR_ T' ∧ fr_ [(111, [1]), (200, [])] T T' ∧ (((x = -3 ∧ T' 111 0 1 = T 111 0 1 ∧ ¬ (c9 = 10 ∨ 32 ≤ c9 ∧ c9 ≤ 126) ∧ RS9_ 200 T T') ∨ ((c9 = 10 ∨ 32 ≤ c9 ∧ c9 ≤ 126) ∧ T 111 0 1 = 400 ∧ x = -5 ∧ T' 111 0 1 = 400 ∧ RS9_ 200 T T') ∨ ((c9 = 10 ∨ 32 ≤ c9 ∧ c9 ≤ 126) ∧ T 111 0 1 < 400 ∧ x = T 111 0 1 + 1 ∧ T' 111 0 1 = x ∧ SG9_ 200 T T' (T 111 0 1) c9)))
set_option maxRecDepth 100000 in
theorem cm_sign {N : Int} {T : Zt} {c9 : Int} (hT : ok_T T) (hI : IC_ N T) (hR : IR_ T) : Cw_ yX11_sign zX11_sign T [vR 111 0, vI c9] (qm_sign N T c9) := by
  refine ⟨_, ct_X11_sign_e , fun T1 r q => ?_⟩
  obtain ⟨x, rfl, f, h⟩ := q
  have g := (ir_sign hR (show po_X11_sign T c9 T1 (some (vI x)) from ⟨x, rfl, f, by omega⟩))
  exact ⟨x, rfl, ic_g hI (fr_s f (by decide +kernel)), g, f, h⟩
def qm_wipe (N : Int) (T : Zt) (T' : Zt) (r : Option Zv) : Prop := ∃ x : Int, r = some (vI x) ∧ IC_ N T' ∧ IR_ T' ∧ fr_ [(111, [1])] T T' ∧ ((T' 111 0 1 = 0 ∧ x = T 111 0 1))
set_option maxRecDepth 100000 in
theorem cm_wipe {N : Int} {T : Zt} (hT : ok_T T) (hI : IC_ N T) (hR : IR_ T) : Cw_ yX11_wipe zX11_wipe T [vR 111 0] (qm_wipe N T) := by
  refine ⟨_, ct_X11_wipe , fun T1 r q => ?_⟩
  have g := (ir_wipe hR q)
  obtain ⟨x, rfl, f, h⟩ := q
  exact ⟨x, rfl, ic_g hI (fr_s f (by decide +kernel)), g, f, h⟩
def qm_competition (N : Int) (T : Zt) (T' : Zt) (r : Option Zv) : Prop := ∃ x : Int, r = some (vI x) ∧ IC_ N T' ∧ IR_ T' ∧ fr_ [(111, [1, 2, 6, 57, 58, 59, 60, 61, 62, 63]), (204, []), (269, []), (270, []), (205, [])] T T' ∧ (((x < 0 ∧ T' 111 0 6 = T 111 0 6 ∨ x = T 111 0 6 ∧ T' 111 0 6 = x + 1) ∧ RI_ T' ∧ RW_ T' ∧ (∀ j, j < 23 * T 111 0 6 → T' 205 0 j = T 205 0 j) ∧ CR9_ T T' x))
set_option maxRecDepth 100000 in
theorem cm_competition {N : Int} {T : Zt} (hT : ok_T T) (hI : IC_ N T) (hR : IR_ T) : Cw_ yX11_competition zX11_competition T [vR 111 0] (qm_competition N T) := by
  refine ⟨_, ct_X11_competition_e hR.1 hR.2.1 hR.2.2.1, fun T1 r q => ?_⟩
  obtain ⟨x, rfl, f, h⟩ := q
  have g := (ir_competition hT hR (show po_X11_competition_k T T1 (some (vI x)) from ⟨x, rfl, f, h.1, h.2.1, h.2.2.1, h.2.2.2.1⟩))
  exact ⟨x, rfl, ic_g hI (fr_s f (by decide +kernel)), g, f, h⟩
def qm_fault (N : Int) (T : Zt) (T' : Zt) (r : Option Zv) : Prop := ∃ x : Int, r = some (vI x) ∧ IC_ N T' ∧ IR_ T' ∧ fr_ [] T T' ∧ (x = T 111 0 2)
set_option maxRecDepth 100000 in
theorem cm_fault {N : Int} {T : Zt} (hT : ok_T T) (hI : IC_ N T) (hR : IR_ T) : Cw_ yX11_fault zX11_fault T [vR 111 0] (qm_fault N T) := by
  refine ⟨_, ct_X11_fault_e , fun T1 r q => ?_⟩
  obtain ⟨e, x, rfl, h⟩ := q
  subst e
  exact ⟨x, rfl, hI, hR, fr_0 _ _, h⟩
def qm_rule (N : Int) (T : Zt) (c9 w9 : Int) (T' : Zt) (r : Option Zv) : Prop := ∃ x : Int, r = some (vI x) ∧ IC_ N T' ∧ IR_ T' ∧ fr_ [] T T' ∧ ((x = -2 ∧ ¬ (0 ≤ c9 ∧ c9 < T 111 0 6)) ∨ ((0 ≤ c9 ∧ c9 < T 111 0 6) ∧ x = -3 ∧ ¬ (0 ≤ w9 ∧ w9 < 23)) ∨ ((0 ≤ c9 ∧ c9 < T 111 0 6) ∧ (0 ≤ w9 ∧ w9 < 23) ∧ x = T 205 0 (23 * c9 + w9)))
set_option maxRecDepth 100000 in
theorem cm_rule {N : Int} {T : Zt} {c9 w9 : Int} (hT : ok_T T) (hI : IC_ N T) (hR : IR_ T) : Cw_ yX11_rule zX11_rule T [vR 111 0, vI c9, vI w9] (qm_rule N T c9 w9) := by
  refine ⟨_, ct_X11_rule_e , fun T1 r q => ?_⟩
  obtain ⟨e, x, rfl, h⟩ := q
  subst e
  exact ⟨x, rfl, hI, hR, fr_0 _ _, h⟩
def qm_club (N : Int) (T : Zt) (s9 c9 : Int) (T' : Zt) (r : Option Zv) : Prop := ∃ x : Int, r = some (vI x) ∧ IC_ N T' ∧ IR_ T' ∧ fr_ [(111, [12]), (213, []), (214, [])] T T' ∧ ((((x = -3 ∧ ¬ (0 ≤ s9 ∧ s9 ≤ 11 ∧ 0 ≤ c9 ∧ c9 ≤ 7) ∧ T' 111 0 12 = T 111 0 12) ∨ ((0 ≤ s9 ∧ s9 ≤ 11 ∧ 0 ≤ c9 ∧ c9 ≤ 7) ∧ T 111 0 12 = 12 ∧ x = -5 ∧ T' 111 0 12 = T 111 0 12) ∨ ((0 ≤ s9 ∧ s9 ≤ 11 ∧ 0 ≤ c9 ∧ c9 ≤ 7) ∧ T 111 0 12 < 12 ∧ x = T 111 0 12 ∧ T' 111 0 12 = T 111 0 12 + 1)) ∧ TG9_ 111 12 12 213 214 T T' s9 c9 x))
set_option maxRecDepth 100000 in
theorem cm_club {N : Int} {T : Zt} {s9 c9 : Int} (hT : ok_T T) (hI : IC_ N T) (hR : IR_ T) : Cw_ yX11_club zX11_club T [vR 111 0, vI s9, vI c9] (qm_club N T s9 c9) := by
  refine ⟨_, ct_X11_club_e , fun T1 r q => ?_⟩
  obtain ⟨x, rfl, f, h⟩ := q
  have g := (ir_club hR (show po_X11_club T s9 c9 T1 (some (vI x)) from ⟨x, rfl, f, h.1⟩))
  exact ⟨x, rfl, ic_g hI (fr_s f (by decide +kernel)), g, f, h⟩
def qm_person (N : Int) (T : Zt) (T' : Zt) (r : Option Zv) : Prop := ∃ x : Int, r = some (vI x) ∧ IC_ N T' ∧ IR_ T' ∧ fr_ [(111, [15])] T T' ∧ (((x = -3 ∧ ¬ (0 = (0 : Int)) ∧ T' 111 0 15 = T 111 0 15) ∨ ((0 = (0 : Int)) ∧ T 111 0 15 = 200 ∧ x = -5 ∧ T' 111 0 15 = T 111 0 15) ∨ ((0 = (0 : Int)) ∧ T 111 0 15 < 200 ∧ x = T 111 0 15 ∧ T' 111 0 15 = T 111 0 15 + 1)))
set_option maxRecDepth 100000 in
theorem cm_person {N : Int} {T : Zt} (hT : ok_T T) (hI : IC_ N T) (hR : IR_ T) : Cw_ yX11_person zX11_person T [vR 111 0] (qm_person N T) := by
  refine ⟨_, ct_X11_person , fun T1 r q => ?_⟩
  have g := (ir_person hR q)
  obtain ⟨x, rfl, f, h⟩ := q
  exact ⟨x, rfl, ic_g hI (fr_s f (by decide +kernel)), g, f, h⟩
def qm_register (N : Int) (T : Zt) (p9 c9 f9 t9 : Int) (T' : Zt) (r : Option Zv) : Prop := ∃ x : Int, r = some (vI x) ∧ IC_ N T' ∧ IR_ T' ∧ fr_ [(111, [16]), (217, []), (218, []), (219, []), (220, [])] T T' ∧ ((QM_ T T' p9 c9 f9 t9 x))
set_option maxRecDepth 100000 in
theorem cm_register {N : Int} {T : Zt} {p9 c9 f9 t9 : Int} (hT : ok_T T) (hI : IC_ N T) (hR : IR_ T) : Cw_ yX11_register zX11_register T [vR 111 0, vI p9, vI c9, vI f9, vI t9] (qm_register N T p9 c9 f9 t9) := by
  refine ⟨_, ct_X11_register_e , fun T1 r q => ?_⟩
  obtain ⟨x, rfl, f, h⟩ := q
  have g := (ir_register hR (qm_o ⟨x, rfl, f, h⟩))
  exact ⟨x, rfl, ic_g hI (fr_s f (by decide +kernel)), g, f, h⟩
def qm_official (N : Int) (T : Zt) (s9 c9 : Int) (T' : Zt) (r : Option Zv) : Prop := ∃ x : Int, r = some (vI x) ∧ IC_ N T' ∧ IR_ T' ∧ fr_ [(111, [21]), (222, []), (223, [])] T T' ∧ ((((x = -3 ∧ ¬ (0 ≤ s9 ∧ s9 ≤ 11 ∧ 0 ≤ c9 ∧ c9 ≤ 7) ∧ T' 111 0 21 = T 111 0 21) ∨ ((0 ≤ s9 ∧ s9 ≤ 11 ∧ 0 ≤ c9 ∧ c9 ≤ 7) ∧ T 111 0 21 = 8 ∧ x = -5 ∧ T' 111 0 21 = T 111 0 21) ∨ ((0 ≤ s9 ∧ s9 ≤ 11 ∧ 0 ≤ c9 ∧ c9 ≤ 7) ∧ T 111 0 21 < 8 ∧ x = T 111 0 21 ∧ T' 111 0 21 = T 111 0 21 + 1)) ∧ TG9_ 111 21 8 222 223 T T' s9 c9 x))
set_option maxRecDepth 100000 in
theorem cm_official {N : Int} {T : Zt} {s9 c9 : Int} (hT : ok_T T) (hI : IC_ N T) (hR : IR_ T) : Cw_ yX11_official zX11_official T [vR 111 0, vI s9, vI c9] (qm_official N T s9 c9) := by
  refine ⟨_, ct_X11_official_e , fun T1 r q => ?_⟩
  obtain ⟨x, rfl, f, h⟩ := q
  have g := (ir_official hR (show po_X11_official T s9 c9 T1 (some (vI x)) from ⟨x, rfl, f, h.1⟩))
  exact ⟨x, rfl, ic_g hI (fr_s f (by decide +kernel)), g, f, h⟩
def qm_day (N : Int) (T : Zt) (d9 : Int) (T' : Zt) (r : Option Zv) : Prop := ∃ x : Int, r = some (vI x) ∧ IC_ N T' ∧ IR_ T' ∧ fr_ [(111, [3])] T T' ∧ (((x = -3 ∧ ¬ (T 111 0 3 < d9 ∧ d9 ≤ 999) ∧ T' 111 0 3 = T 111 0 3) ∨ (T 111 0 3 < d9 ∧ d9 ≤ 999 ∧ x = T 111 0 3 ∧ T' 111 0 3 = d9)))
set_option maxRecDepth 100000 in
theorem cm_day {N : Int} {T : Zt} {d9 : Int} (hT : ok_T T) (hI : IC_ N T) (hR : IR_ T) : Cw_ yX11_day zX11_day T [vR 111 0, vI d9] (qm_day N T d9) := by
  refine ⟨_, ct_X11_day , fun T1 r q => ?_⟩
  have g := (ir_day hR q)
  obtain ⟨x, rfl, f, h⟩ := q
  exact ⟨x, rfl, ic_g hI (fr_s f (by decide +kernel)), g, f, h⟩
def qm_enter (N : Int) (T : Zt) (c9 cl9 : Int) (T' : Zt) (r : Option Zv) : Prop := ∃ x : Int, r = some (vI x) ∧ IC_ N T' ∧ IR_ T' ∧ fr_ [(207, []), (208, [])] T T' ∧ ((EN_ T' ∧ ER9_ T T' c9 cl9 x))
set_option maxRecDepth 100000 in
theorem cm_enter {N : Int} {T : Zt} {c9 cl9 : Int} (hT : ok_T T) (hI : IC_ N T) (hR : IR_ T) : Cw_ yX11_enter zX11_enter T [vR 111 0, vI c9, vI cl9] (qm_enter N T c9 cl9) := by
  refine ⟨_, ct_X11_enter_e hR.2.2.2.1, fun T1 r q => ?_⟩
  obtain ⟨x, rfl, f, h⟩ := q
  have g := (ir_enter hR (show po_X11_enter T c9 cl9 T1 (some (vI x)) from ⟨x, rfl, f, h.1⟩))
  exact ⟨x, rfl, ic_g hI (fr_s f (by decide +kernel)), g, f, h⟩
def qm_plan (N : Int) (T : Zt) (c9 f9 : Int) (T' : Zt) (r : Option Zv) : Prop := ∃ x : Int, r = some (vI x) ∧ IC_ N T' ∧ IR_ T' ∧ fr_ [(230, []), (231, []), (232, []), (233, []), (234, []), (235, []), (238, []), (253, []), (255, []), (111, [29]), (209, []), (210, []), (211, [])] T T' ∧ (ok_T T ∧ ((((x < 0 ∧ T = T') ∨ (0 ≤ c9 ∧ c9 < T 111 0 6 ∧ am2_ T T' c9 ∧ T' 111 0 29 ≤ 400 ∧ T' 210 0 c9 = T 111 0 29 ∧ T' 211 0 c9 = T' 111 0 29 - T 111 0 29 ∧ (∀ z, z ≠ c9 → T' 210 0 z = T 210 0 z ∧ T' 211 0 z = T 211 0 z ∧ T' 209 0 z = T 209 0 z))) ∧ PR9_ T T' c9 f9 x)))
set_option maxRecDepth 100000 in
theorem cm_plan {N : Int} {T : Zt} {c9 f9 : Int} (hT : ok_T T) (hI : IC_ N T) (hR : IR_ T) : Cw_ yX11_plan zX11_plan T [vR 111 0, vI c9, vI f9] (qm_plan N T c9 f9) := by
  refine ⟨_, ct_X11_plan_e hR.2.1, fun T1 r q => ?_⟩
  obtain ⟨x, rfl, f, h⟩ := q
  have g := (ir_plan hT hR (show po_X11_plan_k T c9 f9 T1 (some (vI x)) from ⟨x, rfl, f, h.1⟩))
  exact ⟨x, rfl, ic_g hI (fr_s f (by decide +kernel)), g, f, ⟨hT, h⟩⟩
def qm_match (N : Int) (T : Zt) (m9 w9 : Int) (T' : Zt) (r : Option Zv) : Prop := ∃ x : Int, r = some (vI x) ∧ IC_ N T' ∧ IR_ T' ∧ fr_ [] T T' ∧ ((x = -2 ∧ ¬ (0 ≤ m9 ∧ m9 < T 111 0 29)) ∨ ((0 ≤ m9 ∧ m9 < T 111 0 29) ∧ ((w9 = 0 ∧ x = T 230 0 m9) ∨ (w9 = 1 ∧ x = T 231 0 m9) ∨ (w9 = 2 ∧ x = T 232 0 m9) ∨ (w9 = 3 ∧ x = T 233 0 m9) ∨ (w9 = 4 ∧ x = T 234 0 m9) ∨ (w9 = 5 ∧ x = T 235 0 m9) ∨ (w9 = 6 ∧ x = T 236 0 m9) ∨ (w9 = 7 ∧ x = T 237 0 m9) ∨ (¬ (0 ≤ w9 ∧ w9 ≤ 7) ∧ x = -3))))
set_option maxRecDepth 100000 in
theorem cm_match {N : Int} {T : Zt} {m9 w9 : Int} (hT : ok_T T) (hI : IC_ N T) (hR : IR_ T) : Cw_ yX11_match zX11_match T [vR 111 0, vI m9, vI w9] (qm_match N T m9 w9) := by
  refine ⟨_, ct_X11_match_e , fun T1 r q => ?_⟩
  obtain ⟨e, x, rfl, h⟩ := q
  subst e
  exact ⟨x, rfl, hI, hR, fr_0 _ _, h⟩
def qm_breaks (N : Int) (T : Zt) (c9 cl9 : Int) (T' : Zt) (r : Option Zv) : Prop := ∃ x : Int, r = some (vI x) ∧ IC_ N T' ∧ IR_ T' ∧ fr_ [] T T' ∧ (BR9_ T c9 cl9 x)
set_option maxRecDepth 100000 in
theorem cm_breaks {N : Int} {T : Zt} {c9 cl9 : Int} (hT : ok_T T) (hI : IC_ N T) (hR : IR_ T) : Cw_ yX11_breaks zX11_breaks T [vR 111 0, vI c9, vI cl9] (qm_breaks N T c9 cl9) := by
  refine ⟨_, ct_X11_breaks_e hR.2.2.2.2.1, fun T1 r q => ?_⟩
  obtain ⟨e, x, rfl, h⟩ := q
  subst e
  exact ⟨x, rfl, hI, hR, fr_0 _ _, h⟩
def qm_postpone (N : Int) (T : Zt) (m9 d9 : Int) (T' : Zt) (r : Option Zv) : Prop := ∃ x : Int, r = some (vI x) ∧ IC_ N T' ∧ IR_ T' ∧ fr_ [(234, []), (271, []), (272, []), (111, [73, 75]), (274, [])] T T' ∧ (((x = -2 ∧ ¬ (0 ≤ m9 ∧ m9 < T 111 0 29) ∧ T = T') ∨ ((0 ≤ m9 ∧ m9 < T 111 0 29) ∧ ((x = -3 ∧ ¬ (T 111 0 3 < d9 ∧ d9 ≤ 999 ∧ 0 ≤ d9) ∧ T = T') ∨ ((T 111 0 3 < d9 ∧ d9 ≤ 999 ∧ 0 ≤ d9) ∧ ((x = -4 ∧ ¬ (T 235 0 m9 = 0 ∧ T 234 0 m9 ≠ d9) ∧ T = T') ∨ ((T 235 0 m9 = 0 ∧ T 234 0 m9 ≠ d9) ∧ PTQ_ T T' m9 d9 x)))))))
set_option maxRecDepth 100000 in
theorem cm_postpone {N : Int} {T : Zt} {m9 d9 : Int} (hT : ok_T T) (hI : IC_ N T) (hR : IR_ T) : Cw_ yX11_postpone zX11_postpone T [vR 111 0, vI m9, vI d9] (qm_postpone N T m9 d9) := by
  refine ⟨_, ct_X11_postpone_f , fun T1 r q => ?_⟩
  obtain ⟨x, rfl, f, h⟩ := q
  have g := (ir_postpone hR (show po_X11_postpone T m9 d9 T1 (some (vI x)) from ⟨x, rfl, f, rfl⟩))
  exact ⟨x, rfl, ic_g hI (fr_s f (by decide +kernel)), g, f, h⟩
def qm_moved (N : Int) (T : Zt) (k9 : Int) (T' : Zt) (r : Option Zv) : Prop := ∃ x : Int, r = some (vI x) ∧ IC_ N T' ∧ IR_ T' ∧ fr_ [] T T' ∧ ((0 ≤ k9 ∧ k9 < T 111 0 75 ∧ x = T 274 0 k9) ∨ (¬ (0 ≤ k9 ∧ k9 < T 111 0 75) ∧ x = -1))
set_option maxRecDepth 100000 in
theorem cm_moved {N : Int} {T : Zt} {k9 : Int} (hT : ok_T T) (hI : IC_ N T) (hR : IR_ T) : Cw_ yX11_moved zX11_moved T [vR 111 0, vI k9] (qm_moved N T k9) := by
  refine ⟨_, ct_X11_moved_e , fun T1 r q => ?_⟩
  obtain ⟨e, x, rfl, h⟩ := q
  subst e
  exact ⟨x, rfl, hI, hR, fr_0 _ _, h⟩
def qm_deduct (N : Int) (T : Zt) (c9 cl9 p9 : Int) (T' : Zt) (r : Option Zv) : Prop := ∃ x : Int, r = some (vI x) ∧ IC_ N T' ∧ IR_ T' ∧ fr_ [(225, []), (226, []), (227, []), (228, []), (111, [24])] T T' ∧ ((DR9_ T T' c9 cl9 p9 x))
set_option maxRecDepth 100000 in
theorem cm_deduct {N : Int} {T : Zt} {c9 cl9 p9 : Int} (hT : ok_T T) (hI : IC_ N T) (hR : IR_ T) : Cw_ yX11_deduct zX11_deduct T [vR 111 0, vI c9, vI cl9, vI p9] (qm_deduct N T c9 cl9 p9) := by
  refine ⟨_, ct_X11_deduct_e , fun T1 r q => ?_⟩
  obtain ⟨x, rfl, f, h⟩ := q
  have g := (ir_deduct hR (show po_X11_deduct T c9 cl9 p9 T1 (some (vI x)) from ⟨x, rfl, f, rfl⟩))
  exact ⟨x, rfl, ic_g hI (fr_s f (by decide +kernel)), g, f, h⟩
def qm_eligible (N : Int) (T : Zt) (p9 m9 sd9 : Int) (T' : Zt) (r : Option Zv) : Prop := ∃ x : Int, r = some (vI x) ∧ IC_ N T' ∧ IR_ T' ∧ fr_ [] T T' ∧ ((x = -2 ∧ ¬ ((0 ≤ p9 ∧ p9 < T 111 0 15) ∧ 0 ≤ m9 ∧ m9 < T 111 0 29)) ∨ (((0 ≤ p9 ∧ p9 < T 111 0 15) ∧ 0 ≤ m9 ∧ m9 < T 111 0 29) ∧ ((x = -3 ∧ ¬ (0 ≤ sd9 ∧ sd9 ≤ 1)) ∨ ((0 ≤ sd9 ∧ sd9 ≤ 1) ∧ x = wyR_ T p9 m9 sd9))))
set_option maxRecDepth 100000 in
theorem cm_eligible {N : Int} {T : Zt} {p9 m9 sd9 : Int} (hT : ok_T T) (hI : IC_ N T) (hR : IR_ T) : Cw_ yX11_eligible zX11_eligible T [vR 111 0, vI p9, vI m9, vI sd9] (qm_eligible N T p9 m9 sd9) := by
  refine ⟨_, ct_X11_eligible_f hR.2.2.2.2.1 hR.2.2.2.2.2.1 hR.2.1, fun T1 r q => ?_⟩
  obtain ⟨e, x, rfl, h⟩ := q
  subst e
  exact ⟨x, rfl, hI, hR, fr_0 _ _, h⟩
def qm_lineUp (N : Int) (T : Zt) (p9 m9 sd9 : Int) (T' : Zt) (r : Option Zv) : Prop := ∃ x : Int, r = some (vI x) ∧ IC_ N T' ∧ IR_ T' ∧ fr_ [(239, []), (240, [])] T T' ∧ (((SH_ T' ∧ ∀ z, T 239 0 z ≤ T' 239 0 z) ∧ ((x = -2 ∧ ¬ ((0 ≤ p9 ∧ p9 < T 111 0 15) ∧ 0 ≤ m9 ∧ m9 < T 111 0 29) ∧ T = T') ∨ (((0 ≤ p9 ∧ p9 < T 111 0 15) ∧ 0 ≤ m9 ∧ m9 < T 111 0 29) ∧ ((x = -3 ∧ ¬ (0 ≤ sd9 ∧ sd9 ≤ 1) ∧ T = T') ∨ ((0 ≤ sd9 ∧ sd9 ≤ 1) ∧ ((x = -4 ∧ T 235 0 m9 ≠ 0 ∧ T = T') ∨ (T 235 0 m9 = 0 ∧ ((x = -5 ∧ T 239 0 (2 * m9 + sd9) = T 205 0 (23 * T 230 0 m9 + 9) + 4 ∧ T = T') ∨ (T 239 0 (2 * m9 + sd9) ≠ T 205 0 (23 * T 230 0 m9 + 9) + 4 ∧ ((wyR_ T p9 m9 sd9 ≠ 0 ∧ x = -10 - wyR_ T p9 m9 sd9 ∧ T = T') ∨ (wyR_ T p9 m9 sd9 = 0 ∧ x = T 239 0 (2 * m9 + sd9) + 1 ∧ SRR_ T T' m9 sd9 p9))))))))))))
set_option maxRecDepth 100000 in
theorem cm_lineUp {N : Int} {T : Zt} {p9 m9 sd9 : Int} (hT : ok_T T) (hI : IC_ N T) (hR : IR_ T) : Cw_ yX11_lineUp zX11_lineUp T [vR 111 0, vI p9, vI m9, vI sd9] (qm_lineUp N T p9 m9 sd9) := by
  refine ⟨_, ct_X11_lineUp_f hR.2.2.2.2.1 hR.2.2.2.2.2.1 hR.2.1 hR.2.2.2.2.2.2.1, fun T1 r q => ?_⟩
  obtain ⟨x, rfl, f, h⟩ := q
  have g := (ir_lineUp hR (show po_X11_lineUp_k T p9 m9 sd9 T1 (some (vI x)) from ⟨x, rfl, f, h.1⟩))
  exact ⟨x, rfl, ic_g hI (fr_s f (by decide +kernel)), g, f, h⟩
def qm_start (N : Int) (T : Zt) (m9 : Int) (T' : Zt) (r : Option Zv) : Prop := ∃ x : Int, r = some (vI x) ∧ IC_ N T' ∧ IR_ T' ∧ fr_ [(244, []), (241, []), (242, []), (243, []), (245, []), (246, []), (236, []), (237, []), (235, [])] T T' ∧ (((FM_ T' ∧ ZS_ T' ∧ GX_ T' (-1)) ∧ ((x = -2 ∧ ¬ (0 ≤ m9 ∧ m9 < T 111 0 29) ∧ T = T') ∨ ((0 ≤ m9 ∧ m9 < T 111 0 29) ∧ ((x = -4 ∧ ¬ (T 235 0 m9 = 0 ∧ T 234 0 m9 = T 111 0 3 ∧ T 205 0 (23 * T 230 0 m9 + 9) ≤ T 239 0 (2 * m9) ∧ T 205 0 (23 * T 230 0 m9 + 9) ≤ T 239 0 (2 * m9 + 1)) ∧ T = T') ∨ (x = 1 ∧ (T 235 0 m9 = 0 ∧ T 234 0 m9 = T 111 0 3 ∧ T 205 0 (23 * T 230 0 m9 + 9) ≤ T 239 0 (2 * m9) ∧ T 205 0 (23 * T 230 0 m9 + 9) ≤ T 239 0 (2 * m9 + 1)) ∧ BGR_ m9 (rlm_ (fun w => T 205 0 (23 * T 230 0 m9 + w))) (rp9_ T m9) (rp9_ T' m9) ∧ ro9_ T T' m9))))))
set_option maxRecDepth 100000 in
theorem cm_start {N : Int} {T : Zt} {m9 : Int} (hT : ok_T T) (hI : IC_ N T) (hR : IR_ T) : Cw_ yX11_start zX11_start T [vR 111 0, vI m9] (qm_start N T m9) := by
  refine ⟨_, ct_X11_start_e hR.2.2.2.2.2.1 hR.2.1 hR.2.2.2.2.2.2.2.1 hR.2.2.2.2.2.2.2.2.2.2.1 hR.2.2.2.2.2.2.2.2.2.2.2 rlm_r, fun T1 r q => ?_⟩
  obtain ⟨x, rfl, f, h⟩ := q
  have g := (ir_start hR (show po_X11_start T m9 T1 (some (vI x)) from ⟨x, rfl, f, h.1⟩))
  exact ⟨x, rfl, ic_g hI (fr_s f (by decide +kernel)), g, f, h⟩
def qm_walkOver (N : Int) (T : Zt) (m9 s9 : Int) (T' : Zt) (r : Option Zv) : Prop := ∃ x : Int, r = some (vI x) ∧ IC_ N T' ∧ IR_ T' ∧ fr_ [(235, []), (236, []), (237, [])] T T' ∧ (((FM_ T' ∧ ZS_ T' ∧ GX_ T' (-1)) ∧ ((x = -2 ∧ ¬ (0 ≤ m9 ∧ m9 < T 111 0 29) ∧ T = T') ∨ ((0 ≤ m9 ∧ m9 < T 111 0 29) ∧ ((x = -3 ∧ ¬ (0 ≤ s9 ∧ s9 ≤ 1) ∧ T = T') ∨ ((0 ≤ s9 ∧ s9 ≤ 1) ∧ ((x = -4 ∧ ¬ (T 235 0 m9 = 0 ∧ T 234 0 m9 ≤ T 111 0 3) ∧ T = T') ∨ (x = 1 ∧ (T 235 0 m9 = 0 ∧ T 234 0 m9 ≤ T 111 0 3) ∧ T' 235 0 m9 = 3 ∧ (s9 = 0 → T' 236 0 m9 = 0 ∧ T' 237 0 m9 = T 205 0 (23 * T 230 0 m9 + 12)) ∧ (s9 = 1 → T' 236 0 m9 = T 205 0 (23 * T 230 0 m9 + 12) ∧ T' 237 0 m9 = 0) ∧ ro9_ T T' m9))))))))
set_option maxRecDepth 100000 in
theorem cm_walkOver {N : Int} {T : Zt} {m9 s9 : Int} (hT : ok_T T) (hI : IC_ N T) (hR : IR_ T) : Cw_ yX11_walkOver zX11_walkOver T [vR 111 0, vI m9, vI s9] (qm_walkOver N T m9 s9) := by
  refine ⟨_, ct_X11_walkOver_e hR.2.2.2.2.2.1 hR.2.1 hR.2.2.2.2.2.2.2.1 hR.2.2.2.2.2.2.2.2.2.2.1 hR.2.2.2.2.2.2.2.2.2.2.2, fun T1 r q => ?_⟩
  obtain ⟨x, rfl, f, h⟩ := q
  have g := (ir_walkOver hR (show po_X11_walkOver T m9 s9 T1 (some (vI x)) from ⟨x, rfl, f, h.1⟩))
  exact ⟨x, rfl, ic_g hI (fr_s f (by decide +kernel)), g, f, h⟩
def qm_event (N : Int) (T : Zt) (m9 k9 s9 p9 q9 : Int) (T' : Zt) (r : Option Zv) : Prop := ∃ x : Int, r = some (vI x) ∧ IC_ N T' ∧ IR_ T' ∧ fr_ [(111, [47]), (248, []), (249, []), (250, []), (251, []), (252, []), (253, []), (254, []), (256, []), (244, []), (241, []), (242, []), (243, []), (245, []), (246, []), (236, []), (237, []), (235, [])] T T' ∧ ((FM_ T' ∧ RX_ T' [] ∧ ZS_ T' ∧ GX_ T' (-1) ∧ (∀ j, j ≠ m9 ∨ T 111 0 29 ≤ j → T' 254 0 j = T 254 0 j ∧ T' 256 0 j = T 256 0 j) ∧ ((x = -2 ∧ ¬ (0 ≤ m9 ∧ m9 < T 111 0 29) ∧ T = T') ∨ ((0 ≤ m9 ∧ m9 < T 111 0 29) ∧ ((lwR_ (rlm_ (fun w => T 205 0 (23 * T 230 0 m9 + w))) (rp9_ T m9) k9 s9 p9 q9 ≠ 0 ∧ x = -10 - lwR_ (rlm_ (fun w => T 205 0 (23 * T 230 0 m9 + w))) (rp9_ T m9) k9 s9 p9 q9 ∧ T = T') ∨ (lwR_ (rlm_ (fun w => T 205 0 (23 * T 230 0 m9 + w))) (rp9_ T m9) k9 s9 p9 q9 = 0 ∧ T 111 0 47 = 3000 ∧ x = -5 ∧ T = T') ∨ (lwR_ (rlm_ (fun w => T 205 0 (23 * T 230 0 m9 + w))) (rp9_ T m9) k9 s9 p9 q9 = 0 ∧ T 111 0 47 ≠ 3000 ∧ T' 111 0 47 = T 111 0 47 + 1 ∧ rp9_ T' m9 = plR_ (rlm_ (fun w => T 205 0 (23 * T 230 0 m9 + w))) (rp9_ T m9) m9 k9 s9 p9 q9 ∧ rw9_ T' m9 = rw9_ T m9 ++ [(k9, s9, p9, q9)] ∧ x = T' 254 0 m9 ∧ T' 256 0 m9 = T 256 0 m9 ∧ OMR_ T T' m9))))))
set_option maxRecDepth 100000 in
theorem cm_event {N : Int} {T : Zt} {m9 k9 s9 p9 q9 : Int} (hT : ok_T T) (hI : IC_ N T) (hR : IR_ T) : Cw_ yX11_event zX11_event T [vR 111 0, vI m9, vI k9, vI s9, vI p9, vI q9] (qm_event N T m9 k9 s9 p9 q9) := by
  refine ⟨_, ct_X11_event_e hR.2.2.2.2.2.1 hR.2.1 hR.2.2.2.2.2.2.2.1 hR.2.2.2.2.2.2.2.2.1 hR.2.2.2.2.2.2.2.2.2.2.1 hR.2.2.2.2.2.2.2.2.2.2.2 rlm_r, fun T1 r q => ?_⟩
  obtain ⟨x, rfl, f, h⟩ := q
  have g := (ir_event hR (show po_X11_event T m9 k9 s9 p9 q9 T1 (some (vI x)) from ⟨x, rfl, f, h.1, h.2.1, h.2.2.1, h.2.2.2.1, h.2.2.2.2.1⟩))
  exact ⟨x, rfl, ic_g hI (fr_s f (by decide +kernel)), g, f, h⟩
def qm_review (N : Int) (T : Zt) (m9 i9 k9 s9 p9 q9 : Int) (T' : Zt) (r : Option Zv) : Prop := ∃ x : Int, r = some (vI x) ∧ IC_ N T' ∧ IR_ T' ∧ fr_ [(252, []), (253, []), (255, []), (254, []), (256, []), (244, []), (241, []), (242, []), (243, []), (245, []), (246, []), (236, []), (237, []), (235, []), (248, []), (249, []), (250, []), (251, [])] T T' ∧ ((FM_ T' ∧ RX_ T' [] ∧ ZS_ T' ∧ GX_ T' (-1) ∧ (∀ j, j ≠ m9 ∨ T 111 0 29 ≤ j → T' 254 0 j = T 254 0 j ∧ T' 256 0 j = T 256 0 j) ∧ ((x = -2 ∧ ¬ ((0 ≤ m9 ∧ m9 < T 111 0 29) ∧ 0 ≤ i9 ∧ i9 < T 254 0 m9) ∧ T = T') ∨ (((0 ≤ m9 ∧ m9 < T 111 0 29) ∧ 0 ≤ i9 ∧ i9 < T 254 0 m9) ∧ OMR_ T T' m9 ∧ ((k9 = -1 ∧ RNR_ (rlm_ (fun w => T 205 0 (23 * T 230 0 m9 + w))) m9 x T T' ((rw9_ T m9).eraseIdx i9.toNat)) ∨ (k9 ≠ -1 ∧ ((¬ ((((rlm_ (fun w => T 205 0 (23 * T 230 0 m9 + w))) 0 = 0 ∧ 0 ≤ k9 ∧ k9 ≤ 5) ∨ ((rlm_ (fun w => T 205 0 (23 * T 230 0 m9 + w))) 0 = 1 ∧ (k9 = 1 ∨ k9 = 5)) ∨ ((rlm_ (fun w => T 205 0 (23 * T 230 0 m9 + w))) 0 = 2 ∧ (k9 = 1 ∨ k9 = 6)) ∨ (¬ (rlm_ (fun w => T 205 0 (23 * T 230 0 m9 + w))) 0 = 0 ∧ ¬ (rlm_ (fun w => T 205 0 (23 * T 230 0 m9 + w))) 0 = 1 ∧ ¬ (rlm_ (fun w => T 205 0 (23 * T 230 0 m9 + w))) 0 = 2 ∧ 1 ≤ k9 ∧ k9 ≤ 4)) ∧ (((rlm_ (fun w => T 205 0 (23 * T 230 0 m9 + w))) 0 = 0 ∧ k9 = 0) ∨ (0 ≤ s9 ∧ s9 ≤ 1))) ∧ x = -12 ∧ T = T') ∨ (((((rlm_ (fun w => T 205 0 (23 * T 230 0 m9 + w))) 0 = 0 ∧ 0 ≤ k9 ∧ k9 ≤ 5) ∨ ((rlm_ (fun w => T 205 0 (23 * T 230 0 m9 + w))) 0 = 1 ∧ (k9 = 1 ∨ k9 = 5)) ∨ ((rlm_ (fun w => T 205 0 (23 * T 230 0 m9 + w))) 0 = 2 ∧ (k9 = 1 ∨ k9 = 6)) ∨ (¬ (rlm_ (fun w => T 205 0 (23 * T 230 0 m9 + w))) 0 = 0 ∧ ¬ (rlm_ (fun w => T 205 0 (23 * T 230 0 m9 + w))) 0 = 1 ∧ ¬ (rlm_ (fun w => T 205 0 (23 * T 230 0 m9 + w))) 0 = 2 ∧ 1 ≤ k9 ∧ k9 ≤ 4)) ∧ (((rlm_ (fun w => T 205 0 (23 * T 230 0 m9 + w))) 0 = 0 ∧ k9 = 0) ∨ (0 ≤ s9 ∧ s9 ≤ 1))) ∧ ¬ ((rlm_ (fun w => T 205 0 (23 * T 230 0 m9 + w))) 0 ≠ 3 ∨ k9 ≠ 1 ∨ (1 ≤ q9 ∧ q9 ≤ 4)) ∧ x = -17 ∧ T = T') ∨ (((((rlm_ (fun w => T 205 0 (23 * T 230 0 m9 + w))) 0 = 0 ∧ 0 ≤ k9 ∧ k9 ≤ 5) ∨ ((rlm_ (fun w => T 205 0 (23 * T 230 0 m9 + w))) 0 = 1 ∧ (k9 = 1 ∨ k9 = 5)) ∨ ((rlm_ (fun w => T 205 0 (23 * T 230 0 m9 + w))) 0 = 2 ∧ (k9 = 1 ∨ k9 = 6)) ∨ (¬ (rlm_ (fun w => T 205 0 (23 * T 230 0 m9 + w))) 0 = 0 ∧ ¬ (rlm_ (fun w => T 205 0 (23 * T 230 0 m9 + w))) 0 = 1 ∧ ¬ (rlm_ (fun w => T 205 0 (23 * T 230 0 m9 + w))) 0 = 2 ∧ 1 ≤ k9 ∧ k9 ≤ 4)) ∧ (((rlm_ (fun w => T 205 0 (23 * T 230 0 m9 + w))) 0 = 0 ∧ k9 = 0) ∨ (0 ≤ s9 ∧ s9 ≤ 1))) ∧ ((rlm_ (fun w => T 205 0 (23 * T 230 0 m9 + w))) 0 ≠ 3 ∨ k9 ≠ 1 ∨ (1 ≤ q9 ∧ q9 ≤ 4)) ∧ (rw9_ T m9)[i9.toNat]? = some (k9, s9, p9, q9) ∧ x = -20 ∧ T = T') ∨ (((((rlm_ (fun w => T 205 0 (23 * T 230 0 m9 + w))) 0 = 0 ∧ 0 ≤ k9 ∧ k9 ≤ 5) ∨ ((rlm_ (fun w => T 205 0 (23 * T 230 0 m9 + w))) 0 = 1 ∧ (k9 = 1 ∨ k9 = 5)) ∨ ((rlm_ (fun w => T 205 0 (23 * T 230 0 m9 + w))) 0 = 2 ∧ (k9 = 1 ∨ k9 = 6)) ∨ (¬ (rlm_ (fun w => T 205 0 (23 * T 230 0 m9 + w))) 0 = 0 ∧ ¬ (rlm_ (fun w => T 205 0 (23 * T 230 0 m9 + w))) 0 = 1 ∧ ¬ (rlm_ (fun w => T 205 0 (23 * T 230 0 m9 + w))) 0 = 2 ∧ 1 ≤ k9 ∧ k9 ≤ 4)) ∧ (((rlm_ (fun w => T 205 0 (23 * T 230 0 m9 + w))) 0 = 0 ∧ k9 = 0) ∨ (0 ≤ s9 ∧ s9 ≤ 1))) ∧ ((rlm_ (fun w => T 205 0 (23 * T 230 0 m9 + w))) 0 ≠ 3 ∨ k9 ≠ 1 ∨ (1 ≤ q9 ∧ q9 ≤ 4)) ∧ ¬ ((rw9_ T m9)[i9.toNat]? = some (k9, s9, p9, q9)) ∧ RNR_ (rlm_ (fun w => T 205 0 (23 * T 230 0 m9 + w))) m9 x T T' ((rw9_ T m9).set i9.toNat (k9, s9, p9, q9))))))))))
set_option maxRecDepth 100000 in
theorem cm_review {N : Int} {T : Zt} {m9 i9 k9 s9 p9 q9 : Int} (hT : ok_T T) (hI : IC_ N T) (hR : IR_ T) : Cw_ yX11_review zX11_review T [vR 111 0, vI m9, vI i9, vI k9, vI s9, vI p9, vI q9] (qm_review N T m9 i9 k9 s9 p9 q9) := by
  refine ⟨_, ct_X11_review_e hR.2.2.2.2.2.1 hR.2.1 hR.2.2.2.2.2.2.2.1 hR.2.2.2.2.2.2.2.2.1 hR.2.2.2.2.2.2.2.2.2.2.1 hR.2.2.2.2.2.2.2.2.2.2.2 rlm_r, fun T1 r q => ?_⟩
  obtain ⟨x, rfl, f, h⟩ := q
  have g := (ir_review hR (show po_X11_review T m9 i9 k9 s9 p9 q9 T1 (some (vI x)) from ⟨x, rfl, f, h.1, h.2.1, h.2.2.1, h.2.2.2.1, h.2.2.2.2.1⟩))
  exact ⟨x, rfl, ic_g hI (fr_s f (by decide +kernel)), g, f, h⟩
def qm_rows (N : Int) (T : Zt) (m9 w9 : Int) (T' : Zt) (r : Option Zv) : Prop := ∃ x : Int, r = some (vI x) ∧ IC_ N T' ∧ IR_ T' ∧ fr_ [] T T' ∧ ((x = -2 ∧ ¬ (0 ≤ m9 ∧ m9 < T 111 0 29)) ∨ ((0 ≤ m9 ∧ m9 < T 111 0 29) ∧ ((¬ (0 ≤ w9 ∧ w9 ≤ 1) ∧ x = -3) ∨ (w9 = 0 ∧ x = T 254 0 m9) ∨ (w9 = 1 ∧ x = T 256 0 m9))))
set_option maxRecDepth 100000 in
theorem cm_rows {N : Int} {T : Zt} {m9 w9 : Int} (hT : ok_T T) (hI : IC_ N T) (hR : IR_ T) : Cw_ yX11_rows zX11_rows T [vR 111 0, vI m9, vI w9] (qm_rows N T m9 w9) := by
  refine ⟨_, ct_X11_rows_e , fun T1 r q => ?_⟩
  obtain ⟨e, x, rfl, h⟩ := q
  subst e
  exact ⟨x, rfl, hI, hR, fr_0 _ _, h⟩
def qm_row (N : Int) (T : Zt) (m9 i9 w9 : Int) (T' : Zt) (r : Option Zv) : Prop := ∃ x : Int, r = some (vI x) ∧ IC_ N T' ∧ IR_ T' ∧ fr_ [] T T' ∧ (True)
set_option maxRecDepth 100000 in
theorem cm_row {N : Int} {T : Zt} {m9 i9 w9 : Int} (hT : ok_T T) (hI : IC_ N T) (hR : IR_ T) : Cw_ yX11_row zX11_row T [vR 111 0, vI m9, vI i9, vI w9] (qm_row N T m9 i9 w9) := by
  refine ⟨_, ct_X11_row hR.2.2.2.2.2.2.2.2.1, fun T1 r q => ?_⟩
  obtain ⟨e, x, rfl, h⟩ := q
  subst e
  exact ⟨x, rfl, hI, hR, fr_0 _ _, trivial⟩
def qm_state (N : Int) (T : Zt) (m9 w9 : Int) (T' : Zt) (r : Option Zv) : Prop := ∃ x : Int, r = some (vI x) ∧ IC_ N T' ∧ IR_ T' ∧ fr_ [] T T' ∧ ((x = -2 ∧ ¬ (0 ≤ m9 ∧ m9 < T 111 0 29)) ∨ ((0 ≤ m9 ∧ m9 < T 111 0 29) ∧ ((¬ (0 ≤ w9 ∧ w9 ≤ 7) ∧ x = -3) ∨ ((0 ≤ w9 ∧ w9 ≤ 7) ∧ ((¬ (T 235 0 m9 = 1 ∨ T 235 0 m9 = 2) ∧ x = -4) ∨ ((T 235 0 m9 = 1 ∨ T 235 0 m9 = 2) ∧ x = T 246 0 (8 * m9 + w9)))))))
set_option maxRecDepth 100000 in
theorem cm_state {N : Int} {T : Zt} {m9 w9 : Int} (hT : ok_T T) (hI : IC_ N T) (hR : IR_ T) : Cw_ yX11_state zX11_state T [vR 111 0, vI m9, vI w9] (qm_state N T m9 w9) := by
  refine ⟨_, ct_X11_state_e , fun T1 r q => ?_⟩
  obtain ⟨e, x, rfl, h⟩ := q
  subst e
  exact ⟨x, rfl, hI, hR, fr_0 _ _, h⟩
def qm_onField (N : Int) (T : Zt) (m9 s9 i9 : Int) (T' : Zt) (r : Option Zv) : Prop := ∃ x : Int, r = some (vI x) ∧ IC_ N T' ∧ IR_ T' ∧ fr_ [] T T' ∧ ((x = -2 ∧ ¬ (0 ≤ m9 ∧ m9 < T 111 0 29)) ∨ ((0 ≤ m9 ∧ m9 < T 111 0 29) ∧ ((¬ (0 ≤ s9 ∧ s9 ≤ 1) ∧ x = -3) ∨ ((0 ≤ s9 ∧ s9 ≤ 1) ∧ ((¬ ((T 235 0 m9 = 1 ∨ T 235 0 m9 = 2) ∧ 0 ≤ i9 ∧ i9 < T 244 0 (2 * m9 + s9)) ∧ x = -1) ∨ ((T 235 0 m9 = 1 ∨ T 235 0 m9 = 2) ∧ (0 ≤ i9 ∧ i9 < T 244 0 (2 * m9 + s9)) ∧ x = T 240 0 (T 245 0 (6 * (2 * m9 + s9) + i9))))))))
set_option maxRecDepth 100000 in
theorem cm_onField {N : Int} {T : Zt} {m9 s9 i9 : Int} (hT : ok_T T) (hI : IC_ N T) (hR : IR_ T) : Cw_ yX11_onField zX11_onField T [vR 111 0, vI m9, vI s9, vI i9] (qm_onField N T m9 s9 i9) := by
  refine ⟨_, ct_X11_onField_e , fun T1 r q => ?_⟩
  obtain ⟨e, x, rfl, h⟩ := q
  subst e
  exact ⟨x, rfl, hI, hR, fr_0 _ _, h⟩
def qm_table (N : Int) (T : Zt) (c9 d9 cl9 w9 : Int) (T' : Zt) (r : Option Zv) : Prop := ∃ x : Int, r = some (vI x) ∧ IC_ N T' ∧ IR_ T' ∧ fr_ [(276, []), (284, []), (277, []), (286, []), (278, []), (111, [82, 83, 85, 87, 79])] T T' ∧ (True)
set_option maxRecDepth 100000 in
theorem cm_table {N : Int} {T : Zt} {c9 d9 cl9 w9 : Int} (hT : ok_T T) (hI : IC_ N T) (hR : IR_ T) : Cw_ yX11_table zX11_table T [vR 111 0, vI c9, vI d9, vI cl9, vI w9] (qm_table N T c9 d9 cl9 w9) := by
  have hr4 : ∀ m, 0 ≤ m → m < 400 → T 254 0 m ≤ 3000 := fun m a _ => (bd_a hT 254 (by decide +kernel : ta_ 254 = some (1, some 400, 0, 3000)) 0 a).2
  refine ⟨_, ct_X11_table hR.2.1 hR.2.2.2.2.1 (sc_g hR.2.2.2.2.2.2.2.2.2.2.2 hr4) (yb_g hR.2.2.2.2.2.2.2.2.2.2.2 hr4), fun T1 r q => ?_⟩
  have g := (ir_table hR q)
  obtain ⟨x, rfl, f, h⟩ := q
  exact ⟨x, rfl, ic_g hI (fr_s f (by decide +kernel)), g, f, trivial⟩
def qm_standing (N : Int) (T : Zt) (c9 d9 k9 : Int) (T' : Zt) (r : Option Zv) : Prop := ∃ x : Int, r = some (vI x) ∧ IC_ N T' ∧ IR_ T' ∧ fr_ [(276, []), (284, []), (277, []), (286, []), (278, []), (111, [82, 83, 85, 87, 79])] T T' ∧ (True)
set_option maxRecDepth 100000 in
theorem cm_standing {N : Int} {T : Zt} {c9 d9 k9 : Int} (hT : ok_T T) (hI : IC_ N T) (hR : IR_ T) : Cw_ yX11_standing zX11_standing T [vR 111 0, vI c9, vI d9, vI k9] (qm_standing N T c9 d9 k9) := by
  have hr4 : ∀ m, 0 ≤ m → m < 400 → T 254 0 m ≤ 3000 := fun m a _ => (bd_a hT 254 (by decide +kernel : ta_ 254 = some (1, some 400, 0, 3000)) 0 a).2
  refine ⟨_, ct_X11_standing hR.2.1 hR.2.2.2.2.1 (sc_g hR.2.2.2.2.2.2.2.2.2.2.2 hr4) (yb_g hR.2.2.2.2.2.2.2.2.2.2.2 hr4), fun T1 r q => ?_⟩
  have g := (ir_standing hR q)
  obtain ⟨x, rfl, f, h⟩ := q
  exact ⟨x, rfl, ic_g hI (fr_s f (by decide +kernel)), g, f, trivial⟩
def qm_parted (N : Int) (T : Zt) (c9 d9 k9 : Int) (T' : Zt) (r : Option Zv) : Prop := ∃ x : Int, r = some (vI x) ∧ IC_ N T' ∧ IR_ T' ∧ fr_ [(276, []), (284, []), (277, []), (286, []), (278, []), (111, [82, 83, 85, 87, 79])] T T' ∧ (True)
set_option maxRecDepth 100000 in
theorem cm_parted {N : Int} {T : Zt} {c9 d9 k9 : Int} (hT : ok_T T) (hI : IC_ N T) (hR : IR_ T) : Cw_ yX11_parted zX11_parted T [vR 111 0, vI c9, vI d9, vI k9] (qm_parted N T c9 d9 k9) := by
  have hr4 : ∀ m, 0 ≤ m → m < 400 → T 254 0 m ≤ 3000 := fun m a _ => (bd_a hT 254 (by decide +kernel : ta_ 254 = some (1, some 400, 0, 3000)) 0 a).2
  refine ⟨_, ct_X11_parted hR.2.1 hR.2.2.2.2.1 (sc_g hR.2.2.2.2.2.2.2.2.2.2.2 hr4) (yb_g hR.2.2.2.2.2.2.2.2.2.2.2 hr4), fun T1 r q => ?_⟩
  have g := (ir_parted hR q)
  obtain ⟨x, rfl, f, h⟩ := q
  exact ⟨x, rfl, ic_g hI (fr_s f (by decide +kernel)), g, f, trivial⟩
def qm_can (N : Int) (T : Zt) (c9 cl9 : Int) (T' : Zt) (r : Option Zv) : Prop := ∃ x : Int, r = some (vI x) ∧ IC_ N T' ∧ IR_ T' ∧ fr_ [(276, []), (291, []), (292, []), (293, []), (294, []), (296, []), (289, []), (297, []), (111, [80, 82, 83, 90, 95, 88])] T T' ∧ ((T 111 0 80 = 0 → T' 111 0 80 = 0) ∧ ((T 111 0 80 = 0 ∧ (0 ≤ c9 → c9 < T 111 0 6 → ∀ j, T 210 0 c9 ≤ j → j < T 210 0 c9 + T 211 0 c9 → T 232 0 j ≠ T 233 0 j)) → ((x = -2 ∧ ¬ ((0 ≤ c9 ∧ c9 < T 111 0 6) ∧ (0 ≤ cl9 ∧ cl9 < T 111 0 12)) ∧ T = T') ∨ (((0 ≤ c9 ∧ c9 < T 111 0 6) ∧ (0 ≤ cl9 ∧ cl9 < T 111 0 12)) ∧ ((x = -4 ∧ ¬ (T 209 0 c9 ≠ 0 ∧ HE_ T c9 cl9) ∧ T = T') ∨ ((T 209 0 c9 ≠ 0 ∧ HE_ T c9 cl9) ∧ CN7_ T T' c9 cl9 x))))))
set_option maxRecDepth 100000 in
theorem cm_can {N : Int} {T : Zt} {c9 cl9 : Int} (hT : ok_T T) (hI : IC_ N T) (hR : IR_ T) : Cw_ yX11_can zX11_can T [vR 111 0, vI c9, vI cl9] (qm_can N T c9 cl9) := by
  have hr4 : ∀ m, 0 ≤ m → m < 400 → T 254 0 m ≤ 3000 := fun m a _ => (bd_a hT 254 (by decide +kernel : ta_ 254 = some (1, some 400, 0, 3000)) 0 a).2
  by_cases hh : (T 111 0 80 = 0 ∧ (0 ≤ c9 → c9 < T 111 0 6 → ∀ j, T 210 0 c9 ≤ j → j < T 210 0 c9 + T 211 0 c9 → T 232 0 j ≠ T 233 0 j))
  · refine ⟨_, ct_X11_can_h hR.2.1 hR.2.2.1 hR.2.2.2.2.1 (sc_g hR.2.2.2.2.2.2.2.2.2.2.2 hr4) (yb_g hR.2.2.2.2.2.2.2.2.2.2.2 hr4) hh.1 hh.2 (fun c i a b p q => by
      have y := bd_a hT 207 (by decide +kernel : ta_ 207 = some (1, some 48, 0, 11)) 0 (x := 12 * c + i) (by omega)
      exact ⟨y.1, Int.lt_of_le_of_lt y.2 (by decide)⟩), fun T1 r q => ?_⟩
    obtain ⟨x, rfl, f, h⟩ := q
    have g := (ir_can hR (show po_X11_can T c9 cl9 T1 (some (vI x)) from ⟨x, rfl, f, trivial⟩))
    exact ⟨x, rfl, ic_g hI (fr_s f (by decide +kernel)), g, f, fun _ => h.1, fun _ => h.2⟩
  · refine ⟨_, ct_X11_can_e hR.2.1 hR.2.2.1 hR.2.2.2.2.1 (sc_g hR.2.2.2.2.2.2.2.2.2.2.2 hr4) (yb_g hR.2.2.2.2.2.2.2.2.2.2.2 hr4), fun T1 r q => ?_⟩
    obtain ⟨x, rfl, f, h⟩ := q
    have g := (ir_can hR (show po_X11_can T c9 cl9 T1 (some (vI x)) from ⟨x, rfl, f, trivial⟩))
    exact ⟨x, rfl, ic_g hI (fr_s f (by decide +kernel)), g, f, h, fun z => absurd z hh⟩
def qm_witness (N : Int) (T : Zt) (m9 : Int) (T' : Zt) (r : Option Zv) : Prop := ∃ x : Int, r = some (vI x) ∧ IC_ N T' ∧ IR_ T' ∧ fr_ [] T T' ∧ ((x = -2 ∧ ¬ (0 ≤ m9 ∧ m9 < T 111 0 29)) ∨ ((0 ≤ m9 ∧ m9 < T 111 0 29) ∧ (((T 111 0 88 = -1 ∨ T 230 0 m9 ≠ T 111 0 88) ∧ x = -1) ∨ (T 111 0 88 ≠ -1 ∧ T 230 0 m9 = T 111 0 88 ∧ x = T 289 0 m9))))
set_option maxRecDepth 100000 in
theorem cm_witness {N : Int} {T : Zt} {m9 : Int} (hT : ok_T T) (hI : IC_ N T) (hR : IR_ T) : Cw_ yX11_witness zX11_witness T [vR 111 0, vI m9] (qm_witness N T m9) := by
  refine ⟨_, ct_X11_witness_e , fun T1 r q => ?_⟩
  obtain ⟨e, x, rfl, h⟩ := q
  subst e
  exact ⟨x, rfl, hI, hR, fr_0 _ _, h⟩
def qm_cut (N : Int) (T : Zt) (T' : Zt) (r : Option Zv) : Prop := ∃ x : Int, r = some (vI x) ∧ IC_ N T' ∧ IR_ T' ∧ fr_ [] T T' ∧ (x = T 111 0 90)
set_option maxRecDepth 100000 in
theorem cm_cut {N : Int} {T : Zt} (hT : ok_T T) (hI : IC_ N T) (hR : IR_ T) : Cw_ yX11_cut zX11_cut T [vR 111 0] (qm_cut N T) := by
  refine ⟨_, ct_X11_cut_e , fun T1 r q => ?_⟩
  obtain ⟨e, x, rfl, h⟩ := q
  subst e
  exact ⟨x, rfl, hI, hR, fr_0 _ _, h⟩
def qm_firsts (N : Int) (T : Zt) (c9 cl9 : Int) (T' : Zt) (r : Option Zv) : Prop := ∃ x : Int, r = some (vI x) ∧ IC_ N T' ∧ IR_ T' ∧ fr_ [(276, []), (284, []), (277, []), (286, []), (278, []), (297, []), (281, []), (111, [82, 83, 85, 87, 79, 80])] T T' ∧ ((T 111 0 80 = 0 → T' 111 0 80 = 0))
set_option maxRecDepth 100000 in
theorem cm_firsts {N : Int} {T : Zt} {c9 cl9 : Int} (hT : ok_T T) (hI : IC_ N T) (hR : IR_ T) : Cw_ yX11_firsts zX11_firsts T [vR 111 0, vI c9, vI cl9] (qm_firsts N T c9 cl9) := by
  have hr4 : ∀ m, 0 ≤ m → m < 400 → T 254 0 m ≤ 3000 := fun m a _ => (bd_a hT 254 (by decide +kernel : ta_ 254 = some (1, some 400, 0, 3000)) 0 a).2
  refine ⟨_, ct_X11_firsts_e hR.2.1 hR.2.2.2.2.1 (sc_g hR.2.2.2.2.2.2.2.2.2.2.2 hr4) (yb_g hR.2.2.2.2.2.2.2.2.2.2.2 hr4), fun T1 r q => ?_⟩
  obtain ⟨x, rfl, f, h⟩ := q
  have g := (ir_firsts hR (show po_X11_firsts T c9 cl9 T1 (some (vI x)) from ⟨x, rfl, f, trivial⟩))
  exact ⟨x, rfl, ic_g hI (fr_s f (by decide +kernel)), g, f, h⟩
def qm_drawing (N : Int) (T : Zt) (g9 l9 : Int) (T' : Zt) (r : Option Zv) : Prop := ∃ x : Int, r = some (vI x) ∧ IC_ N T' ∧ IR_ T' ∧ fr_ [(111, [98, 99, 100]), (301, []), (302, [])] T T' ∧ (True)
set_option maxRecDepth 100000 in
theorem cm_drawing {N : Int} {T : Zt} {g9 l9 : Int} (hT : ok_T T) (hI : IC_ N T) (hR : IR_ T) : Cw_ yX11_drawing zX11_drawing T [vR 111 0, vI g9, vI l9] (qm_drawing N T g9 l9) := by
  refine ⟨_, ct_X11_drawing , fun T1 r q => ?_⟩
  have g := (ir_drawing hR q)
  obtain ⟨x, rfl, f, h⟩ := q
  exact ⟨x, rfl, ic_g hI (fr_s f (by decide +kernel)), g, f, trivial⟩
def qm_pot (N : Int) (T : Zt) (cl9 p9 : Int) (T' : Zt) (r : Option Zv) : Prop := ∃ x : Int, r = some (vI x) ∧ IC_ N T' ∧ IR_ T' ∧ fr_ [(301, [])] T T' ∧ (True)
set_option maxRecDepth 100000 in
theorem cm_pot {N : Int} {T : Zt} {cl9 p9 : Int} (hT : ok_T T) (hI : IC_ N T) (hR : IR_ T) : Cw_ yX11_pot zX11_pot T [vR 111 0, vI cl9, vI p9] (qm_pot N T cl9 p9) := by
  refine ⟨_, ct_X11_pot , fun T1 r q => ?_⟩
  have g := (ir_pot hR q)
  obtain ⟨x, rfl, f, h⟩ := q
  exact ⟨x, rfl, ic_g hI (fr_s f (by decide +kernel)), g, f, trivial⟩
def qm_ways (N : Int) (T : Zt) (T' : Zt) (r : Option Zv) : Prop := ∃ x : Int, r = some (vI x) ∧ IC_ N T' ∧ IR_ T' ∧ fr_ [(304, []), (305, []), (302, [])] T T' ∧ (True)
set_option maxRecDepth 100000 in
theorem cm_ways {N : Int} {T : Zt} (hT : ok_T T) (hI : IC_ N T) (hR : IR_ T) : Cw_ yX11_ways zX11_ways T [vR 111 0] (qm_ways N T) := by
  refine ⟨_, ct_X11_ways , fun T1 r q => ?_⟩
  have g := (ir_ways hR q)
  obtain ⟨x, rfl, f, h⟩ := q
  exact ⟨x, rfl, ic_g hI (fr_s f (by decide +kernel)), g, f, trivial⟩
def qm_chance (N : Int) (T : Zt) (cl9 g9 : Int) (T' : Zt) (r : Option Zv) : Prop := ∃ x : Int, r = some (vI x) ∧ IC_ N T' ∧ IR_ T' ∧ fr_ [(304, []), (305, []), (302, [])] T T' ∧ (True)
set_option maxRecDepth 100000 in
theorem cm_chance {N : Int} {T : Zt} {cl9 g9 : Int} (hT : ok_T T) (hI : IC_ N T) (hR : IR_ T) : Cw_ yX11_chance zX11_chance T [vR 111 0, vI cl9, vI g9] (qm_chance N T cl9 g9) := by
  refine ⟨_, ct_X11_chance , fun T1 r q => ?_⟩
  have g := (ir_chance hR q)
  obtain ⟨x, rfl, f, h⟩ := q
  exact ⟨x, rfl, ic_g hI (fr_s f (by decide +kernel)), g, f, trivial⟩
def qm_ball (N : Int) (T : Zt) (ta9 fi9 : Int) (T' : Zt) (r : Option Zv) : Prop := ∃ x : Int, r = some (vI x) ∧ IC_ N T' ∧ IR_ T' ∧ fr_ [(304, []), (305, []), (302, []), (111, [103])] T T' ∧ (True)
set_option maxRecDepth 100000 in
theorem cm_ball {N : Int} {T : Zt} {ta9 fi9 : Int} (hT : ok_T T) (hI : IC_ N T) (hR : IR_ T) : Cw_ yX11_ball zX11_ball T [vR 111 0, vI ta9, vI fi9] (qm_ball N T ta9 fi9) := by
  refine ⟨_, ct_X11_ball , fun T1 r q => ?_⟩
  have g := (ir_ball hR q)
  obtain ⟨x, rfl, f, h⟩ := q
  exact ⟨x, rfl, ic_g hI (fr_s f (by decide +kernel)), g, f, trivial⟩
def qm_drawn (N : Int) (T : Zt) (c9 : Int) (T' : Zt) (r : Option Zv) : Prop := ∃ x : Int, r = some (vI x) ∧ IC_ N T' ∧ IR_ T' ∧ fr_ [] T T' ∧ (True)
set_option maxRecDepth 100000 in
theorem cm_drawn {N : Int} {T : Zt} {c9 : Int} (hT : ok_T T) (hI : IC_ N T) (hR : IR_ T) : Cw_ yX11_drawn zX11_drawn T [vR 111 0, vI c9] (qm_drawn N T c9) := by
  refine ⟨_, ct_X11_drawn , fun T1 r q => ?_⟩
  obtain ⟨e, x, rfl, h⟩ := q
  subst e
  exact ⟨x, rfl, hI, hR, fr_0 _ _, trivial⟩
def qm_assign (N : Int) (T : Zt) (d9 : Int) (T' : Zt) (r : Option Zv) : Prop := ∃ x : Int, r = some (vI x) ∧ IC_ N T' ∧ IR_ T' ∧ fr_ [(306, []), (308, []), (311, []), (309, []), (310, []), (238, []), (111, [107, 112, 113])] T T' ∧ (True)
set_option maxRecDepth 100000 in
theorem cm_assign {N : Int} {T : Zt} {d9 : Int} (hT : ok_T T) (hI : IC_ N T) (hR : IR_ T) : Cw_ yX11_assign zX11_assign T [vR 111 0, vI d9] (qm_assign N T d9) := by
  refine ⟨_, ct_X11_assign , fun T1 r q => ?_⟩
  have g := (ir_assign hR q)
  obtain ⟨x, rfl, f, h⟩ := q
  exact ⟨x, rfl, ic_g hI (fr_s f (by decide +kernel)), g, f, trivial⟩
def qm_officialOf (N : Int) (T : Zt) (m9 : Int) (T' : Zt) (r : Option Zv) : Prop := ∃ x : Int, r = some (vI x) ∧ IC_ N T' ∧ IR_ T' ∧ fr_ [] T T' ∧ (True)
set_option maxRecDepth 100000 in
theorem cm_officialOf {N : Int} {T : Zt} {m9 : Int} (hT : ok_T T) (hI : IC_ N T) (hR : IR_ T) : Cw_ yX11_officialOf zX11_officialOf T [vR 111 0, vI m9] (qm_officialOf N T m9) := by
  refine ⟨_, ct_X11_officialOf , fun T1 r q => ?_⟩
  obtain ⟨e, x, rfl, h⟩ := q
  subst e
  exact ⟨x, rfl, hI, hR, fr_0 _ _, trivial⟩
def qm_count (N : Int) (T : Zt) (w9 : Int) (T' : Zt) (r : Option Zv) : Prop := ∃ x : Int, r = some (vI x) ∧ IC_ N T' ∧ IR_ T' ∧ fr_ [] T T' ∧ ((w9 = 0 ∧ x = T 111 0 12) ∨ (w9 = 1 ∧ x = T 111 0 15) ∨ (w9 = 2 ∧ x = T 111 0 16) ∨ (w9 = 3 ∧ x = T 111 0 21) ∨ (w9 = 4 ∧ x = T 111 0 6) ∨ (w9 = 5 ∧ x = T 111 0 29) ∨ (w9 = 6 ∧ x = T 111 0 47) ∨ (w9 = 7 ∧ x = T 111 0 3) ∨ (¬ (0 ≤ w9 ∧ w9 ≤ 7) ∧ x = -3))
set_option maxRecDepth 100000 in
theorem cm_count {N : Int} {T : Zt} {w9 : Int} (hT : ok_T T) (hI : IC_ N T) (hR : IR_ T) : Cw_ yX11_count zX11_count T [vR 111 0, vI w9] (qm_count N T w9) := by
  refine ⟨_, ct_X11_count_e , fun T1 r q => ?_⟩
  obtain ⟨e, x, rfl, h⟩ := q
  subst e
  exact ⟨x, rfl, hI, hR, fr_0 _ _, h⟩
theorem fzq_ {T T' : Zt} (f : fr_ [] T T') : T' = T := funext (fun k => funext (fun i => funext (fun j => f k i j rfl)))
set_option maxRecDepth 100000 in
theorem re_sign {N : Int} {T T1 T2 : Zt} {c9 : Int} {r1 r2 : Option Zv} (hT : ok_T T) (hI : IC_ N T) (hR : IR_ T) (h : RE_ T) (a : qx_sign N T c9 T1 r1) (b : qm_sign (N + 1) T1 c9 T2 r2) : LQo_ N T2 r1 r2 := by
  obtain ⟨x1, e1, -, -, f1, d1⟩ := a
  obtain ⟨x2, e2, i2, j2, f2, d2⟩ := b
  obtain ⟨hCNR, hTHR, hSPR, hTXR, hENR, hMAR, hDER, hPLR, hLDR, hRCR, hDAR, hMVR, hCNO, hCLM, hSUP, hKNK, hHNA, hWIT, hCUT⟩ := h
  obtain ⟨ex, ht2⟩ := txr_s hTXR (bd_f hT 105 1 tl_5_1 0).1 ⟨f1 105 0 3 rfl, f1 106 0 2 rfl, fun c j => f1 401 c j rfl, fun c j => f1 402 c j rfl⟩ d1 (⟨f1 111 0 1 rfl, f1 111 0 2 rfl, f1 111 0 6 rfl, fun j => f1 200 0 j rfl, fun j => f1 205 0 j rfl⟩) ⟨f2 111 0 2 rfl, f2 111 0 6 rfl, fun j => f2 205 0 j rfl⟩ d2 (⟨f2 105 0 1 rfl, f2 105 0 3 rfl, f2 106 0 2 rfl, fun j => f2 500 0 j rfl, fun c j => f2 401 c j rfl, fun c j => f2 402 c j rfl⟩)
  subst ex
  exact ⟨_, e1, e2, i2, j2, CNR_q hCNR (ks_t (ks_f f1 (by decide +kernel)) (ks_f f2 (by decide +kernel))), THR_q hTHR (ks_t (ks_f f1 (by decide +kernel)) (ks_f f2 (by decide +kernel))), SPR_q hSPR (ks_t (ks_f f1 (by decide +kernel)) (ks_f f2 (by decide +kernel))), ht2, ENR_q hENR (ks_t (ks_f f1 (by decide +kernel)) (ks_f f2 (by decide +kernel))), MAR_q hMAR (ks_t (ks_f f1 (by decide +kernel)) (ks_f f2 (by decide +kernel))), DER_q hDER (ks_t (ks_f f1 (by decide +kernel)) (ks_f f2 (by decide +kernel))), PLR_q hPLR (ks_t (ks_f f1 (by decide +kernel)) (ks_f f2 (by decide +kernel))), LDR_q hLDR (ks_t (ks_f f1 (by decide +kernel)) (ks_f f2 (by decide +kernel))), RCR_q hRCR (ks_t (ks_f f1 (by decide +kernel)) (ks_f f2 (by decide +kernel))), DAR_q hDAR (ks_t (ks_f f1 (by decide +kernel)) (ks_f f2 (by decide +kernel))), MVR_q hMVR (ks_t (ks_f f1 (by decide +kernel)) (ks_f f2 (by decide +kernel))), CNO_q hCNO (ks_t (ks_f f1 (by decide +kernel)) (ks_f f2 (by decide +kernel))), CLM_q hCLM (ks_t (ks_f f1 (by decide +kernel)) (ks_f f2 (by decide +kernel))), SUP_q hSUP (ks_t (ks_f f1 (by decide +kernel)) (ks_f f2 (by decide +kernel))), KNK_q hKNK (ks_t (ks_f f1 (by decide +kernel)) (ks_f f2 (by decide +kernel))), HNA_q hHNA (ks_t (ks_f f1 (by decide +kernel)) (ks_f f2 (by decide +kernel))), WIT_q hWIT (ks_t (ks_f f1 (by decide +kernel)) (ks_f f2 (by decide +kernel))), CUT_q hCUT (ks_t (ks_f f1 (by decide +kernel)) (ks_f f2 (by decide +kernel)))⟩
set_option maxRecDepth 100000 in
theorem re_wipe {N : Int} {T T1 T2 : Zt} {r1 r2 : Option Zv} (hT : ok_T T) (hI : IC_ N T) (hR : IR_ T) (h : RE_ T) (a : qx_wipe N T T1 r1) (b : qm_wipe (N + 1) T1 T2 r2) : LQo_ N T2 r1 r2 := by
  obtain ⟨x1, e1, -, -, f1, d1⟩ := a
  obtain ⟨x2, e2, i2, j2, f2, d2⟩ := b
  obtain ⟨hCNR, hTHR, hSPR, hTXR, hENR, hMAR, hDER, hPLR, hLDR, hRCR, hDAR, hMVR, hCNO, hCLM, hSUP, hKNK, hHNA, hWIT, hCUT⟩ := h
  obtain ⟨ex, ht2⟩ := txr_w hTXR ⟨f1 105 0 3 rfl, f1 106 0 2 rfl, fun j => f1 500 0 j rfl, fun c j => f1 401 c j rfl, fun c j => f1 402 c j rfl⟩ d1 (⟨f1 111 0 1 rfl, f1 111 0 2 rfl, f1 111 0 6 rfl, fun j => f1 200 0 j rfl, fun j => f1 205 0 j rfl⟩) ⟨f2 111 0 2 rfl, f2 111 0 6 rfl, fun j => f2 200 0 j rfl, fun j => f2 205 0 j rfl⟩ d2 (⟨f2 105 0 1 rfl, f2 105 0 3 rfl, f2 106 0 2 rfl, fun j => f2 500 0 j rfl, fun c j => f2 401 c j rfl, fun c j => f2 402 c j rfl⟩)
  subst ex
  exact ⟨_, e1, e2, i2, j2, CNR_q hCNR (ks_t (ks_f f1 (by decide +kernel)) (ks_f f2 (by decide +kernel))), THR_q hTHR (ks_t (ks_f f1 (by decide +kernel)) (ks_f f2 (by decide +kernel))), SPR_q hSPR (ks_t (ks_f f1 (by decide +kernel)) (ks_f f2 (by decide +kernel))), ht2, ENR_q hENR (ks_t (ks_f f1 (by decide +kernel)) (ks_f f2 (by decide +kernel))), MAR_q hMAR (ks_t (ks_f f1 (by decide +kernel)) (ks_f f2 (by decide +kernel))), DER_q hDER (ks_t (ks_f f1 (by decide +kernel)) (ks_f f2 (by decide +kernel))), PLR_q hPLR (ks_t (ks_f f1 (by decide +kernel)) (ks_f f2 (by decide +kernel))), LDR_q hLDR (ks_t (ks_f f1 (by decide +kernel)) (ks_f f2 (by decide +kernel))), RCR_q hRCR (ks_t (ks_f f1 (by decide +kernel)) (ks_f f2 (by decide +kernel))), DAR_q hDAR (ks_t (ks_f f1 (by decide +kernel)) (ks_f f2 (by decide +kernel))), MVR_q hMVR (ks_t (ks_f f1 (by decide +kernel)) (ks_f f2 (by decide +kernel))), CNO_q hCNO (ks_t (ks_f f1 (by decide +kernel)) (ks_f f2 (by decide +kernel))), CLM_q hCLM (ks_t (ks_f f1 (by decide +kernel)) (ks_f f2 (by decide +kernel))), SUP_q hSUP (ks_t (ks_f f1 (by decide +kernel)) (ks_f f2 (by decide +kernel))), KNK_q hKNK (ks_t (ks_f f1 (by decide +kernel)) (ks_f f2 (by decide +kernel))), HNA_q hHNA (ks_t (ks_f f1 (by decide +kernel)) (ks_f f2 (by decide +kernel))), WIT_q hWIT (ks_t (ks_f f1 (by decide +kernel)) (ks_f f2 (by decide +kernel))), CUT_q hCUT (ks_t (ks_f f1 (by decide +kernel)) (ks_f f2 (by decide +kernel)))⟩
set_option maxRecDepth 100000 in
theorem re_competition {N : Int} {T T1 T2 : Zt} {r1 r2 : Option Zv} (hT : ok_T T) (hI : IC_ N T) (hR : IR_ T) (h : RE_ T) (a : qx_competition N T T1 r1) (b : qm_competition (N + 1) T1 T2 r2) : LQo_ N T2 r1 r2 := by
  obtain ⟨x1, e1, -, -, f1, d1⟩ := a
  obtain ⟨x2, e2, i2, j2, f2, d2⟩ := b
  obtain ⟨hCNR, hTHR, hSPR, hTXR, hENR, hMAR, hDER, hPLR, hLDR, hRCR, hDAR, hMVR, hCNO, hCLM, hSUP, hKNK, hHNA, hWIT, hCUT⟩ := h
  have axt : (∀ j, T1 500 0 j = T 500 0 j) ∧ (∀ i j, i ≠ T 106 0 2 → T1 401 i j = T 401 i j) ∧ (T1 106 0 2 = T 106 0 2 → ∀ i j, T1 402 i j = T 402 i j) := ⟨fun j => f1 500 0 j rfl, fun i j hi => d1.1.elim (fun z => z 401 i j rfl) (fun n => n.2.2.1 401 i j (Or.inr (Or.inr (Or.inl rfl))) hi), fun e i j => d1.1.elim (fun z => z 402 i j rfl) (fun n => absurd e (by have := n.2.1; omega))⟩
  have axn : (T1 106 0 2 = T 106 0 2 ∧ ken_ T T1) ∨ nc_ T T1 := d1.1.elim (fun z => Or.inl ⟨z 106 0 2 rfl, ⟨fun c => ⟨z 100 c 5 rfl, z 100 c 6 rfl, z 100 c 7 rfl, z 100 c 8 rfl⟩, fun c j => z 403 c j rfl, fun c j => z 404 c j rfl⟩⟩) Or.inr
  obtain ⟨ex, ht2⟩ := txr_c hTXR (bd_f hT 105 1 tl_5_1 0).2 (bd_f hT 106 2 tl_6_2 0).1 axt d1.2.1 (⟨f1 111 0 1 rfl, f1 111 0 2 rfl, f1 111 0 6 rfl, fun j => f1 200 0 j rfl, fun j => f1 205 0 j rfl⟩) ⟨fun j => f2 200 0 j rfl, d2.2.2.2.1⟩ d2.2.2.2.2 (⟨f2 105 0 1 rfl, f2 105 0 3 rfl, f2 106 0 2 rfl, fun j => f2 500 0 j rfl, fun c j => f2 401 c j rfl, fun c j => f2 402 c j rfl⟩)
  have en := enr_c hENR (bd_f hT 106 2 tl_6_2 0).1 (axn.imp id (fun n => ⟨n, ch9_s d1.2.1 n⟩)) (⟨fun j => f1 207 0 j rfl, fun j => ⟨f1 208 0 j rfl, f1 209 0 j rfl, f1 210 0 j rfl, f1 211 0 j rfl⟩⟩) (⟨fun c => ⟨f2 100 c 5 rfl, f2 100 c 6 rfl, f2 100 c 7 rfl, f2 100 c 8 rfl⟩, fun c j => f2 403 c j rfl, fun c j => f2 404 c j rfl⟩) (⟨fun j => f2 207 0 j rfl, fun j => ⟨f2 208 0 j rfl, f2 209 0 j rfl, f2 210 0 j rfl, f2 211 0 j rfl⟩⟩) (f2 106 0 2 rfl)
  have cp : ∀ i j, i ≠ T 106 0 2 → T1 401 i j = T 401 i j := axt.2.1
  have pl1 := pl_comp hI hPLR (ks_f f1 (by decide +kernel)) (ks_f f1 (by decide +kernel)) (f1 106 0 4 rfl) (f1 111 0 29 rfl) cp
  have cno : CNO_ T2 := fun c a b => by
    rw [f2 106 0 2 rfl] at b
    rw [f2 100 c 0 rfl]
    rcases d1.1 with z | n
    · rw [z 106 0 2 rfl] at b
      rw [z 100 c 0 rfl]
      exact hCNO c a b
    · by_cases y : c = T 106 0 2
      · rw [y]
        rcases d1.2.2 with u | u
        · exfalso; have := n.2.1; omega
        · exact u
      · rw [n.2.2.1 100 c 0 (Or.inl rfl) y]
        exact hCNO c a (by have := n.2.1; omega)
  subst ex
  exact ⟨_, e1, e2, i2, j2, CNR_q hCNR (ks_t (ks_f f1 (by decide +kernel)) (ks_f f2 (by decide +kernel))), THR_q hTHR (ks_t (ks_f f1 (by decide +kernel)) (ks_f f2 (by decide +kernel))), SPR_q hSPR (ks_t (ks_f f1 (by decide +kernel)) (ks_f f2 (by decide +kernel))), ht2, en, MAR_q hMAR (ks_t (ks_f f1 (by decide +kernel)) (ks_f f2 (by decide +kernel))), DER_q hDER (ks_t (ks_f f1 (by decide +kernel)) (ks_f f2 (by decide +kernel))), PLR_q pl1 (ks_f f2 (by decide +kernel)), LDR_q hLDR (ks_t (ks_f f1 (by decide +kernel)) (ks_f f2 (by decide +kernel))), RCR_q hRCR (ks_t (ks_f f1 (by decide +kernel)) (ks_f f2 (by decide +kernel))), DAR_q hDAR (ks_t (ks_f f1 (by decide +kernel)) (ks_f f2 (by decide +kernel))), MVR_q hMVR (ks_t (ks_f f1 (by decide +kernel)) (ks_f f2 (by decide +kernel))), cno, CLM_q hCLM (ks_t (ks_f f1 (by decide +kernel)) (ks_f f2 (by decide +kernel))), SUP_q hSUP (ks_t (ks_f f1 (by decide +kernel)) (ks_f f2 (by decide +kernel))), KNK_q (knk_c hKNK (bd_f hT 106 2 tl_6_2 0).1 ⟨axt.2.1, axt.2.2⟩ d1.2.1) (ks_f f2 (by decide +kernel)), HNA_q hHNA (ks_t (ks_f f1 (by decide +kernel)) (ks_f f2 (by decide +kernel))), WIT_q (wit_c hWIT (d1.1.elim (fun z => ⟨by rw [z 106 0 2 rfl]; exact Int.le_refl _, fun c _ => z 100 c 6 rfl⟩) (fun n => ⟨by have := n.2.1; omega, fun c hc => n.2.2.1 100 c 6 (Or.inl rfl) (by omega)⟩)) (f1 109 0 2 rfl) (f1 111 0 88 rfl) (f1 106 0 4 rfl) (fun m => f1 102 m 0 rfl) (fun m => f1 584 0 m rfl) (fun m => f1 289 0 m rfl)) (ks_f f2 (by decide +kernel)), CUT_q hCUT (ks_t (ks_f f1 (by decide +kernel)) (ks_f f2 (by decide +kernel)))⟩
set_option maxRecDepth 100000 in
theorem re_fault {N : Int} {T T1 T2 : Zt} {r1 r2 : Option Zv} (hT : ok_T T) (hI : IC_ N T) (hR : IR_ T) (h : RE_ T) (a : qx_fault N T T1 r1) (b : qm_fault (N + 1) T1 T2 r2) : LQo_ N T2 r1 r2 := by
  obtain ⟨x1, e1, -, -, f1, d1⟩ := a
  obtain ⟨x2, e2, i2, j2, f2, d2⟩ := b
  have hR2 := RE_q h (ks_t (ks_f f1 (by decide +kernel)) (ks_f f2 (by decide +kernel)))
  obtain ⟨hCNR, hTHR, hSPR, hTXR, hENR, hMAR, hDER, hPLR, hLDR, hRCR, hDAR, hMVR, hCNO, hCLM, hSUP, hKNK, hHNA, hWIT, hCUT⟩ := h
  have ex : x1 = x2 := by have := hTXR.2.1; have := f1 111 0 2 rfl; omega
  subst ex
  exact ⟨_, e1, e2, i2, j2, hR2⟩
set_option maxRecDepth 100000 in
theorem re_rule {N : Int} {T T1 T2 : Zt} {c9 w9 : Int} {r1 r2 : Option Zv} (hT : ok_T T) (hI : IC_ N T) (hR : IR_ T) (h : RE_ T) (a : qx_rule N T c9 w9 T1 r1) (b : qm_rule (N + 1) T1 c9 w9 T2 r2) : LQo_ N T2 r1 r2 := by
  obtain ⟨x1, e1, -, -, f1, d1⟩ := a
  obtain ⟨x2, e2, i2, j2, f2, d2⟩ := b
  have hR2 := RE_q h (ks_t (ks_f f1 (by decide +kernel)) (ks_f f2 (by decide +kernel)))
  obtain ⟨hCNR, hTHR, hSPR, hTXR, hENR, hMAR, hDER, hPLR, hLDR, hRCR, hDAR, hMVR, hCNO, hCLM, hSUP, hKNK, hHNA, hWIT, hCUT⟩ := h
  rw [fzq_ f1] at d2
  have ex : x1 = x2 := txr_r hTXR d1 d2
  subst ex
  exact ⟨_, e1, e2, i2, j2, hR2⟩
set_option maxRecDepth 100000 in
theorem re_club {N : Int} {T T1 T2 : Zt} {s9 c9 : Int} {r1 r2 : Option Zv} (hT : ok_T T) (hI : IC_ N T) (hR : IR_ T) (h : RE_ T) (a : qx_club N T s9 c9 T1 r1) (b : qm_club (N + 1) T1 s9 c9 T2 r2) : LQo_ N T2 r1 r2 := by
  obtain ⟨x1, e1, -, -, f1, d1⟩ := a
  obtain ⟨x2, e2, i2, j2, f2, d2⟩ := b
  obtain ⟨hCNR, hTHR, hSPR, hTXR, hENR, hMAR, hDER, hPLR, hLDR, hRCR, hDAR, hMVR, hCNO, hCLM, hSUP, hKNK, hHNA, hWIT, hCUT⟩ := h
  obtain ⟨ex, ec, et⟩ := tg9_e hTHR.1 hCNR.1 d1.2 (f1 111 0 12 rfl) (fun j => f1 213 0 j rfl) (fun j => f1 214 0 j rfl) d2.2 (f2 108 0 2 rfl) (fun j => f2 560 0 j rfl) (fun j => f2 561 0 j rfl)
  have lg : T 108 0 2 ≤ T2 108 0 2 ∧ ∀ j, j ≠ T 108 0 2 → T2 561 0 j = T 561 0 j := by
    rw [f2 108 0 2 rfl]
    rcases d1.2 with ⟨z, -⟩ | ⟨-, -, -, z, -, z2⟩
    · rw [z]; exact ⟨Int.le_refl _, fun j _ => by rw [f2 561 0 j rfl, z]⟩
    · exact ⟨by omega, fun j hj => (f2 561 0 j rfl).trans (z2.2 j hj)⟩
  have clm : CLM_ T2 := fun m a b => by
    rw [f2 106 0 4 rfl, f1 106 0 4 rfl] at b
    rw [f2 102 m 3 rfl, f1 102 m 3 rfl, f2 102 m 4 rfl, f1 102 m 4 rfl]
    have y := hCLM m a b
    have z := lg.1
    omega
  subst ex
  exact ⟨_, e1, e2, i2, j2, ⟨ec, (f2 108 0 3 rfl).trans ((f1 108 0 3 rfl).trans (hCNR.2.1.trans ((f1 111 0 15 rfl).symm.trans (f2 111 0 15 rfl).symm))), (f2 108 0 12 rfl).trans ((f1 108 0 12 rfl).trans (hCNR.2.2.1.trans ((f1 111 0 21 rfl).symm.trans (f2 111 0 21 rfl).symm))), (f2 108 0 13 rfl).trans ((f1 108 0 13 rfl).trans (hCNR.2.2.2.trans ((f1 111 0 3 rfl).symm.trans (f2 111 0 3 rfl).symm)))⟩, ⟨et, fun j a b => by rw [f2 108 0 12 rfl, f1 108 0 12 rfl] at b; rw [f2 570 0 j rfl, f1 570 0 j rfl, f2 571 0 j rfl, f1 571 0 j rfl, f2 222 0 j rfl, f1 222 0 j rfl, f2 223 0 j rfl, f1 223 0 j rfl]; exact hTHR.2 j a b⟩, SPR_q hSPR (ks_t (ks_f f1 (by decide +kernel)) (ks_f f2 (by decide +kernel))), TXR_q hTXR (ks_t (ks_f f1 (by decide +kernel)) (ks_f f2 (by decide +kernel))), ENR_q hENR (ks_t (ks_f f1 (by decide +kernel)) (ks_f f2 (by decide +kernel))), MAR_q hMAR (ks_t (ks_f f1 (by decide +kernel)) (ks_f f2 (by decide +kernel))), DER_q hDER (ks_t (ks_f f1 (by decide +kernel)) (ks_f f2 (by decide +kernel))), PLR_q hPLR (ks_t (ks_f f1 (by decide +kernel)) (ks_f f2 (by decide +kernel))), LDR_q hLDR (ks_t (ks_f f1 (by decide +kernel)) (ks_f f2 (by decide +kernel))), RCR_q hRCR (ks_t (ks_f f1 (by decide +kernel)) (ks_f f2 (by decide +kernel))), DAR_q hDAR (ks_t (ks_f f1 (by decide +kernel)) (ks_f f2 (by decide +kernel))), MVR_q hMVR (ks_t (ks_f f1 (by decide +kernel)) (ks_f f2 (by decide +kernel))), CNO_q hCNO (ks_t (ks_f f1 (by decide +kernel)) (ks_f f2 (by decide +kernel))), clm, SUP_q hSUP (ks_t (ks_f f1 (by decide +kernel)) (ks_f f2 (by decide +kernel))), KNK_q hKNK (ks_t (ks_f f1 (by decide +kernel)) (ks_f f2 (by decide +kernel))), HNA_q hHNA (ks_t (ks_f f1 (by decide +kernel)) (ks_f f2 (by decide +kernel))), WIT_q hWIT (ks_t (ks_f f1 (by decide +kernel)) (ks_f f2 (by decide +kernel))), CUT_q hCUT (ks_t (ks_f f1 (by decide +kernel)) (ks_f f2 (by decide +kernel)))⟩
set_option maxRecDepth 100000 in
theorem re_person {N : Int} {T T1 T2 : Zt} {r1 r2 : Option Zv} (hT : ok_T T) (hI : IC_ N T) (hR : IR_ T) (h : RE_ T) (a : qx_person N T T1 r1) (b : qm_person (N + 1) T1 T2 r2) : LQo_ N T2 r1 r2 := by
  obtain ⟨x1, e1, -, -, f1, d1⟩ := a
  obtain ⟨x2, e2, i2, j2, f2, d2⟩ := b
  obtain ⟨hCNR, hTHR, hSPR, hTXR, hENR, hMAR, hDER, hPLR, hLDR, hRCR, hDAR, hMVR, hCNO, hCLM, hSUP, hKNK, hHNA, hWIT, hCUT⟩ := h
  have g2 : T2 108 0 2 = T2 111 0 12 := (f2 108 0 2 rfl).trans ((f1 108 0 2 rfl).trans (hCNR.1.trans ((f1 111 0 12 rfl).symm.trans (f2 111 0 12 rfl).symm)))
  have g12 : T2 108 0 12 = T2 111 0 21 := (f2 108 0 12 rfl).trans ((f1 108 0 12 rfl).trans (hCNR.2.2.1.trans ((f1 111 0 21 rfl).symm.trans (f2 111 0 21 rfl).symm)))
  have q := hCNR.2.1
  have q1 := f1 111 0 15 rfl
  have q2 := f2 108 0 3 rfl
  have g13 : T2 108 0 13 = T2 111 0 3 := (f2 108 0 13 rfl).trans ((f1 108 0 13 rfl).trans (hCNR.2.2.2.trans ((f1 111 0 3 rfl).symm.trans (f2 111 0 3 rfl).symm)))
  have hs2 := spr_p hSPR d1 (⟨f1 108 0 5 rfl, fun j => f1 566 0 j rfl, fun j => f1 567 0 j rfl, fun j => f1 568 0 j rfl, fun j => f1 569 0 j rfl⟩) (⟨f1 111 0 16 rfl, fun j => f1 217 0 j rfl, fun j => f1 218 0 j rfl, fun j => f1 219 0 j rfl, fun j => f1 220 0 j rfl⟩) (f2 108 0 3 rfl) (⟨f2 108 0 5 rfl, fun j => f2 566 0 j rfl, fun j => f2 567 0 j rfl, fun j => f2 568 0 j rfl, fun j => f2 569 0 j rfl⟩) ((fun j => f2 564 0 j rfl)) (⟨f2 111 0 16 rfl, fun j => f2 217 0 j rfl, fun j => f2 218 0 j rfl, fun j => f2 219 0 j rfl, fun j => f2 220 0 j rfl⟩)
  have d1 : (T 108 0 3 = 200 ∧ x1 = -5 ∧ T1 108 0 3 = T 108 0 3) ∨ (T 108 0 3 < 200 ∧ x1 = T 108 0 3 ∧ T1 108 0 3 = T 108 0 3 + 1) := d1.elim (fun z => Or.inl ⟨z.1, z.2.1, by rw [z.2.2]⟩) (fun z => Or.inr ⟨z.1, z.2.1, z.2.2.1⟩)
  have ex : x1 = x2 := by omega
  have g3 : T2 108 0 3 = T2 111 0 15 := by omega
  subst ex
  exact ⟨_, e1, e2, i2, j2, ⟨g2, g3, g12, g13⟩, THR_q hTHR (ks_t (ks_f f1 (by decide +kernel)) (ks_f f2 (by decide +kernel))), hs2, TXR_q hTXR (ks_t (ks_f f1 (by decide +kernel)) (ks_f f2 (by decide +kernel))), ENR_q hENR (ks_t (ks_f f1 (by decide +kernel)) (ks_f f2 (by decide +kernel))), MAR_q hMAR (ks_t (ks_f f1 (by decide +kernel)) (ks_f f2 (by decide +kernel))), DER_q hDER (ks_t (ks_f f1 (by decide +kernel)) (ks_f f2 (by decide +kernel))), PLR_q hPLR (ks_t (ks_f f1 (by decide +kernel)) (ks_f f2 (by decide +kernel))), LDR_q hLDR (ks_t (ks_f f1 (by decide +kernel)) (ks_f f2 (by decide +kernel))), RCR_q hRCR (ks_t (ks_f f1 (by decide +kernel)) (ks_f f2 (by decide +kernel))), DAR_q hDAR (ks_t (ks_f f1 (by decide +kernel)) (ks_f f2 (by decide +kernel))), MVR_q hMVR (ks_t (ks_f f1 (by decide +kernel)) (ks_f f2 (by decide +kernel))), CNO_q hCNO (ks_t (ks_f f1 (by decide +kernel)) (ks_f f2 (by decide +kernel))), CLM_q hCLM (ks_t (ks_f f1 (by decide +kernel)) (ks_f f2 (by decide +kernel))), SUP_q hSUP (ks_t (ks_f f1 (by decide +kernel)) (ks_f f2 (by decide +kernel))), KNK_q hKNK (ks_t (ks_f f1 (by decide +kernel)) (ks_f f2 (by decide +kernel))), HNA_q hHNA (ks_t (ks_f f1 (by decide +kernel)) (ks_f f2 (by decide +kernel))), WIT_q hWIT (ks_t (ks_f f1 (by decide +kernel)) (ks_f f2 (by decide +kernel))), CUT_q hCUT (ks_t (ks_f f1 (by decide +kernel)) (ks_f f2 (by decide +kernel)))⟩
set_option maxRecDepth 100000 in
theorem re_register {N : Int} {T T1 T2 : Zt} {p9 cl9 a9 b9 : Int} {r1 r2 : Option Zv} (hT : ok_T T) (hI : IC_ N T) (hR : IR_ T) (h : RE_ T) (a : qx_register N T p9 cl9 a9 b9 T1 r1) (b : qm_register (N + 1) T1 p9 cl9 a9 b9 T2 r2) : LQo_ N T2 r1 r2 := by
  obtain ⟨x1, e1, -, -, f1, d1⟩ := a
  obtain ⟨x2, e2, i2, j2, f2, d2⟩ := b
  obtain ⟨hCNR, hTHR, hSPR, hTXR, hENR, hMAR, hDER, hPLR, hLDR, hRCR, hDAR, hMVR, hCNO, hCLM, hSUP, hKNK, hHNA, hWIT, hCUT⟩ := h
  obtain ⟨ex, hs2⟩ := spr_r hSPR (bd_f hT 108 5 tl_8_5 0).1 hCNR.2.1 hCNR.1 d1 (⟨f1 111 0 16 rfl, fun j => f1 217 0 j rfl, fun j => f1 218 0 j rfl, fun j => f1 219 0 j rfl, fun j => f1 220 0 j rfl⟩) (f1 108 0 3 rfl) (f1 111 0 15 rfl) (f1 111 0 12 rfl) d2 (⟨f2 108 0 5 rfl, fun j => f2 566 0 j rfl, fun j => f2 567 0 j rfl, fun j => f2 568 0 j rfl, fun j => f2 569 0 j rfl⟩) ((fun j => f2 564 0 j rfl)) (f2 108 0 3 rfl)
  subst ex
  exact ⟨_, e1, e2, i2, j2, CNR_q hCNR (ks_t (ks_f f1 (by decide +kernel)) (ks_f f2 (by decide +kernel))), THR_q hTHR (ks_t (ks_f f1 (by decide +kernel)) (ks_f f2 (by decide +kernel))), hs2, TXR_q hTXR (ks_t (ks_f f1 (by decide +kernel)) (ks_f f2 (by decide +kernel))), ENR_q hENR (ks_t (ks_f f1 (by decide +kernel)) (ks_f f2 (by decide +kernel))), MAR_q hMAR (ks_t (ks_f f1 (by decide +kernel)) (ks_f f2 (by decide +kernel))), DER_q hDER (ks_t (ks_f f1 (by decide +kernel)) (ks_f f2 (by decide +kernel))), PLR_q hPLR (ks_t (ks_f f1 (by decide +kernel)) (ks_f f2 (by decide +kernel))), LDR_q hLDR (ks_t (ks_f f1 (by decide +kernel)) (ks_f f2 (by decide +kernel))), RCR_q hRCR (ks_t (ks_f f1 (by decide +kernel)) (ks_f f2 (by decide +kernel))), DAR_q hDAR (ks_t (ks_f f1 (by decide +kernel)) (ks_f f2 (by decide +kernel))), MVR_q hMVR (ks_t (ks_f f1 (by decide +kernel)) (ks_f f2 (by decide +kernel))), CNO_q hCNO (ks_t (ks_f f1 (by decide +kernel)) (ks_f f2 (by decide +kernel))), CLM_q hCLM (ks_t (ks_f f1 (by decide +kernel)) (ks_f f2 (by decide +kernel))), SUP_q hSUP (ks_t (ks_f f1 (by decide +kernel)) (ks_f f2 (by decide +kernel))), KNK_q hKNK (ks_t (ks_f f1 (by decide +kernel)) (ks_f f2 (by decide +kernel))), HNA_q hHNA (ks_t (ks_f f1 (by decide +kernel)) (ks_f f2 (by decide +kernel))), WIT_q hWIT (ks_t (ks_f f1 (by decide +kernel)) (ks_f f2 (by decide +kernel))), CUT_q hCUT (ks_t (ks_f f1 (by decide +kernel)) (ks_f f2 (by decide +kernel)))⟩
set_option maxRecDepth 100000 in
theorem re_official {N : Int} {T T1 T2 : Zt} {s9 c9 : Int} {r1 r2 : Option Zv} (hT : ok_T T) (hI : IC_ N T) (hR : IR_ T) (h : RE_ T) (a : qx_official N T s9 c9 T1 r1) (b : qm_official (N + 1) T1 s9 c9 T2 r2) : LQo_ N T2 r1 r2 := by
  obtain ⟨x1, e1, -, -, f1, d1⟩ := a
  obtain ⟨x2, e2, i2, j2, f2, d2⟩ := b
  obtain ⟨hCNR, hTHR, hSPR, hTXR, hENR, hMAR, hDER, hPLR, hLDR, hRCR, hDAR, hMVR, hCNO, hCLM, hSUP, hKNK, hHNA, hWIT, hCUT⟩ := h
  obtain ⟨ex, ec, et⟩ := tg9_e hTHR.2 hCNR.2.2.1 d1.2 (f1 111 0 21 rfl) (fun j => f1 222 0 j rfl) (fun j => f1 223 0 j rfl) d2.2 (f2 108 0 12 rfl) (fun j => f2 570 0 j rfl) (fun j => f2 571 0 j rfl)
  subst ex
  exact ⟨_, e1, e2, i2, j2, ⟨(f2 108 0 2 rfl).trans ((f1 108 0 2 rfl).trans (hCNR.1.trans ((f1 111 0 12 rfl).symm.trans (f2 111 0 12 rfl).symm))), (f2 108 0 3 rfl).trans ((f1 108 0 3 rfl).trans (hCNR.2.1.trans ((f1 111 0 15 rfl).symm.trans (f2 111 0 15 rfl).symm))), ec, (f2 108 0 13 rfl).trans ((f1 108 0 13 rfl).trans (hCNR.2.2.2.trans ((f1 111 0 3 rfl).symm.trans (f2 111 0 3 rfl).symm)))⟩, ⟨fun j a b => by rw [f2 108 0 2 rfl, f1 108 0 2 rfl] at b; rw [f2 560 0 j rfl, f1 560 0 j rfl, f2 561 0 j rfl, f1 561 0 j rfl, f2 213 0 j rfl, f1 213 0 j rfl, f2 214 0 j rfl, f1 214 0 j rfl]; exact hTHR.1 j a b, et⟩, SPR_q hSPR (ks_t (ks_f f1 (by decide +kernel)) (ks_f f2 (by decide +kernel))), TXR_q hTXR (ks_t (ks_f f1 (by decide +kernel)) (ks_f f2 (by decide +kernel))), ENR_q hENR (ks_t (ks_f f1 (by decide +kernel)) (ks_f f2 (by decide +kernel))), MAR_q hMAR (ks_t (ks_f f1 (by decide +kernel)) (ks_f f2 (by decide +kernel))), DER_q hDER (ks_t (ks_f f1 (by decide +kernel)) (ks_f f2 (by decide +kernel))), PLR_q hPLR (ks_t (ks_f f1 (by decide +kernel)) (ks_f f2 (by decide +kernel))), LDR_q hLDR (ks_t (ks_f f1 (by decide +kernel)) (ks_f f2 (by decide +kernel))), RCR_q hRCR (ks_t (ks_f f1 (by decide +kernel)) (ks_f f2 (by decide +kernel))), DAR_q hDAR (ks_t (ks_f f1 (by decide +kernel)) (ks_f f2 (by decide +kernel))), MVR_q hMVR (ks_t (ks_f f1 (by decide +kernel)) (ks_f f2 (by decide +kernel))), CNO_q hCNO (ks_t (ks_f f1 (by decide +kernel)) (ks_f f2 (by decide +kernel))), CLM_q hCLM (ks_t (ks_f f1 (by decide +kernel)) (ks_f f2 (by decide +kernel))), SUP_q hSUP (ks_t (ks_f f1 (by decide +kernel)) (ks_f f2 (by decide +kernel))), KNK_q hKNK (ks_t (ks_f f1 (by decide +kernel)) (ks_f f2 (by decide +kernel))), HNA_q hHNA (ks_t (ks_f f1 (by decide +kernel)) (ks_f f2 (by decide +kernel))), WIT_q hWIT (ks_t (ks_f f1 (by decide +kernel)) (ks_f f2 (by decide +kernel))), CUT_q hCUT (ks_t (ks_f f1 (by decide +kernel)) (ks_f f2 (by decide +kernel)))⟩
set_option maxRecDepth 100000 in
theorem re_day {N : Int} {T T1 T2 : Zt} {d9 : Int} {r1 r2 : Option Zv} (hT : ok_T T) (hI : IC_ N T) (hR : IR_ T) (h : RE_ T) (a : qx_day N T d9 T1 r1) (b : qm_day (N + 1) T1 d9 T2 r2) : LQo_ N T2 r1 r2 := by
  obtain ⟨x1, e1, -, -, f1, d1⟩ := a
  obtain ⟨x2, e2, i2, j2, f2, d2⟩ := b
  obtain ⟨hCNR, hTHR, hSPR, hTXR, hENR, hMAR, hDER, hPLR, hLDR, hRCR, hDAR, hMVR, hCNO, hCLM, hSUP, hKNK, hHNA, hWIT, hCUT⟩ := h
  have g2 : T2 108 0 2 = T2 111 0 12 := (f2 108 0 2 rfl).trans ((f1 108 0 2 rfl).trans (hCNR.1.trans ((f1 111 0 12 rfl).symm.trans (f2 111 0 12 rfl).symm)))
  have g12 : T2 108 0 12 = T2 111 0 21 := (f2 108 0 12 rfl).trans ((f1 108 0 12 rfl).trans (hCNR.2.2.1.trans ((f1 111 0 21 rfl).symm.trans (f2 111 0 21 rfl).symm)))
  have q := hCNR.2.2.2
  have q1 := f1 111 0 3 rfl
  have q2 := f2 108 0 13 rfl
  have g3 : T2 108 0 3 = T2 111 0 15 := (f2 108 0 3 rfl).trans ((f1 108 0 3 rfl).trans (hCNR.2.1.trans ((f1 111 0 15 rfl).symm.trans (f2 111 0 15 rfl).symm)))
  have ex : x1 = x2 := by omega
  have g13 : T2 108 0 13 = T2 111 0 3 := by omega
  subst ex
  exact ⟨_, e1, e2, i2, j2, ⟨g2, g3, g12, g13⟩, THR_q hTHR (ks_t (ks_f f1 (by decide +kernel)) (ks_f f2 (by decide +kernel))), SPR_q hSPR (ks_t (ks_f f1 (by decide +kernel)) (ks_f f2 (by decide +kernel))), TXR_q hTXR (ks_t (ks_f f1 (by decide +kernel)) (ks_f f2 (by decide +kernel))), ENR_q hENR (ks_t (ks_f f1 (by decide +kernel)) (ks_f f2 (by decide +kernel))), MAR_q hMAR (ks_t (ks_f f1 (by decide +kernel)) (ks_f f2 (by decide +kernel))), DER_q hDER (ks_t (ks_f f1 (by decide +kernel)) (ks_f f2 (by decide +kernel))), PLR_q hPLR (ks_t (ks_f f1 (by decide +kernel)) (ks_f f2 (by decide +kernel))), LDR_q hLDR (ks_t (ks_f f1 (by decide +kernel)) (ks_f f2 (by decide +kernel))), RCR_q hRCR (ks_t (ks_f f1 (by decide +kernel)) (ks_f f2 (by decide +kernel))), DAR_q hDAR (ks_t (ks_f f1 (by decide +kernel)) (ks_f f2 (by decide +kernel))), MVR_q hMVR (ks_t (ks_f f1 (by decide +kernel)) (ks_f f2 (by decide +kernel))), CNO_q hCNO (ks_t (ks_f f1 (by decide +kernel)) (ks_f f2 (by decide +kernel))), CLM_q hCLM (ks_t (ks_f f1 (by decide +kernel)) (ks_f f2 (by decide +kernel))), SUP_q hSUP (ks_t (ks_f f1 (by decide +kernel)) (ks_f f2 (by decide +kernel))), KNK_q hKNK (ks_t (ks_f f1 (by decide +kernel)) (ks_f f2 (by decide +kernel))), HNA_q hHNA (ks_t (ks_f f1 (by decide +kernel)) (ks_f f2 (by decide +kernel))), WIT_q hWIT (ks_t (ks_f f1 (by decide +kernel)) (ks_f f2 (by decide +kernel))), CUT_q hCUT (ks_t (ks_f f1 (by decide +kernel)) (ks_f f2 (by decide +kernel)))⟩
set_option maxRecDepth 100000 in
theorem re_enter {N : Int} {T T1 T2 : Zt} {c9 b9 : Int} {r1 r2 : Option Zv} (hT : ok_T T) (hI : IC_ N T) (hR : IR_ T) (h : RE_ T) (a : qx_enter N T c9 b9 T1 r1) (b : qm_enter (N + 1) T1 c9 b9 T2 r2) : LQo_ N T2 r1 r2 := by
  obtain ⟨x1, e1, -, -, f1, d1⟩ := a
  obtain ⟨x2, e2, i2, j2, f2, d2⟩ := b
  obtain ⟨hCNR, hTHR, hSPR, hTXR, hENR, hMAR, hDER, hPLR, hLDR, hRCR, hDAR, hMVR, hCNO, hCLM, hSUP, hKNK, hHNA, hWIT, hCUT⟩ := h
  obtain ⟨ex, en⟩ := enr_e hENR hI.1.2.2.2.2.2.2.1 hTXR.2.2.1 hCNR.1 (bd_f hT 108 2 tl_8_2 0).2 (bd_f hT 106 2 tl_6_2 0) ⟨f1 106 0 2 rfl, f1 111 0 6 rfl, f1 111 0 12 rfl, fun d => ⟨f1 100 d 6 rfl, f1 100 d 7 rfl, f1 100 d 8 rfl⟩⟩ d1.2.2 (⟨fun j => f1 207 0 j rfl, fun j => ⟨f1 208 0 j rfl, f1 209 0 j rfl, f1 210 0 j rfl, f1 211 0 j rfl⟩⟩) ⟨f2 106 0 2 rfl, fun j => ⟨f2 209 0 j rfl, f2 210 0 j rfl, f2 211 0 j rfl⟩⟩ d2.2 (⟨fun c => ⟨f2 100 c 5 rfl, f2 100 c 6 rfl, f2 100 c 7 rfl, f2 100 c 8 rfl⟩, fun c j => f2 403 c j rfl, fun c j => f2 404 c j rfl⟩) (fun d => (bd_f hT 100 5 tl_0_5 d))
  subst ex
  exact ⟨_, e1, e2, i2, j2, CNR_q hCNR (ks_t (ks_f f1 (by decide +kernel)) (ks_f f2 (by decide +kernel))), THR_q hTHR (ks_t (ks_f f1 (by decide +kernel)) (ks_f f2 (by decide +kernel))), SPR_q hSPR (ks_t (ks_f f1 (by decide +kernel)) (ks_f f2 (by decide +kernel))), TXR_q hTXR (ks_t (ks_f f1 (by decide +kernel)) (ks_f f2 (by decide +kernel))), en, MAR_q hMAR (ks_t (ks_f f1 (by decide +kernel)) (ks_f f2 (by decide +kernel))), DER_q hDER (ks_t (ks_f f1 (by decide +kernel)) (ks_f f2 (by decide +kernel))), PLR_q hPLR (ks_t (ks_f f1 (by decide +kernel)) (ks_f f2 (by decide +kernel))), LDR_q hLDR (ks_t (ks_f f1 (by decide +kernel)) (ks_f f2 (by decide +kernel))), RCR_q hRCR (ks_t (ks_f f1 (by decide +kernel)) (ks_f f2 (by decide +kernel))), DAR_q hDAR (ks_t (ks_f f1 (by decide +kernel)) (ks_f f2 (by decide +kernel))), MVR_q hMVR (ks_t (ks_f f1 (by decide +kernel)) (ks_f f2 (by decide +kernel))), CNO_q hCNO (ks_t (ks_f f1 (by decide +kernel)) (ks_f f2 (by decide +kernel))), CLM_q hCLM (ks_t (ks_f f1 (by decide +kernel)) (ks_f f2 (by decide +kernel))), SUP_q hSUP (ks_t (ks_f f1 (by decide +kernel)) (ks_f f2 (by decide +kernel))), KNK_q hKNK (ks_t (ks_f f1 (by decide +kernel)) (ks_f f2 (by decide +kernel))), HNA_q hHNA (ks_t (ks_f f1 (by decide +kernel)) (ks_f f2 (by decide +kernel))), WIT_q hWIT (ks_t (ks_f f1 (by decide +kernel)) (ks_f f2 (by decide +kernel))), CUT_q hCUT (ks_t (ks_f f1 (by decide +kernel)) (ks_f f2 (by decide +kernel)))⟩
set_option maxRecDepth 100000 in
theorem re_plan {N : Int} {T T1 T2 : Zt} {c9 b9 : Int} {r1 r2 : Option Zv} (hT : ok_T T) (hI : IC_ N T) (hR : IR_ T) (h : RE_ T) (a : qx_plan N T c9 b9 T1 r1) (b : qm_plan (N + 1) T1 c9 b9 T2 r2) : LQo_ N T2 r1 r2 := by
  obtain ⟨x1, e1, -, -, f1, d1⟩ := a
  obtain ⟨x2, e2, i2, j2, f2, d2⟩ := b
  obtain ⟨hCNR, hTHR, hSPR, hTXR, hENR, hMAR, hDER, hPLR, hLDR, hRCR, hDAR, hMVR, hCNO, hCLM, hSUP, hKNK, hHNA, hWIT, hCUT⟩ := h
  obtain ⟨hT1, d2⟩ := d2
  have s2 : (x2 < 0 ∧ T2 = T1) ∨ PQ9_ T1 T2 c9 := d2.1.imp (fun z => ⟨z.1, z.2.symm⟩) (fun z => ⟨z.2.2.1, z.2.2.2.2.1, z.2.2.2.2.2.1, z.2.2.2.2.2.2, fun j => f2 207 0 j rfl, fun j => f2 208 0 j rfl⟩)
  obtain ⟨ex, en, ma⟩ := enr_p hENR hMAR hTXR hCNR.2.2.2 (bd_f hT 108 13 tl_8_13 0).1 (bd_f hT 106 4 tl_6_4 0).1 (bd_f hT 106 2 tl_6_2 0).2 (fun d => (bd_f hT 100 5 tl_0_5 d)) d1.2.1 (⟨fun j => f1 207 0 j rfl, fun j => ⟨f1 208 0 j rfl, f1 209 0 j rfl, f1 210 0 j rfl, f1 211 0 j rfl⟩⟩) (⟨f1 111 0 29 rfl, fun m => ⟨f1 230 0 m rfl, f1 231 0 m rfl, f1 232 0 m rfl, f1 233 0 m rfl⟩⟩) (⟨f1 111 0 1 rfl, f1 111 0 2 rfl, f1 111 0 6 rfl, fun j => f1 200 0 j rfl, fun j => f1 205 0 j rfl⟩) (f1 111 0 3 rfl) (f1 106 0 2 rfl) d2.2 s2 (⟨fun c => ⟨f2 100 c 5 rfl, f2 100 c 6 rfl, f2 100 c 7 rfl, f2 100 c 8 rfl⟩, fun c j => f2 403 c j rfl, fun c j => f2 404 c j rfl⟩) (⟨f2 106 0 4 rfl, fun m => ⟨f2 102 m 0 rfl, f2 102 m 2 rfl, f2 102 m 3 rfl, f2 102 m 4 rfl⟩⟩) (f2 106 0 2 rfl)
  have bo := enr_b hENR hMAR hTXR hCNR.2.2.2 (bd_f hT 108 13 tl_8_13 0).1 (bd_f hT 106 4 tl_6_4 0).1 (fun d => (bd_f hT 100 5 tl_0_5 d)) d1.2.1 (⟨fun j => f1 207 0 j rfl, fun j => ⟨f1 208 0 j rfl, f1 209 0 j rfl, f1 210 0 j rfl, f1 211 0 j rfl⟩⟩) (⟨f1 111 0 29 rfl, fun m => ⟨f1 230 0 m rfl, f1 231 0 m rfl, f1 232 0 m rfl, f1 233 0 m rfl⟩⟩) (⟨f1 111 0 1 rfl, f1 111 0 2 rfl, f1 111 0 6 rfl, fun j => f1 200 0 j rfl, fun j => f1 205 0 j rfl⟩) (f1 111 0 3 rfl) d2.2 s2
  have cn2 : CNR_ T2 := CNR_q hCNR (ks_t (ks_f f1 (by decide +kernel)) (ks_f f2 (by decide +kernel)))
  have b40 : T2 111 0 29 ≤ 400 := by
    have y := ma.1
    have y2 : T2 106 0 4 = T1 106 0 4 := f2 106 0 4 rfl
    have y3 := (bd_f hT1 106 4 tl_6_4 0).2
    exact Int.le_trans (Int.le_of_eq (y.symm.trans y2)) y3
  have c3 : ∀ i, 0 ≤ T2 102 i 3 ∧ T2 102 i 3 < 12 := fun i => by
    rw [f2 102 i 3 rfl]
    have y := bd_f hT1 102 3 tl_2_3 i
    exact ⟨y.1, Int.lt_of_le_of_lt y.2 (by decide)⟩
  have c4 : ∀ i, 0 ≤ T2 102 i 4 ∧ T2 102 i 4 < 12 := fun i => by
    rw [f2 102 i 4 rfl]
    have y := bd_f hT1 102 4 tl_2_4 i
    exact ⟨y.1, Int.lt_of_le_of_lt y.2 (by decide)⟩
  obtain ⟨pl, ld, da, cm⟩ := pl_plan hI hR hPLR hLDR hMAR hDAR hCLM i2 j2 en cn2 (bd_f hT 106 2 tl_6_2 0).2 c3 c4 b40 d1.2.2 bo f2
  have hn9 := hna_p hT hHNA hI.1.2.2.2.2.2.2.1 d1.2.1 (f2 106 0 4 rfl) (fun m => ⟨f2 102 m 3 rfl, f2 102 m 4 rfl⟩)
  subst ex
  exact ⟨_, e1, e2, i2, j2, CNR_q hCNR (ks_t (ks_f f1 (by decide +kernel)) (ks_f f2 (by decide +kernel))), THR_q hTHR (ks_t (ks_f f1 (by decide +kernel)) (ks_f f2 (by decide +kernel))), SPR_q hSPR (ks_t (ks_f f1 (by decide +kernel)) (ks_f f2 (by decide +kernel))), TXR_q hTXR (ks_t (ks_f f1 (by decide +kernel)) (ks_f f2 (by decide +kernel))), en, ma, DER_q hDER (ks_t (ks_f f1 (by decide +kernel)) (ks_f f2 (by decide +kernel))), pl, ld, RCR_q hRCR (ks_t (ks_f f1 (by decide +kernel)) (ks_f f2 (by decide +kernel))), da, MVR_q hMVR (ks_t (ks_f f1 (by decide +kernel)) (ks_f f2 (by decide +kernel))), CNO_q hCNO (ks_t (ks_f f1 (by decide +kernel)) (ks_f f2 (by decide +kernel))), cm, SUP_q hSUP (ks_t (ks_f f1 (by decide +kernel)) (ks_f f2 (by decide +kernel))), KNK_q hKNK (ks_t (ks_f f1 (by decide +kernel)) (ks_f f2 (by decide +kernel))), hn9, WIT_q (wit_p hWIT d1.2.1) (ks_f f2 (by decide +kernel)), CUT_q hCUT (ks_t (ks_f f1 (by decide +kernel)) (ks_f f2 (by decide +kernel)))⟩
set_option maxRecDepth 100000 in
theorem re_match {N : Int} {T T1 T2 : Zt} {m9 w9 : Int} {r1 r2 : Option Zv} (hT : ok_T T) (hI : IC_ N T) (hR : IR_ T) (h : RE_ T) (a : qx_match N T m9 w9 T1 r1) (b : qm_match (N + 1) T1 m9 w9 T2 r2) : LQo_ N T2 r1 r2 := by
  obtain ⟨x1, e1, -, -, f1, d1⟩ := a
  obtain ⟨x2, e2, i2, j2, f2, d2⟩ := b
  have hR2 := RE_q h (ks_t (ks_f f1 (by decide +kernel)) (ks_f f2 (by decide +kernel)))
  obtain ⟨hCNR, hTHR, hSPR, hTXR, hENR, hMAR, hDER, hPLR, hLDR, hRCR, hDAR, hMVR, hCNO, hCLM, hSUP, hKNK, hHNA, hWIT, hCUT⟩ := h
  rw [fzq_ f1] at d2
  have ex : x1 = x2 := pl_match hI hPLR hMAR hDAR hCNO d1 d2
  subst ex
  exact ⟨_, e1, e2, i2, j2, hR2⟩
set_option maxRecDepth 100000 in
theorem re_breaks {N : Int} {T T1 T2 : Zt} {c9 cl9 : Int} {r1 r2 : Option Zv} (hT : ok_T T) (hI : IC_ N T) (hR : IR_ T) (h : RE_ T) (a : qx_breaks N T c9 cl9 T1 r1) (b : qm_breaks (N + 1) T1 c9 cl9 T2 r2) : LQo_ N T2 r1 r2 := by
  obtain ⟨x1, e1, -, -, f1, d1⟩ := a
  obtain ⟨x2, e2, i2, j2, f2, d2⟩ := b
  have hR2 := RE_q h (ks_t (ks_f f1 (by decide +kernel)) (ks_f f2 (by decide +kernel)))
  obtain ⟨hCNR, hTHR, hSPR, hTXR, hENR, hMAR, hDER, hPLR, hLDR, hRCR, hDAR, hMVR, hCNO, hCLM, hSUP, hKNK, hHNA, hWIT, hCUT⟩ := h
  rw [fzq_ f1] at d2
  have ex : x1 = x2 := brk_e hENR hMAR hI.1.2.2.2.2.2.2.1 hI.1.2.2.1 hTXR.2.2.1 hCNR.1 (bd_f hT 108 2 tl_8_2 0).2 (fun d => ⟨(bd_f hT 100 7 tl_0_7 d).1, (bd_f hT 100 8 tl_0_8 d).1⟩) d1 d2
  subst ex
  exact ⟨_, e1, e2, i2, j2, hR2⟩
set_option maxRecDepth 100000 in
theorem re_postpone {N : Int} {T T1 T2 : Zt} {m9 d9 : Int} {r1 r2 : Option Zv} (hT : ok_T T) (hI : IC_ N T) (hR : IR_ T) (h : RE_ T) (a : qx_postpone N T m9 d9 T1 r1) (b : qm_postpone (N + 1) T1 m9 d9 T2 r2) : LQo_ N T2 r1 r2 := by
  obtain ⟨x1, e1, -, -, f1, d1⟩ := a
  obtain ⟨x2, e2, i2, j2, f2, d2⟩ := b
  obtain ⟨hCNR, hTHR, hSPR, hTXR, hENR, hMAR, hDER, hPLR, hLDR, hRCR, hDAR, hMVR, hCNO, hCLM, hSUP, hKNK, hHNA, hWIT, hCUT⟩ := h
  obtain ⟨ex, da, mv⟩ := pl_post hT hI hPLR hTXR hMAR hTHR hCLM hDAR hMVR hCNR f1 d1 f2 d2
  subst ex
  exact ⟨_, e1, e2, i2, j2, CNR_q hCNR (ks_t (ks_f f1 (by decide +kernel)) (ks_f f2 (by decide +kernel))), THR_q hTHR (ks_t (ks_f f1 (by decide +kernel)) (ks_f f2 (by decide +kernel))), SPR_q hSPR (ks_t (ks_f f1 (by decide +kernel)) (ks_f f2 (by decide +kernel))), TXR_q hTXR (ks_t (ks_f f1 (by decide +kernel)) (ks_f f2 (by decide +kernel))), ENR_q hENR (ks_t (ks_f f1 (by decide +kernel)) (ks_f f2 (by decide +kernel))), MAR_q hMAR (ks_t (ks_f f1 (by decide +kernel)) (ks_f f2 (by decide +kernel))), DER_q hDER (ks_t (ks_f f1 (by decide +kernel)) (ks_f f2 (by decide +kernel))), PLR_q hPLR (ks_t (ks_f f1 (by decide +kernel)) (ks_f f2 (by decide +kernel))), LDR_q hLDR (ks_t (ks_f f1 (by decide +kernel)) (ks_f f2 (by decide +kernel))), RCR_q hRCR (ks_t (ks_f f1 (by decide +kernel)) (ks_f f2 (by decide +kernel))), da, mv, CNO_q hCNO (ks_t (ks_f f1 (by decide +kernel)) (ks_f f2 (by decide +kernel))), CLM_q hCLM (ks_t (ks_f f1 (by decide +kernel)) (ks_f f2 (by decide +kernel))), SUP_q hSUP (ks_t (ks_f f1 (by decide +kernel)) (ks_f f2 (by decide +kernel))), KNK_q hKNK (ks_t (ks_f f1 (by decide +kernel)) (ks_f f2 (by decide +kernel))), HNA_q hHNA (ks_t (ks_f f1 (by decide +kernel)) (ks_f f2 (by decide +kernel))), WIT_q hWIT (ks_t (ks_f f1 (by decide +kernel)) (ks_f f2 (by decide +kernel))), CUT_q hCUT (ks_t (ks_f f1 (by decide +kernel)) (ks_f f2 (by decide +kernel)))⟩
set_option maxRecDepth 100000 in
theorem re_moved {N : Int} {T T1 T2 : Zt} {k9 : Int} {r1 r2 : Option Zv} (hT : ok_T T) (hI : IC_ N T) (hR : IR_ T) (h : RE_ T) (a : qx_moved N T k9 T1 r1) (b : qm_moved (N + 1) T1 k9 T2 r2) : LQo_ N T2 r1 r2 := by
  obtain ⟨x1, e1, -, -, f1, d1⟩ := a
  obtain ⟨x2, e2, i2, j2, f2, d2⟩ := b
  have hR2 := RE_q h (ks_t (ks_f f1 (by decide +kernel)) (ks_f f2 (by decide +kernel)))
  obtain ⟨hCNR, hTHR, hSPR, hTXR, hENR, hMAR, hDER, hPLR, hLDR, hRCR, hDAR, hMVR, hCNO, hCLM, hSUP, hKNK, hHNA, hWIT, hCUT⟩ := h
  rw [fzq_ f1] at d2
  have ex : x1 = x2 := pl_moved hMVR d1 d2
  subst ex
  exact ⟨_, e1, e2, i2, j2, hR2⟩
set_option maxRecDepth 100000 in
theorem re_deduct {N : Int} {T T1 T2 : Zt} {c9 cl9 p9 : Int} {r1 r2 : Option Zv} (hT : ok_T T) (hI : IC_ N T) (hR : IR_ T) (h : RE_ T) (a : qx_deduct N T c9 cl9 p9 T1 r1) (b : qm_deduct (N + 1) T1 c9 cl9 p9 T2 r2) : LQo_ N T2 r1 r2 := by
  obtain ⟨x1, e1, -, -, f1, d1⟩ := a
  obtain ⟨x2, e2, i2, j2, f2, d2⟩ := b
  obtain ⟨hCNR, hTHR, hSPR, hTXR, hENR, hMAR, hDER, hPLR, hLDR, hRCR, hDAR, hMVR, hCNO, hCLM, hSUP, hKNK, hHNA, hWIT, hCUT⟩ := h
  obtain ⟨ex, de⟩ := der_d hDER hENR hI.1.2.2.2.2.2.2.1 hTXR.2.2.1 hCNR.1 hCNR.2.2.2 (bd_f hT 108 2 tl_8_2 0).2 (bd_f hT 106 6 tl_6_6 0) ⟨f1 111 0 6 rfl, f1 111 0 12 rfl, f1 111 0 3 rfl⟩ d1 (⟨fun j => f1 207 0 j rfl, fun j => ⟨f1 208 0 j rfl, f1 209 0 j rfl, f1 210 0 j rfl, f1 211 0 j rfl⟩⟩) (⟨f1 111 0 24 rfl, fun j => f1 225 0 j rfl, fun j => f1 226 0 j rfl, fun j => f1 227 0 j rfl, fun j => f1 228 0 j rfl⟩) d2 (⟨f2 106 0 6 rfl, fun j => f2 527 0 j rfl, fun j => f2 528 0 j rfl, fun j => f2 529 0 j rfl, fun j => f2 530 0 j rfl⟩)
  subst ex
  exact ⟨_, e1, e2, i2, j2, CNR_q hCNR (ks_t (ks_f f1 (by decide +kernel)) (ks_f f2 (by decide +kernel))), THR_q hTHR (ks_t (ks_f f1 (by decide +kernel)) (ks_f f2 (by decide +kernel))), SPR_q hSPR (ks_t (ks_f f1 (by decide +kernel)) (ks_f f2 (by decide +kernel))), TXR_q hTXR (ks_t (ks_f f1 (by decide +kernel)) (ks_f f2 (by decide +kernel))), ENR_q hENR (ks_t (ks_f f1 (by decide +kernel)) (ks_f f2 (by decide +kernel))), MAR_q hMAR (ks_t (ks_f f1 (by decide +kernel)) (ks_f f2 (by decide +kernel))), de, PLR_q hPLR (ks_t (ks_f f1 (by decide +kernel)) (ks_f f2 (by decide +kernel))), LDR_q hLDR (ks_t (ks_f f1 (by decide +kernel)) (ks_f f2 (by decide +kernel))), RCR_q hRCR (ks_t (ks_f f1 (by decide +kernel)) (ks_f f2 (by decide +kernel))), DAR_q hDAR (ks_t (ks_f f1 (by decide +kernel)) (ks_f f2 (by decide +kernel))), MVR_q hMVR (ks_t (ks_f f1 (by decide +kernel)) (ks_f f2 (by decide +kernel))), CNO_q hCNO (ks_t (ks_f f1 (by decide +kernel)) (ks_f f2 (by decide +kernel))), CLM_q hCLM (ks_t (ks_f f1 (by decide +kernel)) (ks_f f2 (by decide +kernel))), SUP_q hSUP (ks_t (ks_f f1 (by decide +kernel)) (ks_f f2 (by decide +kernel))), KNK_q hKNK (ks_t (ks_f f1 (by decide +kernel)) (ks_f f2 (by decide +kernel))), HNA_q hHNA (ks_t (ks_f f1 (by decide +kernel)) (ks_f f2 (by decide +kernel))), WIT_q hWIT (ks_t (ks_f f1 (by decide +kernel)) (ks_f f2 (by decide +kernel))), CUT_q hCUT (ks_t (ks_f f1 (by decide +kernel)) (ks_f f2 (by decide +kernel)))⟩
set_option maxRecDepth 100000 in
theorem re_eligible {N : Int} {T T1 T2 : Zt} {q9 m9 d9 : Int} {r1 r2 : Option Zv} (hT : ok_T T) (hI : IC_ N T) (hR : IR_ T) (h : RE_ T) (a : qx_eligible N T q9 m9 d9 T1 r1) (b : qm_eligible (N + 1) T1 q9 m9 d9 T2 r2) : LQo_ N T2 r1 r2 := by
  obtain ⟨x1, e1, -, -, f1, d1⟩ := a
  obtain ⟨x2, e2, i2, j2, f2, d2⟩ := b
  have hR2 := RE_q h (ks_t (ks_f f1 (by decide +kernel)) (ks_f f2 (by decide +kernel)))
  obtain ⟨hCNR, hTHR, hSPR, hTXR, hENR, hMAR, hDER, hPLR, hLDR, hRCR, hDAR, hMVR, hCNO, hCLM, hSUP, hKNK, hHNA, hWIT, hCUT⟩ := h
  have ex : x1 = x2 := pl_elig hT hI hPLR hTXR hMAR hENR hDAR hCNR f1 d1 d2
  subst ex
  exact ⟨_, e1, e2, i2, j2, hR2⟩
set_option maxRecDepth 100000 in
theorem re_lineUp {N : Int} {T T1 T2 : Zt} {q9 b9 s9 : Int} {r1 r2 : Option Zv} (hT : ok_T T) (hI : IC_ N T) (hR : IR_ T) (h : RE_ T) (a : qx_lineUp N T q9 b9 s9 T1 r1) (b : qm_lineUp (N + 1) T1 q9 b9 s9 T2 r2) : LQo_ N T2 r1 r2 := by
  obtain ⟨x1, e1, -, -, f1, d1⟩ := a
  obtain ⟨x2, e2, i2, j2, f2, d2⟩ := b
  obtain ⟨hCNR, hTHR, hSPR, hTXR, hENR, hMAR, hDER, hPLR, hLDR, hRCR, hDAR, hMVR, hCNO, hCLM, hSUP, hKNK, hHNA, hWIT, hCUT⟩ := h
  obtain ⟨ex, pl⟩ := pl_line hT hI hR hPLR hLDR hTXR hMAR hENR hDAR hCNR f1 d1 f2 d2
  subst ex
  exact ⟨_, e1, e2, i2, j2, CNR_q hCNR (ks_t (ks_f f1 (by decide +kernel)) (ks_f f2 (by decide +kernel))), THR_q hTHR (ks_t (ks_f f1 (by decide +kernel)) (ks_f f2 (by decide +kernel))), SPR_q hSPR (ks_t (ks_f f1 (by decide +kernel)) (ks_f f2 (by decide +kernel))), TXR_q hTXR (ks_t (ks_f f1 (by decide +kernel)) (ks_f f2 (by decide +kernel))), ENR_q hENR (ks_t (ks_f f1 (by decide +kernel)) (ks_f f2 (by decide +kernel))), MAR_q hMAR (ks_t (ks_f f1 (by decide +kernel)) (ks_f f2 (by decide +kernel))), DER_q hDER (ks_t (ks_f f1 (by decide +kernel)) (ks_f f2 (by decide +kernel))), pl, LDR_q hLDR (ks_t (ks_f f1 (by decide +kernel)) (ks_f f2 (by decide +kernel))), RCR_q hRCR (ks_t (ks_f f1 (by decide +kernel)) (ks_f f2 (by decide +kernel))), DAR_q hDAR (ks_t (ks_f f1 (by decide +kernel)) (ks_f f2 (by decide +kernel))), MVR_q hMVR (ks_t (ks_f f1 (by decide +kernel)) (ks_f f2 (by decide +kernel))), CNO_q hCNO (ks_t (ks_f f1 (by decide +kernel)) (ks_f f2 (by decide +kernel))), CLM_q hCLM (ks_t (ks_f f1 (by decide +kernel)) (ks_f f2 (by decide +kernel))), SUP_q hSUP (ks_t (ks_f f1 (by decide +kernel)) (ks_f f2 (by decide +kernel))), KNK_q hKNK (ks_t (ks_f f1 (by decide +kernel)) (ks_f f2 (by decide +kernel))), HNA_q hHNA (ks_t (ks_f f1 (by decide +kernel)) (ks_f f2 (by decide +kernel))), WIT_q hWIT (ks_t (ks_f f1 (by decide +kernel)) (ks_f f2 (by decide +kernel))), CUT_q hCUT (ks_t (ks_f f1 (by decide +kernel)) (ks_f f2 (by decide +kernel)))⟩
set_option maxRecDepth 100000 in
theorem re_start {N : Int} {T T1 T2 : Zt} {m9 : Int} {r1 r2 : Option Zv} (hT : ok_T T) (hI : IC_ N T) (hR : IR_ T) (h : RE_ T) (a : qx_start N T m9 T1 r1) (b : qm_start (N + 1) T1 m9 T2 r2) : LQo_ N T2 r1 r2 := by
  obtain ⟨x1, e1, -, -, f1, d1⟩ := a
  obtain ⟨x2, e2, i2, j2, f2, d2⟩ := b
  obtain ⟨hCNR, hTHR, hSPR, hTXR, hENR, hMAR, hDER, hPLR, hLDR, hRCR, hDAR, hMVR, hCNO, hCLM, hSUP, hKNK, hHNA, hWIT, hCUT⟩ := h
  obtain ⟨ex, pl, ld⟩ := pl_start hI hR hPLR hLDR hTXR hMAR hDAR hCNR f1 d1 f2 d2
  subst ex
  exact ⟨_, e1, e2, i2, j2, CNR_q hCNR (ks_t (ks_f f1 (by decide +kernel)) (ks_f f2 (by decide +kernel))), THR_q hTHR (ks_t (ks_f f1 (by decide +kernel)) (ks_f f2 (by decide +kernel))), SPR_q hSPR (ks_t (ks_f f1 (by decide +kernel)) (ks_f f2 (by decide +kernel))), TXR_q hTXR (ks_t (ks_f f1 (by decide +kernel)) (ks_f f2 (by decide +kernel))), ENR_q hENR (ks_t (ks_f f1 (by decide +kernel)) (ks_f f2 (by decide +kernel))), MAR_q hMAR (ks_t (ks_f f1 (by decide +kernel)) (ks_f f2 (by decide +kernel))), DER_q hDER (ks_t (ks_f f1 (by decide +kernel)) (ks_f f2 (by decide +kernel))), pl, ld, RCR_q hRCR (ks_t (ks_f f1 (by decide +kernel)) (ks_f f2 (by decide +kernel))), DAR_q hDAR (ks_t (ks_f f1 (by decide +kernel)) (ks_f f2 (by decide +kernel))), MVR_q hMVR (ks_t (ks_f f1 (by decide +kernel)) (ks_f f2 (by decide +kernel))), CNO_q hCNO (ks_t (ks_f f1 (by decide +kernel)) (ks_f f2 (by decide +kernel))), CLM_q hCLM (ks_t (ks_f f1 (by decide +kernel)) (ks_f f2 (by decide +kernel))), SUP_q hSUP (ks_t (ks_f f1 (by decide +kernel)) (ks_f f2 (by decide +kernel))), KNK_q hKNK (ks_t (ks_f f1 (by decide +kernel)) (ks_f f2 (by decide +kernel))), HNA_q hHNA (ks_t (ks_f f1 (by decide +kernel)) (ks_f f2 (by decide +kernel))), WIT_q hWIT (ks_t (ks_f f1 (by decide +kernel)) (ks_f f2 (by decide +kernel))), CUT_q hCUT (ks_t (ks_f f1 (by decide +kernel)) (ks_f f2 (by decide +kernel)))⟩
set_option maxRecDepth 100000 in
theorem re_walkOver {N : Int} {T T1 T2 : Zt} {m9 d9 : Int} {r1 r2 : Option Zv} (hT : ok_T T) (hI : IC_ N T) (hR : IR_ T) (h : RE_ T) (a : qx_walkOver N T m9 d9 T1 r1) (b : qm_walkOver (N + 1) T1 m9 d9 T2 r2) : LQo_ N T2 r1 r2 := by
  obtain ⟨x1, e1, -, -, f1, d1⟩ := a
  obtain ⟨x2, e2, i2, j2, f2, d2⟩ := b
  obtain ⟨hCNR, hTHR, hSPR, hTXR, hENR, hMAR, hDER, hPLR, hLDR, hRCR, hDAR, hMVR, hCNO, hCLM, hSUP, hKNK, hHNA, hWIT, hCUT⟩ := h
  obtain ⟨ex, pl, -⟩ := pl_walk hI hPLR hLDR hTXR hMAR hDAR hCNR f1 d1 f2 d2
  subst ex
  exact ⟨_, e1, e2, i2, j2, CNR_q hCNR (ks_t (ks_f f1 (by decide +kernel)) (ks_f f2 (by decide +kernel))), THR_q hTHR (ks_t (ks_f f1 (by decide +kernel)) (ks_f f2 (by decide +kernel))), SPR_q hSPR (ks_t (ks_f f1 (by decide +kernel)) (ks_f f2 (by decide +kernel))), TXR_q hTXR (ks_t (ks_f f1 (by decide +kernel)) (ks_f f2 (by decide +kernel))), ENR_q hENR (ks_t (ks_f f1 (by decide +kernel)) (ks_f f2 (by decide +kernel))), MAR_q hMAR (ks_t (ks_f f1 (by decide +kernel)) (ks_f f2 (by decide +kernel))), DER_q hDER (ks_t (ks_f f1 (by decide +kernel)) (ks_f f2 (by decide +kernel))), pl, LDR_q hLDR (ks_t (ks_f f1 (by decide +kernel)) (ks_f f2 (by decide +kernel))), RCR_q hRCR (ks_t (ks_f f1 (by decide +kernel)) (ks_f f2 (by decide +kernel))), DAR_q hDAR (ks_t (ks_f f1 (by decide +kernel)) (ks_f f2 (by decide +kernel))), MVR_q hMVR (ks_t (ks_f f1 (by decide +kernel)) (ks_f f2 (by decide +kernel))), CNO_q hCNO (ks_t (ks_f f1 (by decide +kernel)) (ks_f f2 (by decide +kernel))), CLM_q hCLM (ks_t (ks_f f1 (by decide +kernel)) (ks_f f2 (by decide +kernel))), SUP_q hSUP (ks_t (ks_f f1 (by decide +kernel)) (ks_f f2 (by decide +kernel))), KNK_q hKNK (ks_t (ks_f f1 (by decide +kernel)) (ks_f f2 (by decide +kernel))), HNA_q hHNA (ks_t (ks_f f1 (by decide +kernel)) (ks_f f2 (by decide +kernel))), WIT_q hWIT (ks_t (ks_f f1 (by decide +kernel)) (ks_f f2 (by decide +kernel))), CUT_q hCUT (ks_t (ks_f f1 (by decide +kernel)) (ks_f f2 (by decide +kernel)))⟩
set_option maxRecDepth 100000 in
theorem re_event {N : Int} {T T1 T2 : Zt} {m9 k9 s9 a9 b9 : Int} {r1 r2 : Option Zv} (hT : ok_T T) (hI : IC_ N T) (hR : IR_ T) (h : RE_ T) (a : qx_event N T m9 k9 s9 a9 b9 T1 r1) (b : qm_event (N + 1) T1 m9 k9 s9 a9 b9 T2 r2) : LQo_ N T2 r1 r2 := by
  obtain ⟨x1, e1, -, -, f1, d1⟩ := a
  obtain ⟨x2, e2, i2, j2, f2, d2⟩ := b
  obtain ⟨hCNR, hTHR, hSPR, hTXR, hENR, hMAR, hDER, hPLR, hLDR, hRCR, hDAR, hMVR, hCNO, hCLM, hSUP, hKNK, hHNA, hWIT, hCUT⟩ := h
  obtain ⟨ex, pl, ld, rc⟩ := pl_event hI hR (bd_f hT 106 5 tl_6_5 0).2 hPLR hLDR hRCR hTXR hMAR i2 j2 f1 d1 f2 d2
  subst ex
  exact ⟨_, e1, e2, i2, j2, CNR_q hCNR (ks_t (ks_f f1 (by decide +kernel)) (ks_f f2 (by decide +kernel))), THR_q hTHR (ks_t (ks_f f1 (by decide +kernel)) (ks_f f2 (by decide +kernel))), SPR_q hSPR (ks_t (ks_f f1 (by decide +kernel)) (ks_f f2 (by decide +kernel))), TXR_q hTXR (ks_t (ks_f f1 (by decide +kernel)) (ks_f f2 (by decide +kernel))), ENR_q hENR (ks_t (ks_f f1 (by decide +kernel)) (ks_f f2 (by decide +kernel))), MAR_q hMAR (ks_t (ks_f f1 (by decide +kernel)) (ks_f f2 (by decide +kernel))), DER_q hDER (ks_t (ks_f f1 (by decide +kernel)) (ks_f f2 (by decide +kernel))), pl, ld, rc, DAR_q hDAR (ks_t (ks_f f1 (by decide +kernel)) (ks_f f2 (by decide +kernel))), MVR_q hMVR (ks_t (ks_f f1 (by decide +kernel)) (ks_f f2 (by decide +kernel))), CNO_q hCNO (ks_t (ks_f f1 (by decide +kernel)) (ks_f f2 (by decide +kernel))), CLM_q hCLM (ks_t (ks_f f1 (by decide +kernel)) (ks_f f2 (by decide +kernel))), SUP_q hSUP (ks_t (ks_f f1 (by decide +kernel)) (ks_f f2 (by decide +kernel))), KNK_q hKNK (ks_t (ks_f f1 (by decide +kernel)) (ks_f f2 (by decide +kernel))), HNA_q hHNA (ks_t (ks_f f1 (by decide +kernel)) (ks_f f2 (by decide +kernel))), WIT_q hWIT (ks_t (ks_f f1 (by decide +kernel)) (ks_f f2 (by decide +kernel))), CUT_q hCUT (ks_t (ks_f f1 (by decide +kernel)) (ks_f f2 (by decide +kernel)))⟩
set_option maxRecDepth 100000 in
theorem re_review {N : Int} {T T1 T2 : Zt} {m9 i9 k9 s9 a9 b9 : Int} {r1 r2 : Option Zv} (hT : ok_T T) (hI : IC_ N T) (hR : IR_ T) (h : RE_ T) (a : qx_review N T m9 i9 k9 s9 a9 b9 T1 r1) (b : qm_review (N + 1) T1 m9 i9 k9 s9 a9 b9 T2 r2) : LQo_ N T2 r1 r2 := by
  obtain ⟨x1, e1, -, -, f1, d1⟩ := a
  obtain ⟨x2, e2, i2, j2, f2, d2⟩ := b
  obtain ⟨hCNR, hTHR, hSPR, hTXR, hENR, hMAR, hDER, hPLR, hLDR, hRCR, hDAR, hMVR, hCNO, hCLM, hSUP, hKNK, hHNA, hWIT, hCUT⟩ := h
  obtain ⟨ex, pl, ld, -⟩ := pl_review hI hR hPLR hLDR hRCR hTXR hMAR i2 j2 f1 d1 f2 d2
  subst ex
  exact ⟨_, e1, e2, i2, j2, CNR_q hCNR (ks_t (ks_f f1 (by decide +kernel)) (ks_f f2 (by decide +kernel))), THR_q hTHR (ks_t (ks_f f1 (by decide +kernel)) (ks_f f2 (by decide +kernel))), SPR_q hSPR (ks_t (ks_f f1 (by decide +kernel)) (ks_f f2 (by decide +kernel))), TXR_q hTXR (ks_t (ks_f f1 (by decide +kernel)) (ks_f f2 (by decide +kernel))), ENR_q hENR (ks_t (ks_f f1 (by decide +kernel)) (ks_f f2 (by decide +kernel))), MAR_q hMAR (ks_t (ks_f f1 (by decide +kernel)) (ks_f f2 (by decide +kernel))), DER_q hDER (ks_t (ks_f f1 (by decide +kernel)) (ks_f f2 (by decide +kernel))), pl, ld, RCR_q hRCR (ks_t (ks_f f1 (by decide +kernel)) (ks_f f2 (by decide +kernel))), DAR_q hDAR (ks_t (ks_f f1 (by decide +kernel)) (ks_f f2 (by decide +kernel))), MVR_q hMVR (ks_t (ks_f f1 (by decide +kernel)) (ks_f f2 (by decide +kernel))), CNO_q hCNO (ks_t (ks_f f1 (by decide +kernel)) (ks_f f2 (by decide +kernel))), CLM_q hCLM (ks_t (ks_f f1 (by decide +kernel)) (ks_f f2 (by decide +kernel))), SUP_q hSUP (ks_t (ks_f f1 (by decide +kernel)) (ks_f f2 (by decide +kernel))), KNK_q hKNK (ks_t (ks_f f1 (by decide +kernel)) (ks_f f2 (by decide +kernel))), HNA_q hHNA (ks_t (ks_f f1 (by decide +kernel)) (ks_f f2 (by decide +kernel))), WIT_q hWIT (ks_t (ks_f f1 (by decide +kernel)) (ks_f f2 (by decide +kernel))), CUT_q hCUT (ks_t (ks_f f1 (by decide +kernel)) (ks_f f2 (by decide +kernel)))⟩
set_option maxRecDepth 100000 in
theorem re_rows {N : Int} {T T1 T2 : Zt} {m9 w9 : Int} {r1 r2 : Option Zv} (hT : ok_T T) (hI : IC_ N T) (hR : IR_ T) (h : RE_ T) (a : qx_rows N T m9 w9 T1 r1) (b : qm_rows (N + 1) T1 m9 w9 T2 r2) : LQo_ N T2 r1 r2 := by
  obtain ⟨x1, e1, -, -, f1, d1⟩ := a
  obtain ⟨x2, e2, i2, j2, f2, d2⟩ := b
  have hR2 := RE_q h (ks_t (ks_f f1 (by decide +kernel)) (ks_f f2 (by decide +kernel)))
  obtain ⟨hCNR, hTHR, hSPR, hTXR, hENR, hMAR, hDER, hPLR, hLDR, hRCR, hDAR, hMVR, hCNO, hCLM, hSUP, hKNK, hHNA, hWIT, hCUT⟩ := h
  rw [fzq_ f1] at d2
  have ex : x1 = x2 := pl_rows hI hR hPLR hMAR d1 d2
  subst ex
  exact ⟨_, e1, e2, i2, j2, hR2⟩
set_option maxRecDepth 100000 in
theorem re_row {N : Int} {T T1 T2 : Zt} {m9 i9 w9 : Int} {r1 r2 : Option Zv} (hT : ok_T T) (hI : IC_ N T) (hR : IR_ T) (h : RE_ T) (a : qx_row N T m9 i9 w9 T1 r1) (b : qm_row (N + 1) T1 m9 i9 w9 T2 r2) : LBo_ N T2 r1 r2 := by
  obtain ⟨x1, e1, -, -, f1, d1⟩ := a
  obtain ⟨x2, e2, i2, j2, f2, d2⟩ := b
  have hR2 := RE_q h (ks_t (ks_f f1 (by decide +kernel)) (ks_f f2 (by decide +kernel)))
  exact ⟨x1, x2, e1, e2, i2, j2, hR2⟩
set_option maxRecDepth 100000 in
theorem re_state {N : Int} {T T1 T2 : Zt} {m9 w9 : Int} {r1 r2 : Option Zv} (hT : ok_T T) (hI : IC_ N T) (hR : IR_ T) (h : RE_ T) (a : qx_state N T m9 w9 T1 r1) (b : qm_state (N + 1) T1 m9 w9 T2 r2) : LQo_ N T2 r1 r2 := by
  obtain ⟨x1, e1, -, -, f1, d1⟩ := a
  obtain ⟨x2, e2, i2, j2, f2, d2⟩ := b
  have hR2 := RE_q h (ks_t (ks_f f1 (by decide +kernel)) (ks_f f2 (by decide +kernel)))
  obtain ⟨hCNR, hTHR, hSPR, hTXR, hENR, hMAR, hDER, hPLR, hLDR, hRCR, hDAR, hMVR, hCNO, hCLM, hSUP, hKNK, hHNA, hWIT, hCUT⟩ := h
  rw [fzq_ f1] at d2
  have ex : x1 = x2 := pl_state hPLR hMAR d1 d2
  subst ex
  exact ⟨_, e1, e2, i2, j2, hR2⟩
set_option maxRecDepth 100000 in
theorem re_onField {N : Int} {T T1 T2 : Zt} {m9 d9 k9 : Int} {r1 r2 : Option Zv} (hT : ok_T T) (hI : IC_ N T) (hR : IR_ T) (h : RE_ T) (a : qx_onField N T m9 d9 k9 T1 r1) (b : qm_onField (N + 1) T1 m9 d9 k9 T2 r2) : LQo_ N T2 r1 r2 := by
  obtain ⟨x1, e1, -, -, f1, d1⟩ := a
  obtain ⟨x2, e2, i2, j2, f2, d2⟩ := b
  have hR2 := RE_q h (ks_t (ks_f f1 (by decide +kernel)) (ks_f f2 (by decide +kernel)))
  obtain ⟨hCNR, hTHR, hSPR, hTXR, hENR, hMAR, hDER, hPLR, hLDR, hRCR, hDAR, hMVR, hCNO, hCLM, hSUP, hKNK, hHNA, hWIT, hCUT⟩ := h
  rw [fzq_ f1] at d2
  have ex : x1 = x2 := pl_field hPLR hMAR d1 d2
  subst ex
  exact ⟨_, e1, e2, i2, j2, hR2⟩
set_option maxRecDepth 100000 in
theorem re_table {N : Int} {T T1 T2 : Zt} {c9 d9 b9 w9 : Int} {r1 r2 : Option Zv} (hT : ok_T T) (hI : IC_ N T) (hR : IR_ T) (h : RE_ T) (a : qx_table N T c9 d9 b9 w9 T1 r1) (b : qm_table (N + 1) T1 c9 d9 b9 w9 T2 r2) : LBo_ N T2 r1 r2 := by
  obtain ⟨x1, e1, -, -, f1, d1⟩ := a
  obtain ⟨x2, e2, i2, j2, f2, d2⟩ := b
  have hR2 := RE_q h (ks_t (ks_f f1 (by decide +kernel)) (ks_f f2 (by decide +kernel)))
  exact ⟨x1, x2, e1, e2, i2, j2, hR2⟩
set_option maxRecDepth 100000 in
theorem re_standing {N : Int} {T T1 T2 : Zt} {c9 d9 k9 : Int} {r1 r2 : Option Zv} (hT : ok_T T) (hI : IC_ N T) (hR : IR_ T) (h : RE_ T) (a : qx_standing N T c9 d9 k9 T1 r1) (b : qm_standing (N + 1) T1 c9 d9 k9 T2 r2) : LBo_ N T2 r1 r2 := by
  obtain ⟨x1, e1, -, -, f1, d1⟩ := a
  obtain ⟨x2, e2, i2, j2, f2, d2⟩ := b
  have hR2 := RE_q h (ks_t (ks_f f1 (by decide +kernel)) (ks_f f2 (by decide +kernel)))
  exact ⟨x1, x2, e1, e2, i2, j2, hR2⟩
set_option maxRecDepth 100000 in
theorem re_parted {N : Int} {T T1 T2 : Zt} {c9 d9 k9 : Int} {r1 r2 : Option Zv} (hT : ok_T T) (hI : IC_ N T) (hR : IR_ T) (h : RE_ T) (a : qx_parted N T c9 d9 k9 T1 r1) (b : qm_parted (N + 1) T1 c9 d9 k9 T2 r2) : LBo_ N T2 r1 r2 := by
  obtain ⟨x1, e1, -, -, f1, d1⟩ := a
  obtain ⟨x2, e2, i2, j2, f2, d2⟩ := b
  have hR2 := RE_q h (ks_t (ks_f f1 (by decide +kernel)) (ks_f f2 (by decide +kernel)))
  exact ⟨x1, x2, e1, e2, i2, j2, hR2⟩
set_option maxRecDepth 100000 in
theorem re_can {N : Int} {T T1 T2 : Zt} {c9 b9 : Int} {r1 r2 : Option Zv} (hT : ok_T T) (hI : IC_ N T) (hR : IR_ T) (h : RE_ T) (a : qx_can N T c9 b9 T1 r1) (b : qm_can (N + 1) T1 c9 b9 T2 r2) : LQo_ N T2 r1 r2 := by
  obtain ⟨x1, e1, -, -, f1, d1⟩ := a
  obtain ⟨x2, e2, i2, j2, f2, d2⟩ := b
  obtain ⟨hCNR, hTHR, hSPR, hTXR, hENR, hMAR, hDER, hPLR, hLDR, hRCR, hDAR, hMVR, hCNO, hCLM, hSUP, hKNK, hHNA, hWIT, hCUT⟩ := h
  have hr4 : ∀ m, 0 ≤ m → m < 400 → T 254 0 m ≤ 3000 := fun m a _ => (bd_a hT 254 (by decide +kernel : ta_ 254 = some (1, some 400, 0, 3000)) 0 a).2
  have pl1 := pl_can hI hPLR hLDR f1 d1.2.1 d1.2.2.1
  have su1 : T1 111 0 80 = 0 := (f1 111 0 80 rfl).trans hSUP
  obtain ⟨ex, wi, cu⟩ := can_w hT (fun a b => tq_i hT hTXR hR.2.1 hENR hMAR hDER hDAR hPLR hSUP hKNK hR.2.2.2.2.2.2.2.2.2.2.2 hR.2.2.2.2.2.2.2.2.1 (yb_g hR.2.2.2.2.2.2.2.2.2.2.2 hr4) hI.1.2.2.2.2.1 hI.1.2.2.2.2.2.2.1 hI.1.2.2.1 ⟨a, b⟩) hMAR hPLR hI.1.2.2.1 hI.1.2.2.2.2.1 hI.1.2.2.2.2.2.2.2.2.2 hHNA hTXR.2.2.1 hCNR.1 f1 d1.2.2.2.2 (d2.2 ⟨su1, hn7_r hMAR hHNA hENR hI.1.2.2.1 hT hTXR.2.2.1 (f1 111 0 6 rfl) (f1 210 0 _ rfl) (f1 211 0 _ rfl) (fun j => f1 232 0 j rfl) (fun j => f1 233 0 j rfl)⟩) f2
  subst ex
  exact ⟨_, e1, e2, i2, j2, CNR_q hCNR (ks_t (ks_f f1 (by decide +kernel)) (ks_f f2 (by decide +kernel))), THR_q hTHR (ks_t (ks_f f1 (by decide +kernel)) (ks_f f2 (by decide +kernel))), SPR_q hSPR (ks_t (ks_f f1 (by decide +kernel)) (ks_f f2 (by decide +kernel))), TXR_q hTXR (ks_t (ks_f f1 (by decide +kernel)) (ks_f f2 (by decide +kernel))), ENR_q hENR (ks_t (ks_f f1 (by decide +kernel)) (ks_f f2 (by decide +kernel))), MAR_q hMAR (ks_t (ks_f f1 (by decide +kernel)) (ks_f f2 (by decide +kernel))), DER_q hDER (ks_t (ks_f f1 (by decide +kernel)) (ks_f f2 (by decide +kernel))), PLR_q pl1.1 (ks_f f2 (by decide +kernel)), LDR_q pl1.2 (ks_f f2 (by decide +kernel)), RCR_q hRCR (ks_t (ks_f f1 (by decide +kernel)) (ks_f f2 (by decide +kernel))), DAR_q hDAR (ks_t (ks_f f1 (by decide +kernel)) (ks_f f2 (by decide +kernel))), MVR_q hMVR (ks_t (ks_f f1 (by decide +kernel)) (ks_f f2 (by decide +kernel))), CNO_q hCNO (ks_t (ks_f f1 (by decide +kernel)) (ks_f f2 (by decide +kernel))), CLM_q hCLM (ks_t (ks_f f1 (by decide +kernel)) (ks_f f2 (by decide +kernel))), d2.1 su1, KNK_q hKNK (ks_t (ks_f f1 (by decide +kernel)) (ks_f f2 (by decide +kernel))), HNA_q hHNA (ks_t (ks_f f1 (by decide +kernel)) (ks_f f2 (by decide +kernel))), wi hWIT, cu hCUT⟩
set_option maxRecDepth 100000 in
theorem re_witness {N : Int} {T T1 T2 : Zt} {m9 : Int} {r1 r2 : Option Zv} (hT : ok_T T) (hI : IC_ N T) (hR : IR_ T) (h : RE_ T) (a : qx_witness N T m9 T1 r1) (b : qm_witness (N + 1) T1 m9 T2 r2) : LQo_ N T2 r1 r2 := by
  obtain ⟨x1, e1, -, -, f1, d1⟩ := a
  obtain ⟨x2, e2, i2, j2, f2, d2⟩ := b
  have hR2 := RE_q h (ks_t (ks_f f1 (by decide +kernel)) (ks_f f2 (by decide +kernel)))
  obtain ⟨hCNR, hTHR, hSPR, hTXR, hENR, hMAR, hDER, hPLR, hLDR, hRCR, hDAR, hMVR, hCNO, hCLM, hSUP, hKNK, hHNA, hWIT, hCUT⟩ := h
  rw [fzq_ f1] at d2
  have ex : x1 = x2 := wit_x hWIT hMAR (bd_f hT 106 4 tl_6_4 0).2 d1 d2
  subst ex
  exact ⟨_, e1, e2, i2, j2, hR2⟩
set_option maxRecDepth 100000 in
theorem re_cut {N : Int} {T T1 T2 : Zt} {r1 r2 : Option Zv} (hT : ok_T T) (hI : IC_ N T) (hR : IR_ T) (h : RE_ T) (a : qx_cut N T T1 r1) (b : qm_cut (N + 1) T1 T2 r2) : LQo_ N T2 r1 r2 := by
  obtain ⟨x1, e1, -, -, f1, d1⟩ := a
  obtain ⟨x2, e2, i2, j2, f2, d2⟩ := b
  have hR2 := RE_q h (ks_t (ks_f f1 (by decide +kernel)) (ks_f f2 (by decide +kernel)))
  obtain ⟨hCNR, hTHR, hSPR, hTXR, hENR, hMAR, hDER, hPLR, hLDR, hRCR, hDAR, hMVR, hCNO, hCLM, hSUP, hKNK, hHNA, hWIT, hCUT⟩ := h
  rw [fzq_ f1] at d2
  have ex : x1 = x2 := d1.trans (Eq.trans hCUT d2.symm)
  subst ex
  exact ⟨_, e1, e2, i2, j2, hR2⟩
set_option maxRecDepth 100000 in
theorem re_firsts {N : Int} {T T1 T2 : Zt} {c9 b9 : Int} {r1 r2 : Option Zv} (hT : ok_T T) (hI : IC_ N T) (hR : IR_ T) (h : RE_ T) (a : qx_firsts N T c9 b9 T1 r1) (b : qm_firsts (N + 1) T1 c9 b9 T2 r2) : LBo_ N T2 r1 r2 := by
  obtain ⟨x1, e1, -, -, f1, d1⟩ := a
  obtain ⟨x2, e2, i2, j2, f2, d2⟩ := b
  obtain ⟨hCNR, hTHR, hSPR, hTXR, hENR, hMAR, hDER, hPLR, hLDR, hRCR, hDAR, hMVR, hCNO, hCLM, hSUP, hKNK, hHNA, hWIT, hCUT⟩ := h
  have su : SUP_ T2 := d2 ((f1 111 0 80 rfl).trans hSUP)
  exact ⟨x1, x2, e1, e2, i2, j2, CNR_q hCNR (ks_t (ks_f f1 (by decide +kernel)) (ks_f f2 (by decide +kernel))), THR_q hTHR (ks_t (ks_f f1 (by decide +kernel)) (ks_f f2 (by decide +kernel))), SPR_q hSPR (ks_t (ks_f f1 (by decide +kernel)) (ks_f f2 (by decide +kernel))), TXR_q hTXR (ks_t (ks_f f1 (by decide +kernel)) (ks_f f2 (by decide +kernel))), ENR_q hENR (ks_t (ks_f f1 (by decide +kernel)) (ks_f f2 (by decide +kernel))), MAR_q hMAR (ks_t (ks_f f1 (by decide +kernel)) (ks_f f2 (by decide +kernel))), DER_q hDER (ks_t (ks_f f1 (by decide +kernel)) (ks_f f2 (by decide +kernel))), PLR_q hPLR (ks_t (ks_f f1 (by decide +kernel)) (ks_f f2 (by decide +kernel))), LDR_q hLDR (ks_t (ks_f f1 (by decide +kernel)) (ks_f f2 (by decide +kernel))), RCR_q hRCR (ks_t (ks_f f1 (by decide +kernel)) (ks_f f2 (by decide +kernel))), DAR_q hDAR (ks_t (ks_f f1 (by decide +kernel)) (ks_f f2 (by decide +kernel))), MVR_q hMVR (ks_t (ks_f f1 (by decide +kernel)) (ks_f f2 (by decide +kernel))), CNO_q hCNO (ks_t (ks_f f1 (by decide +kernel)) (ks_f f2 (by decide +kernel))), CLM_q hCLM (ks_t (ks_f f1 (by decide +kernel)) (ks_f f2 (by decide +kernel))), su, KNK_q hKNK (ks_t (ks_f f1 (by decide +kernel)) (ks_f f2 (by decide +kernel))), HNA_q hHNA (ks_t (ks_f f1 (by decide +kernel)) (ks_f f2 (by decide +kernel))), WIT_q hWIT (ks_t (ks_f f1 (by decide +kernel)) (ks_f f2 (by decide +kernel))), CUT_q hCUT (ks_t (ks_f f1 (by decide +kernel)) (ks_f f2 (by decide +kernel)))⟩
set_option maxRecDepth 100000 in
theorem re_drawing {N : Int} {T T1 T2 : Zt} {g9 l9 : Int} {r1 r2 : Option Zv} (hT : ok_T T) (hI : IC_ N T) (hR : IR_ T) (h : RE_ T) (a : qx_drawing N T g9 l9 T1 r1) (b : qm_drawing (N + 1) T1 g9 l9 T2 r2) : LBo_ N T2 r1 r2 := by
  obtain ⟨x1, e1, -, -, f1, d1⟩ := a
  obtain ⟨x2, e2, i2, j2, f2, d2⟩ := b
  have hR2 := RE_q h (ks_t (ks_f f1 (by decide +kernel)) (ks_f f2 (by decide +kernel)))
  exact ⟨x1, x2, e1, e2, i2, j2, hR2⟩
set_option maxRecDepth 100000 in
theorem re_pot {N : Int} {T T1 T2 : Zt} {c9 k9 : Int} {r1 r2 : Option Zv} (hT : ok_T T) (hI : IC_ N T) (hR : IR_ T) (h : RE_ T) (a : qx_pot N T c9 k9 T1 r1) (b : qm_pot (N + 1) T1 c9 k9 T2 r2) : LBo_ N T2 r1 r2 := by
  obtain ⟨x1, e1, -, -, f1, d1⟩ := a
  obtain ⟨x2, e2, i2, j2, f2, d2⟩ := b
  have hR2 := RE_q h (ks_t (ks_f f1 (by decide +kernel)) (ks_f f2 (by decide +kernel)))
  exact ⟨x1, x2, e1, e2, i2, j2, hR2⟩
set_option maxRecDepth 100000 in
theorem re_ways {N : Int} {T T1 T2 : Zt} {r1 r2 : Option Zv} (hT : ok_T T) (hI : IC_ N T) (hR : IR_ T) (h : RE_ T) (a : qx_ways N T T1 r1) (b : qm_ways (N + 1) T1 T2 r2) : LBo_ N T2 r1 r2 := by
  obtain ⟨x1, e1, -, -, f1, d1⟩ := a
  obtain ⟨x2, e2, i2, j2, f2, d2⟩ := b
  have hR2 := RE_q h (ks_t (ks_f f1 (by decide +kernel)) (ks_f f2 (by decide +kernel)))
  exact ⟨x1, x2, e1, e2, i2, j2, hR2⟩
set_option maxRecDepth 100000 in
theorem re_chance {N : Int} {T T1 T2 : Zt} {c9 g9 : Int} {r1 r2 : Option Zv} (hT : ok_T T) (hI : IC_ N T) (hR : IR_ T) (h : RE_ T) (a : qx_chance N T c9 g9 T1 r1) (b : qm_chance (N + 1) T1 c9 g9 T2 r2) : LBo_ N T2 r1 r2 := by
  obtain ⟨x1, e1, -, -, f1, d1⟩ := a
  obtain ⟨x2, e2, i2, j2, f2, d2⟩ := b
  have hR2 := RE_q h (ks_t (ks_f f1 (by decide +kernel)) (ks_f f2 (by decide +kernel)))
  exact ⟨x1, x2, e1, e2, i2, j2, hR2⟩
set_option maxRecDepth 100000 in
theorem re_ball {N : Int} {T T1 T2 : Zt} {s9 b9 : Int} {r1 r2 : Option Zv} (hT : ok_T T) (hI : IC_ N T) (hR : IR_ T) (h : RE_ T) (a : qx_ball N T s9 b9 T1 r1) (b : qm_ball (N + 1) T1 s9 b9 T2 r2) : LBo_ N T2 r1 r2 := by
  obtain ⟨x1, e1, -, -, f1, d1⟩ := a
  obtain ⟨x2, e2, i2, j2, f2, d2⟩ := b
  have hR2 := RE_q h (ks_t (ks_f f1 (by decide +kernel)) (ks_f f2 (by decide +kernel)))
  exact ⟨x1, x2, e1, e2, i2, j2, hR2⟩
set_option maxRecDepth 100000 in
theorem re_drawn {N : Int} {T T1 T2 : Zt} {c9 : Int} {r1 r2 : Option Zv} (hT : ok_T T) (hI : IC_ N T) (hR : IR_ T) (h : RE_ T) (a : qx_drawn N T c9 T1 r1) (b : qm_drawn (N + 1) T1 c9 T2 r2) : LBo_ N T2 r1 r2 := by
  obtain ⟨x1, e1, -, -, f1, d1⟩ := a
  obtain ⟨x2, e2, i2, j2, f2, d2⟩ := b
  have hR2 := RE_q h (ks_t (ks_f f1 (by decide +kernel)) (ks_f f2 (by decide +kernel)))
  exact ⟨x1, x2, e1, e2, i2, j2, hR2⟩
set_option maxRecDepth 100000 in
theorem re_assign {N : Int} {T T1 T2 : Zt} {d9 : Int} {r1 r2 : Option Zv} (hT : ok_T T) (hI : IC_ N T) (hR : IR_ T) (h : RE_ T) (a : qx_assign N T d9 T1 r1) (b : qm_assign (N + 1) T1 d9 T2 r2) : LBo_ N T2 r1 r2 := by
  obtain ⟨x1, e1, -, -, f1, d1⟩ := a
  obtain ⟨x2, e2, i2, j2, f2, d2⟩ := b
  obtain ⟨hCNR, hTHR, hSPR, hTXR, hENR, hMAR, hDER, hPLR, hLDR, hRCR, hDAR, hMVR, hCNO, hCLM, hSUP, hKNK, hHNA, hWIT, hCUT⟩ := h
  have pl1 := pl_assign hI hPLR hLDR f1 d1.1 d1.2.1
  exact ⟨x1, x2, e1, e2, i2, j2, CNR_q hCNR (ks_t (ks_f f1 (by decide +kernel)) (ks_f f2 (by decide +kernel))), THR_q hTHR (ks_t (ks_f f1 (by decide +kernel)) (ks_f f2 (by decide +kernel))), SPR_q hSPR (ks_t (ks_f f1 (by decide +kernel)) (ks_f f2 (by decide +kernel))), TXR_q hTXR (ks_t (ks_f f1 (by decide +kernel)) (ks_f f2 (by decide +kernel))), ENR_q hENR (ks_t (ks_f f1 (by decide +kernel)) (ks_f f2 (by decide +kernel))), MAR_q hMAR (ks_t (ks_f f1 (by decide +kernel)) (ks_f f2 (by decide +kernel))), DER_q hDER (ks_t (ks_f f1 (by decide +kernel)) (ks_f f2 (by decide +kernel))), PLR_q pl1.1 (ks_f f2 (by decide +kernel)), LDR_q pl1.2 (ks_f f2 (by decide +kernel)), RCR_q hRCR (ks_t (ks_f f1 (by decide +kernel)) (ks_f f2 (by decide +kernel))), DAR_q hDAR (ks_t (ks_f f1 (by decide +kernel)) (ks_f f2 (by decide +kernel))), MVR_q hMVR (ks_t (ks_f f1 (by decide +kernel)) (ks_f f2 (by decide +kernel))), CNO_q hCNO (ks_t (ks_f f1 (by decide +kernel)) (ks_f f2 (by decide +kernel))), CLM_q hCLM (ks_t (ks_f f1 (by decide +kernel)) (ks_f f2 (by decide +kernel))), SUP_q hSUP (ks_t (ks_f f1 (by decide +kernel)) (ks_f f2 (by decide +kernel))), KNK_q hKNK (ks_t (ks_f f1 (by decide +kernel)) (ks_f f2 (by decide +kernel))), HNA_q hHNA (ks_t (ks_f f1 (by decide +kernel)) (ks_f f2 (by decide +kernel))), WIT_q hWIT (ks_t (ks_f f1 (by decide +kernel)) (ks_f f2 (by decide +kernel))), CUT_q hCUT (ks_t (ks_f f1 (by decide +kernel)) (ks_f f2 (by decide +kernel)))⟩
set_option maxRecDepth 100000 in
theorem re_officialOf {N : Int} {T T1 T2 : Zt} {m9 : Int} {r1 r2 : Option Zv} (hT : ok_T T) (hI : IC_ N T) (hR : IR_ T) (h : RE_ T) (a : qx_officialOf N T m9 T1 r1) (b : qm_officialOf (N + 1) T1 m9 T2 r2) : LBo_ N T2 r1 r2 := by
  obtain ⟨x1, e1, -, -, f1, d1⟩ := a
  obtain ⟨x2, e2, i2, j2, f2, d2⟩ := b
  have hR2 := RE_q h (ks_t (ks_f f1 (by decide +kernel)) (ks_f f2 (by decide +kernel)))
  exact ⟨x1, x2, e1, e2, i2, j2, hR2⟩
set_option maxRecDepth 100000 in
theorem re_count {N : Int} {T T1 T2 : Zt} {w9 : Int} {r1 r2 : Option Zv} (hT : ok_T T) (hI : IC_ N T) (hR : IR_ T) (h : RE_ T) (a : qx_count N T w9 T1 r1) (b : qm_count (N + 1) T1 w9 T2 r2) : LQo_ N T2 r1 r2 := by
  obtain ⟨x1, e1, -, -, f1, d1⟩ := a
  obtain ⟨x2, e2, i2, j2, f2, d2⟩ := b
  have hR2 := RE_q h (ks_t (ks_f f1 (by decide +kernel)) (ks_f f2 (by decide +kernel)))
  obtain ⟨hCNR, hTHR, hSPR, hTXR, hENR, hMAR, hDER, hPLR, hLDR, hRCR, hDAR, hMVR, hCNO, hCLM, hSUP, hKNK, hHNA, hWIT, hCUT⟩ := h
  rw [fzq_ f1] at d2
  have ex : x1 = x2 := pl_count hCNR hSPR hTXR hMAR hRCR d1 d2
  subst ex
  exact ⟨_, e1, e2, i2, j2, hR2⟩

