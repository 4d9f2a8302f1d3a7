/-! THE REFERENCE'S TABLES: written by wip/whole/sv/tabgen.py -/
def sm_fs : List sv_F := [(none, .int), (some 1, .int), (none, .int), (some 2, .int), (none, .int), (some 3, .int), (some 4, .int), (none, .int), (none, .int), (none, .boolean), (some 5, .int), (none, .int), (none, .int), (some 6, .int), (some 7, .int), (some 8, .int), (some 9, .int), (some 10, .int), (none, .int), (none, .int), (none, .int), (none, .int), (none, .int), (none, .int), (none, .int), (some 11, .int), (some 12, .int), (some 13, .int), (some 14, .int), (some 15, .int), (some 16, .int), (none, .int), (none, .int), (some 17, .int), (some 18, .int), (some 19, .int), (some 20, .int), (some 21, .int), (some 22, .int), (some 23, .int), (some 24, .int), (some 25, .int), (none, .int), (none, .int), (none, .int), (none, .int), (none, .int), (none, .boolean), (some 26, .int), (some 27, .int), (some 28, .int), (some 29, .int), (some 30, .int), (none, .int), (some 31, .int), (none, .int), (none, .int), (some 32, .int), (some 33, .int), (none, .int), (none, .int), (none, .array .int), (none, .array .int), (none, .array .int), (none, .array .int), (none, .array .int), (none, .int), (some 39, .int), (none, .int), (some 40, .int), (none, .int), (none, .int), (none, .boolean), (none, .int), (none, .int), (none, .boolean), (none, .int), (some 41, .int), (some 42, .int), (some 43, .int), (some 44, .int), (some 45, .int), (some 46, .int), (some 47, .int), (none, .int), (none, .int), (none, .int), (some 48, .int), (some 49, .int), (some 50, .int), (some 51, .int), (some 52, .int), (none, .int), (some 53, .int), (some 54, .int), (some 55, .int), (some 56, .int), (some 57, .int), (some 58, .int), (some 59, .int), (some 60, .int), (some 61, .int), (some 62, .int), (some 63, .int), (some 64, .int), (some 65, .int), (some 66, .int), (none, .int), (some 67, .int), (none, .int), (none, .int), (none, .int), (none, .int), (none, .boolean), (none, .int), (none, .int), (some 68, .int), (some 69, .int), (some 70, .int), (none, .boolean), (none, .int), (none, .int), (some 71, .int), (some 72, .int), (some 73, .int), (some 74, .int), (some 75, .int), (none, .int), (some 76, .int), (some 77, .int), (some 78, .int), (some 79, .int), (some 80, .int), (some 81, .int), (some 82, .int), (some 83, .int), (some 84, .int), (some 85, .int), (some 86, .int), (some 87, .int), (some 88, .int), (some 89, .int), (some 90, .int), (none, .long), (none, .long), (none, .boolean), (some 91, .int), (none, .int), (none, .int), (none, .int), (none, .boolean)]
def sm_base : List sv_C := .inr (0, sm_fs) :: [.inl (.byte, 4000), .inl (.byte, 4000), .inl (.char, 24000), .inl (.int, 400), .inl (.char, 200), .inl (.int, 4002), .inl (.int, 4002), .inl (.int, 4002), .inl (.int, 4002), .inl (.int, 4002), .inl (.int, 12000), .inl (.int, 60000), .inl (.int, 12000), .inl (.boolean, 12000), .inl (.int, 200), .inl (.int, 200), .inl (.int, 12), .inl (.boolean, 12), .inl (.int, 96), .inl (.int, 12), .inl (.int, 12), .inl (.int, 12), .inl (.int, 1200), .inl (.int, 12), .inl (.int, 100), .inl (.int, 600), .inl (.int, 600), .inl (.int, 600), .inl (.int, 600), .inl (.int, 12), .inl (.int, 8000), .inl (.int, 1200), .inl (.int, 12), .inl (.int, 2000), .inl (.int, 2000), .inl (.int, 2000), .inl (.int, 2000), .inl (.int, 2000), .inl (.int, 12000), .inl (.int, 12000), .inl (.int, 300), .inl (.int, 300), .inl (.int, 300), .inl (.int, 300), .inl (.int, 300), .inl (.int, 300), .inl (.int, 300), .inl (.int, 3000), .inl (.int, 3000), .inl (.int, 3000), .inl (.int, 3000), .inl (.int, 3000), .inl (.int, 24), .inl (.int, 24), .inl (.int, 24), .inl (.int, 24), .inl (.int, 24), .inl (.int, 24), .inl (.int, 24), .inl (.int, 24), .inl (.int, 960), .inl (.int, 960), .inl (.int, 9600), .inl (.int, 9600), .inl (.int, 9600), .inl (.int, 9600), .inl (.int, 100), .inl (.long, 647800), .inl (.long, 647800), .inl (.long, 647800), .inl (.boolean, 640), .inl (.boolean, 640), .inl (.int, 640), .inl (.int, 640), .inl (.int, 640), .inl (.long, 640), .inl (.long, 640), .inl (.int, 640), .inl (.int, 25600), .inl (.int, 25600), .inl (.boolean, 15128), .inl (.boolean, 15128), .inl (.long, 15128), .inl (.long, 15128), .inl (.long, 15128), .inl (.long, 15128), .inl (.boolean, 90), .inl (.boolean, 90), .inl (.boolean, 90), .inl (.boolean, 20), .inl (.int, 12)]
/-- rows that 'longer' made: as many as slot 1100000 says -/
def sm_made (S : sv_S) : Nat := min (S 1100000 0).toNat 100
def sm_len (q : Nat) : Nat := 4000 * 2 ^ (q / 5)
def sm_dyn (m : Nat) : List sv_C := (List.range m).map (fun q => .inl (.int, sm_len q))
def sm_sh (S : sv_S) : List sv_C := sm_base ++ sm_dyn (sm_made S)
def sm_cs (S : sv_S) : Nat × Nat := (sm_made S, ((List.range (sm_made S)).map sm_len).sum)
theorem sm_X : sv_X sm_sh sm_cs := by
  refine ⟨fun S => ⟨?_, ?_⟩, fun S j i v hj => ?_⟩
  · have h1 : sm_base.length = 92 := rfl
    have h2 : sm_made S ≤ 100 := Nat.min_le_right _ _
    unfold sm_sh sm_dyn
    rw [List.length_append, h1, List.length_map, List.length_range]
    omega
  · intro ci fs h
    unfold sm_sh at h
    rcases List.mem_append.mp h with h | h
    · unfold sm_base at h
      rcases List.mem_cons.mp h with h | h
      · cases h; decide +kernel
      · exact absurd h (by simp)
    · unfold sm_dyn at h
      obtain ⟨q, _, hq⟩ := List.mem_map.mp h
      cases hq
  · have e : sm_made (sv_up S j i v) = sm_made S := by
      unfold sm_made
      rw [sv_up_ne (by omega)]
    unfold sm_sh sm_cs
    rw [e]
    exact ⟨rfl, rfl⟩
def sm_flL : List (Nat × (Nat × Nat)) := [(7, (0, 1)), (13, (0, 3)), (16, (0, 5)), (20, (0, 6)), (24, (0, 10)), (27, (0, 13)), (30, (0, 14)), (33, (0, 15)), (36, (0, 16)), (39, (0, 17)), (42, (0, 25)), (46, (0, 26)), (49, (0, 27)), (52, (0, 28)), (56, (0, 29)), (59, (0, 30)), (62, (0, 33)), (65, (0, 34)), (68, (0, 35)), (71, (0, 36)), (74, (0, 37)), (77, (0, 38)), (80, (0, 39)), (83, (0, 40)), (86, (0, 41)), (89, (0, 48)), (92, (0, 49)), (95, (0, 50)), (98, (0, 51)), (101, (0, 52)), (104, (0, 54)), (107, (0, 57)), (110, (0, 58)), (113, (0, 61)), (116, (0, 62)), (119, (0, 63)), (122, (0, 64)), (125, (0, 65)), (128, (0, 67)), (131, (0, 69)), (134, (0, 77)), (137, (0, 78)), (140, (0, 79)), (143, (0, 80)), (146, (0, 81)), (149, (0, 82)), (152, (0, 83)), (155, (0, 87)), (158, (0, 88)), (161, (0, 89)), (164, (0, 90)), (167, (0, 91)), (170, (0, 93)), (173, (0, 94)), (176, (0, 95)), (179, (0, 96)), (182, (0, 97)), (185, (0, 98)), (188, (0, 99)), (191, (0, 100)), (194, (0, 101)), (197, (0, 102)), (200, (0, 103)), (203, (0, 104)), (206, (0, 105)), (209, (0, 106)), (212, (0, 108)), (216, (0, 116)), (220, (0, 117)), (223, (0, 118)), (226, (0, 122)), (229, (0, 123)), (232, (0, 124)), (235, (0, 125)), (238, (0, 126)), (241, (0, 128)), (244, (0, 129)), (247, (0, 130)), (250, (0, 131)), (253, (0, 132)), (256, (0, 133)), (259, (0, 134)), (262, (0, 135)), (265, (0, 136)), (268, (0, 137)), (271, (0, 138)), (274, (0, 139)), (277, (0, 140)), (280, (0, 141)), (283, (0, 142)), (286, (0, 146)), (289, (0, 0)), (293, (0, 2)), (296, (0, 7)), (299, (0, 11)), (306, (0, 9)), (328, (0, 4)), (344, (0, 18)), (347, (0, 19)), (350, (0, 12)), (389, (0, 21)), (392, (0, 20)), (395, (0, 22)), (407, (0, 23)), (421, (0, 24)), (424, (0, 31)), (427, (0, 43)), (430, (0, 42)), (527, (0, 32)), (530, (0, 44)), (533, (0, 45)), (606, (0, 46)), (609, (0, 47)), (612, (0, 56)), (619, (0, 53)), (634, (0, 60)), (637, (0, 59)), (650, (0, 66)), (689, (0, 55)), (707, (0, 68)), (741, (0, 70)), (762, (0, 8)), (765, (0, 71)), (770, (0, 72)), (773, (0, 73)), (776, (0, 119)), (788, (0, 111)), (791, (0, 112)), (794, (0, 75)), (806, (0, 113)), (843, (0, 76)), (849, (0, 84)), (852, (0, 85)), (855, (0, 86)), (861, (0, 74)), (864, (0, 107)), (872, (0, 92)), (891, (0, 109)), (894, (0, 110)), (995, (0, 115)), (998, (0, 114)), (1034, (0, 120)), (1107, (0, 127)), (1118, (0, 143)), (1122, (0, 144)), (1156, (0, 145)), (1178, (0, 147)), (1185, (0, 150)), (1188, (0, 148)), (1208, (0, 149)), (1376, (0, 121))]
def sm_fl : Nat → Option (Nat × Nat) := fun i => sm_flL.lookup i
def sm_fpL : List (Nat × (Nat × Nat × FieldType × Bool)) := [(113, (0, 61, .array .int, false)), (116, (0, 62, .array .int, false)), (119, (0, 63, .array .int, false)), (122, (0, 64, .array .int, false)), (125, (0, 65, .array .int, false)), (289, (0, 0, .int, false)), (293, (0, 2, .int, false)), (296, (0, 7, .int, false)), (299, (0, 11, .int, false)), (306, (0, 9, .boolean, false)), (328, (0, 4, .int, false)), (344, (0, 18, .int, false)), (347, (0, 19, .int, false)), (350, (0, 12, .int, false)), (389, (0, 21, .int, false)), (392, (0, 20, .int, false)), (395, (0, 22, .int, false)), (407, (0, 23, .int, false)), (421, (0, 24, .int, false)), (424, (0, 31, .int, false)), (427, (0, 43, .int, false)), (430, (0, 42, .int, false)), (527, (0, 32, .int, false)), (530, (0, 44, .int, false)), (533, (0, 45, .int, false)), (606, (0, 46, .int, false)), (609, (0, 47, .boolean, false)), (612, (0, 56, .int, false)), (619, (0, 53, .int, false)), (634, (0, 60, .int, false)), (637, (0, 59, .int, false)), (650, (0, 66, .int, false)), (689, (0, 55, .int, false)), (707, (0, 68, .int, false)), (741, (0, 70, .int, false)), (762, (0, 8, .int, false)), (765, (0, 71, .int, false)), (770, (0, 72, .boolean, false)), (773, (0, 73, .int, false)), (776, (0, 119, .boolean, false)), (788, (0, 111, .int, false)), (791, (0, 112, .int, false)), (794, (0, 75, .boolean, false)), (806, (0, 113, .boolean, false)), (843, (0, 76, .int, false)), (849, (0, 84, .int, false)), (852, (0, 85, .int, false)), (855, (0, 86, .int, false)), (861, (0, 74, .int, false)), (864, (0, 107, .int, false)), (872, (0, 92, .int, false)), (891, (0, 109, .int, false)), (894, (0, 110, .int, false)), (995, (0, 115, .int, false)), (998, (0, 114, .int, false)), (1034, (0, 120, .int, false)), (1107, (0, 127, .int, false)), (1118, (0, 143, .long, false)), (1122, (0, 144, .long, false)), (1156, (0, 145, .boolean, false)), (1178, (0, 147, .int, false)), (1185, (0, 150, .boolean, false)), (1188, (0, 148, .int, false)), (1208, (0, 149, .int, false)), (1376, (0, 121, .int, false))]
def sm_fp : Nat → Option (Nat × Nat × FieldType × Bool) := fun i => sm_fpL.lookup i
def sm_ckL : List (Nat × Value) := [(45, .int (60000)), (215, .int (647800)), (1065, .int (647790)), (1084, .int (635640)), (1091, .int (635000)), (1181, .int (647791)), (1194, .int (647792)), (1217, .int (647793)), (1218, .int (647740)), (1273, .int (647794)), (1339, .int (647750)), (1349, .int (647751)), (1353, .int (647752)), (1357, .int (647753)), (1358, .int (647760)), (1359, .int (647761)), (1360, .int (647762)), (1379, .int (465000)), (1380, .int (647340)), (381, .long (10)), (383, .long (48)), (385, .long (2147483647)), (416, .long (9)), (768, .long (450000)), (1043, .long (1023)), (1045, .long (127)), (1110, .long (-1)), (1310, .long (-2)), (1312, .long (16)), (1340, .long (2)), (313, .ref 900), (379, .ref 901), (387, .ref 902)]
def sm_ck : Nat → Option Value := fun i => sm_ckL.lookup i
def sm_ivL : List (Nat × (Option Nat × Nat × Nat)) := [(302, (some 0, 5, 0)), (310, (some 0, 6, 0)), (324, (some 0, 7, 1)), (331, (some 0, 11, 1)), (334, (some 0, 10, 1)), (338, (none, 12, 1)), (341, (none, 13, 1)), (353, (some 0, 15, 0)), (357, (some 0, 17, 0)), (360, (some 0, 18, 0)), (363, (some 0, 20, 0)), (366, (some 0, 21, 1)), (369, (some 0, 22, 0)), (372, (some 0, 14, 1)), (375, (some 0, 19, 2)), (398, (some 0, 24, 1)), (401, (some 0, 23, 1)), (404, (some 0, 25, 1)), (410, (some 0, 31, 1)), (413, (some 0, 8, 0)), (418, (some 0, 30, 1)), (433, (some 0, 41, 0)), (436, (some 0, 40, 0)), (439, (some 0, 39, 0)), (442, (some 0, 47, 1)), (446, (some 0, 33, 4)), (450, (some 0, 28, 1)), (454, (some 0, 29, 0)), (457, (some 0, 48, 1)), (460, (some 0, 45, 0)), (463, (some 0, 44, 1)), (466, (some 0, 46, 1)), (469, (some 0, 51, 2)), (473, (some 0, 26, 1)), (476, (some 0, 52, 0)), (479, (some 0, 49, 1)), (482, (some 0, 50, 0)), (485, (some 0, 53, 0)), (488, (some 0, 54, 0)), (490, (some 0, 55, 0)), (493, (some 0, 59, 0)), (496, (some 0, 57, 0)), (499, (some 0, 56, 1)), (502, (some 0, 43, 1)), (505, (some 0, 58, 3)), (509, (some 0, 35, 0)), (512, (some 0, 36, 1)), (515, (some 0, 37, 0)), (518, (some 0, 60, 0)), (521, (some 0, 61, 0)), (524, (some 0, 62, 1)), (536, (some 0, 32, 0)), (539, (some 0, 38, 2)), (543, (some 0, 64, 1)), (546, (some 0, 65, 1)), (549, (some 0, 63, 2)), (553, (some 0, 67, 0)), (556, (some 0, 42, 0)), (559, (some 0, 68, 0)), (562, (some 0, 70, 0)), (565, (some 0, 69, 0)), (568, (some 0, 71, 1)), (571, (some 0, 66, 0)), (574, (some 0, 74, 0)), (577, (some 0, 72, 0)), (580, (some 0, 73, 0)), (583, (some 0, 75, 0)), (585, (some 0, 76, 0)), (588, (some 0, 78, 0)), (591, (some 0, 79, 0)), (594, (some 0, 80, 0)), (597, (some 0, 81, 0)), (600, (some 0, 27, 1)), (603, (some 0, 77, 1)), (615, (some 0, 82, 3)), (622, (some 0, 86, 2)), (625, (some 0, 87, 3)), (644, (some 0, 34, 2)), (647, (some 0, 95, 1)), (653, (some 0, 94, 1)), (656, (some 0, 90, 2)), (660, (some 0, 98, 1)), (663, (some 0, 97, 1)), (666, (some 0, 83, 1)), (668, (some 0, 96, 1)), (671, (some 0, 101, 1)), (674, (some 0, 84, 0)), (677, (some 0, 85, 1)), (680, (some 0, 88, 1)), (683, (some 0, 99, 1)), (686, (some 0, 100, 1)), (692, (some 0, 102, 2)), (695, (some 0, 103, 3)), (698, (some 0, 104, 2)), (701, (some 0, 105, 2)), (704, (some 0, 89, 1)), (710, (some 0, 107, 1)), (713, (some 0, 106, 1)), (716, (some 0, 109, 1)), (719, (some 0, 108, 4)), (723, (some 0, 93, 4)), (726, (some 0, 92, 2)), (729, (some 0, 111, 1)), (732, (some 0, 112, 1)), (735, (some 0, 113, 1)), (738, (some 0, 115, 2)), (744, (some 0, 110, 2)), (747, (some 0, 114, 1)), (750, (some 0, 118, 2)), (753, (some 0, 117, 1)), (756, (some 0, 116, 1)), (759, (none, 119, 1)), (779, (some 0, 9, 0)), (782, (some 0, 16, 0)), (785, (some 0, 120, 0)), (797, (some 0, 124, 1)), (800, (some 0, 125, 2)), (803, (some 0, 123, 0)), (809, (some 0, 128, 1)), (812, (none, 130, 4)), (816, (some 0, 127, 2)), (819, (some 0, 132, 2)), (822, (some 0, 122, 2)), (824, (some 0, 129, 2)), (827, (some 0, 134, 1)), (830, (some 0, 136, 3)), (834, (some 0, 131, 4)), (837, (some 0, 133, 5)), (841, (none, 138, 3)), (846, (some 0, 140, 2)), (858, (some 0, 139, 3)), (867, (some 0, 146, 3)), (870, (some 0, 141, 4)), (875, (some 0, 148, 5)), (879, (some 0, 149, 0)), (882, (some 0, 153, 1)), (885, (some 0, 152, 2)), (888, (some 0, 154, 0)), (897, (some 0, 156, 2)), (899, (none, 4, 3)), (902, (some 0, 160, 0)), (904, (some 0, 155, 1)), (907, (some 0, 159, 1)), (910, (some 0, 150, 1)), (913, (some 0, 151, 1)), (916, (some 0, 168, 2)), (920, (some 0, 166, 1)), (923, (some 0, 167, 1)), (926, (some 0, 170, 1)), (929, (some 0, 171, 0)), (931, (some 0, 172, 0)), (934, (some 0, 173, 0)), (937, (some 0, 169, 2)), (940, (some 0, 135, 3)), (943, (some 0, 174, 1)), (945, (some 0, 180, 1)), (948, (some 0, 185, 2)), (951, (some 0, 161, 2)), (954, (some 0, 162, 2)), (957, (some 0, 184, 2)), (960, (some 0, 164, 1)), (963, (some 0, 163, 1)), (966, (some 0, 157, 1)), (969, (some 0, 126, 2)), (972, (some 0, 143, 2)), (975, (some 0, 145, 1)), (978, (some 0, 144, 1)), (981, (some 0, 142, 2)), (984, (some 0, 175, 4)), (987, (some 0, 177, 4)), (990, (some 0, 137, 5)), (992, (some 0, 176, 2)), (1001, (some 0, 181, 6)), (1005, (some 0, 182, 3)), (1008, (some 0, 186, 4)), (1011, (some 0, 183, 5)), (1014, (some 0, 178, 1)), (1017, (some 0, 179, 1)), (1020, (some 0, 187, 5)), (1023, (some 0, 188, 3)), (1026, (some 0, 189, 1)), (1029, (some 0, 190, 3)), (1032, (some 0, 191, 3)), (1037, (some 0, 196, 3)), (1040, (some 0, 165, 1)), (1047, (some 0, 202, 1)), (1050, (some 0, 204, 1)), (1053, (some 0, 203, 1)), (1056, (some 0, 205, 4)), (1059, (some 0, 210, 1)), (1062, (some 0, 209, 1)), (1066, (some 0, 206, 1)), (1069, (some 0, 208, 2)), (1072, (some 0, 213, 2)), (1075, (some 0, 214, 2)), (1078, (some 0, 215, 2)), (1081, (some 0, 216, 2)), (1085, (some 0, 223, 1)), (1088, (some 0, 224, 1)), (1092, (some 0, 207, 2)), (1095, (some 0, 232, 1)), (1098, (some 0, 227, 1)), (1101, (some 0, 226, 2)), (1104, (some 0, 234, 1)), (1112, (some 0, 236, 2)), (1115, (some 0, 237, 1)), (1125, (none, 217, 3)), (1135, (some 0, 244, 0)), (1138, (some 0, 241, 1)), (1141, (some 0, 247, 1)), (1144, (some 0, 246, 0)), (1147, (some 0, 245, 1)), (1150, (some 0, 243, 0)), (1153, (some 0, 242, 1)), (1159, (some 0, 250, 4)), (1163, (some 0, 225, 3)), (1166, (none, 240, 1)), (1169, (some 0, 239, 1)), (1172, (some 0, 248, 2)), (1175, (some 0, 255, 2)), (1182, (some 0, 252, 2)), (1191, (some 0, 235, 1)), (1195, (some 0, 229, 1)), (1198, (some 0, 261, 1)), (1201, (some 0, 230, 0)), (1204, (some 0, 254, 4)), (1211, (some 0, 231, 1)), (1214, (some 0, 262, 1)), (1219, (some 0, 218, 3)), (1222, (some 0, 258, 0)), (1225, (some 0, 264, 2)), (1228, (some 0, 266, 2)), (1231, (some 0, 211, 1)), (1234, (some 0, 251, 5)), (1238, (some 0, 270, 2)), (1241, (some 0, 256, 2)), (1244, (some 0, 253, 2)), (1246, (some 0, 274, 0)), (1249, (some 0, 276, 0)), (1252, (some 0, 277, 0)), (1255, (some 0, 272, 3)), (1258, (some 0, 267, 2)), (1261, (some 0, 278, 1)), (1264, (some 0, 280, 1)), (1267, (some 0, 282, 2)), (1270, (some 0, 268, 2)), (1274, (some 0, 259, 1)), (1277, (some 0, 269, 3)), (1280, (some 0, 260, 0)), (1283, (some 0, 221, 1)), (1286, (some 0, 222, 1)), (1289, (some 0, 271, 2)), (1292, (some 0, 263, 2)), (1294, (some 0, 212, 1)), (1297, (some 0, 219, 1)), (1300, (some 0, 220, 1)), (1303, (some 0, 275, 2)), (1306, (some 0, 249, 3)), (1314, (some 0, 279, 3)), (1317, (some 0, 273, 4)), (1320, (some 0, 281, 5)), (1323, (some 0, 228, 2)), (1326, (some 0, 238, 1)), (1329, (some 0, 287, 5)), (1332, (some 0, 284, 8)), (1336, (some 0, 283, 3)), (1342, (some 0, 286, 7)), (1346, (some 0, 285, 1)), (1350, (some 0, 257, 1)), (1354, (some 0, 233, 1)), (1361, (some 0, 288, 2)), (1364, (some 0, 289, 4)), (1367, (some 0, 290, 3)), (1370, (some 0, 292, 3)), (1373, (some 0, 291, 0)), (1381, (some 0, 293, 0)), (1384, (some 0, 265, 1)), (1387, (some 0, 295, 1)), (1390, (some 0, 296, 2)), (315, (some 999, 1001, 0)), (320, (some 999, 1000, 1)), (1129, (none, 1002, 1)), (640, (none, 1003, 1))]
def sm_iv : Nat → Option (Option Nat × Nat × Nat) := fun i => sm_ivL.lookup i
abbrev sm_M (y : MethodName) (c : ByteArray) (n : Nat) (r : Option FieldType) : ev_M := ((y, c, n, r), sm_fl, sm_fp, sm_ck, sm_iv)
abbrev sm_m0 : ev_M := sm_M yX12_init cX12_init 1 none
abbrev sm_m1 : ev_M := sm_M yX12_thrown cX12_thrown 1 (some .int)
abbrev sm_m2 : ev_M := sm_M yX12_feed cX12_feed 8 (some .int)
abbrev sm_m3 : ev_M := sm_M yX12_back cX12_back 2 (some .int)
abbrev sm_m4 : ev_M := sm_M yX12_in cX12_in 3 (some .boolean)
abbrev sm_m5 : ev_M := sm_M yX12_findText cX12_findText 4 (some .int)
abbrev sm_m6 : ev_M := sm_M yX12_addText cX12_addText 2 (some .int)
abbrev sm_m7 : ev_M := sm_M yX12_put cX12_put 2 none
abbrev sm_m8 : ev_M := sm_M yX12_nameOfText cX12_nameOfText 2 (some .int)
abbrev sm_m9 : ev_M := sm_M yX12_firstNames cX12_firstNames 3 none
abbrev sm_m10 : ev_M := sm_M yX12_look cX12_look 2 (some .int)
abbrev sm_m11 : ev_M := sm_M yX12_isThere cX12_isThere 2 (some .boolean)
abbrev sm_m12 : ev_M := sm_M yX12_isLetter cX12_isLetter 1 (some .boolean)
abbrev sm_m13 : ev_M := sm_M yX12_isDigit cX12_isDigit 1 (some .boolean)
abbrev sm_m14 : ev_M := sm_M yX12_isWordly cX12_isWordly 2 (some .boolean)
abbrev sm_m15 : ev_M := sm_M yX12_skip cX12_skip 4 (some .boolean)
abbrev sm_m16 : ev_M := sm_M yX12_cut cX12_cut 3 none
abbrev sm_m17 : ev_M := sm_M yX12_cutOne cX12_cutOne 2 none
abbrev sm_m18 : ev_M := sm_M yX12_cutName cX12_cutName 2 none
abbrev sm_m19 : ev_M := sm_M yX12_keywordAt cX12_keywordAt 6 (some .int)
abbrev sm_m20 : ev_M := sm_M yX12_cutNumber cX12_cutNumber 5 none
abbrev sm_m21 : ev_M := sm_M yX12_cutString cX12_cutString 6 none
abbrev sm_m22 : ev_M := sm_M yX12_cutSign cX12_cutSign 6 none
abbrev sm_m23 : ev_M := sm_M yX12_fail cX12_fail 2 (some .boolean)
abbrev sm_m24 : ev_M := sm_M yX12_isSign cX12_isSign 2 (some .boolean)
abbrev sm_m25 : ev_M := sm_M yX12_isKeyword cX12_isKeyword 2 (some .boolean)
abbrev sm_m26 : ev_M := sm_M yX12_must cX12_must 2 (some .boolean)
abbrev sm_m27 : ev_M := sm_M yX12_mustWord cX12_mustWord 2 (some .boolean)
abbrev sm_m28 : ev_M := sm_M yX12_open cX12_open 2 none
abbrev sm_m29 : ev_M := sm_M yX12_close cX12_close 1 none
abbrev sm_m30 : ev_M := sm_M yX12_nameAt cX12_nameAt 4 (some .int)
abbrev sm_m31 : ev_M := sm_M yX12_putNumber cX12_putNumber 6 none
abbrev sm_m32 : ev_M := sm_M yX12_takeName cX12_takeName 1 (some .int)
abbrev sm_m33 : ev_M := sm_M yX12_node cX12_node 6 (some .int)
abbrev sm_m34 : ev_M := sm_M yX12_part cX12_part 3 (some .int)
abbrev sm_m35 : ev_M := sm_M yX12_beginList cX12_beginList 1 none
abbrev sm_m36 : ev_M := sm_M yX12_add cX12_add 3 none
abbrev sm_m37 : ev_M := sm_M yX12_ended cX12_ended 1 (some .int)
abbrev sm_m38 : ev_M := sm_M yX12_hold cX12_hold 5 none
abbrev sm_m39 : ev_M := sm_M yX12_beginsExpression cX12_beginsExpression 1 (some .boolean)
abbrev sm_m40 : ev_M := sm_M yX12_isLiteral cX12_isLiteral 1 (some .boolean)
abbrev sm_m41 : ev_M := sm_M yX12_isPrefix cX12_isPrefix 1 (some .boolean)
abbrev sm_m42 : ev_M := sm_M yX12_beginsStatement cX12_beginsStatement 2 (some .boolean)
abbrev sm_m43 : ev_M := sm_M yX12_expression cX12_expression 3 (some .int)
abbrev sm_m44 : ev_M := sm_M yX12_isTarget cX12_isTarget 2 (some .boolean)
abbrev sm_m45 : ev_M := sm_M yX12_settingOf cX12_settingOf 1 (some .int)
abbrev sm_m46 : ev_M := sm_M yX12_opened cX12_opened 3 (some .int)
abbrev sm_m47 : ev_M := sm_M yX12_assigned cX12_assigned 4 (some .int)
abbrev sm_m48 : ev_M := sm_M yX12_conditional cX12_conditional 4 (some .int)
abbrev sm_m49 : ev_M := sm_M yX12_bindsOf cX12_bindsOf 2 (some .int)
abbrev sm_m50 : ev_M := sm_M yX12_binaryOf cX12_binaryOf 1 (some .int)
abbrev sm_m51 : ev_M := sm_M yX12_binary cX12_binary 7 (some .int)
abbrev sm_m52 : ev_M := sm_M yX12_unit cX12_unit 6 (some .int)
abbrev sm_m53 : ev_M := sm_M yX12_postfix cX12_postfix 2 (some .int)
abbrev sm_m54 : ev_M := sm_M yX12_left cX12_left 2 (some .int)
abbrev sm_m55 : ev_M := sm_M yX12_fresh cX12_fresh 3 (some .int)
abbrev sm_m56 : ev_M := sm_M yX12_member cX12_member 3 (some .int)
abbrev sm_m57 : ev_M := sm_M yX12_arguments cX12_arguments 1 (some .int)
abbrev sm_m58 : ev_M := sm_M yX12_items cX12_items 7 (some .int)
abbrev sm_m59 : ev_M := sm_M yX12_primary cX12_primary 4 (some .int)
abbrev sm_m60 : ev_M := sm_M yX12_bracketed cX12_bracketed 2 (some .int)
abbrev sm_m61 : ev_M := sm_M yX12_pairs cX12_pairs 6 (some .int)
abbrev sm_m62 : ev_M := sm_M yX12_function cX12_function 10 (some .int)
abbrev sm_m63 : ev_M := sm_M yX12_sameTokens cX12_sameTokens 5 (some .boolean)
abbrev sm_m64 : ev_M := sm_M yX12_readParameters cX12_readParameters 6 none
abbrev sm_m65 : ev_M := sm_M yX12_parts cX12_parts 2 (some .int)
abbrev sm_m66 : ev_M := sm_M yX12_endOfStatement cX12_endOfStatement 1 none
abbrev sm_m67 : ev_M := sm_M yX12_statement cX12_statement 2 (some .int)
abbrev sm_m68 : ev_M := sm_M yX12_statementBody cX12_statementBody 2 (some .int)
abbrev sm_m69 : ev_M := sm_M yX12_plain cX12_plain 2 (some .int)
abbrev sm_m70 : ev_M := sm_M yX12_block cX12_block 3 (some .int)
abbrev sm_m71 : ev_M := sm_M yX12_declarations cX12_declarations 5 (some .int)
abbrev sm_m72 : ev_M := sm_M yX12_condition cX12_condition 2 (some .int)
abbrev sm_m73 : ev_M := sm_M yX12_looped cX12_looped 2 (some .int)
abbrev sm_m74 : ev_M := sm_M yX12_whether cX12_whether 4 (some .int)
abbrev sm_m75 : ev_M := sm_M yX12_until cX12_until 4 (some .int)
abbrev sm_m76 : ev_M := sm_M yX12_counted cX12_counted 8 (some .int)
abbrev sm_m77 : ev_M := sm_M yX12_each cX12_each 4 (some .int)
abbrev sm_m78 : ev_M := sm_M yX12_back_ cX12_back_ 3 (some .int)
abbrev sm_m79 : ev_M := sm_M yX12_toss cX12_toss 2 (some .int)
abbrev sm_m80 : ev_M := sm_M yX12_attempt cX12_attempt 7 (some .int)
abbrev sm_m81 : ev_M := sm_M yX12_cases cX12_cases 10 (some .int)
abbrev sm_m82 : ev_M := sm_M yX12_emit cX12_emit 4 none
abbrev sm_m83 : ev_M := sm_M yX12_emit_ cX12_emit_ 2 none
abbrev sm_m84 : ev_M := sm_M yX12_mark cX12_mark 1 (some .int)
abbrev sm_m85 : ev_M := sm_M yX12_here cX12_here 2 none
abbrev sm_m86 : ev_M := sm_M yX12_isVariable cX12_isVariable 5 (some .boolean)
abbrev sm_m87 : ev_M := sm_M yX12_named cX12_named 6 none
abbrev sm_m88 : ev_M := sm_M yX12_get cX12_get 2 none
abbrev sm_m89 : ev_M := sm_M yX12_set cX12_set 2 none
abbrev sm_m90 : ev_M := sm_M yX12_constant cX12_constant 3 none
abbrev sm_m91 : ev_M := sm_M yX12_longer cX12_longer 2 (some (.array .int))
abbrev sm_m92 : ev_M := sm_M yX12_unwrap cX12_unwrap 3 none
abbrev sm_m93 : ev_M := sm_M yX12_wrapIn cX12_wrapIn 5 none
abbrev sm_m94 : ev_M := sm_M yX12_leftPart cX12_leftPart 2 (some .int)
abbrev sm_m95 : ev_M := sm_M yX12_isMemberCall cX12_isMemberCall 3 (some .boolean)
abbrev sm_m96 : ev_M := sm_M yX12_value cX12_value 4 none
abbrev sm_m97 : ev_M := sm_M yX12_behind cX12_behind 5 none
abbrev sm_m98 : ev_M := sm_M yX12_single cX12_single 6 none
abbrev sm_m99 : ev_M := sm_M yX12_row cX12_row 4 none
abbrev sm_m100 : ev_M := sm_M yX12_object cX12_object 3 none
abbrev sm_m101 : ev_M := sm_M yX12_values cX12_values 4 (some .int)
abbrev sm_m102 : ev_M := sm_M yX12_unary cX12_unary 3 none
abbrev sm_m103 : ev_M := sm_M yX12_give cX12_give 5 none
abbrev sm_m104 : ev_M := sm_M yX12_step cX12_step 3 none
abbrev sm_m105 : ev_M := sm_M yX12_stepBehind cX12_stepBehind 3 none
abbrev sm_m106 : ev_M := sm_M yX12_codes cX12_codes 4 none
abbrev sm_m107 : ev_M := sm_M yX12_code cX12_code 9 none
abbrev sm_m108 : ev_M := sm_M yX12_codeInside cX12_codeInside 7 none
abbrev sm_m109 : ev_M := sm_M yX12_declare cX12_declare 3 none
abbrev sm_m110 : ev_M := sm_M yX12_leave cX12_leave 6 none
abbrev sm_m111 : ev_M := sm_M yX12_codeGo cX12_codeGo 3 none
abbrev sm_m112 : ev_M := sm_M yX12_codeBack cX12_codeBack 4 none
abbrev sm_m113 : ev_M := sm_M yX12_codeAttempt cX12_codeAttempt 7 none
abbrev sm_m114 : ev_M := sm_M yX12_codeCatch cX12_codeCatch 6 none
abbrev sm_m115 : ev_M := sm_M yX12_codeCases cX12_codeCases 9 none
abbrev sm_m116 : ev_M := sm_M yX12_codeFunction cX12_codeFunction 3 none
abbrev sm_m117 : ev_M := sm_M yX12_findVariables cX12_findVariables 3 none
abbrev sm_m118 : ev_M := sm_M yX12_addVariable cX12_addVariable 3 none
abbrev sm_m119 : ev_M := sm_M yX12_isJump cX12_isJump 1 (some .boolean)
abbrev sm_m120 : ev_M := sm_M yX12_compile cX12_compile 3 (some .boolean)
abbrev sm_m121 : ev_M := sm_M yX12_read cX12_read 2 (some .int)
abbrev sm_m122 : ev_M := sm_M yX12_give_ cX12_give_ 3 none
abbrev sm_m123 : ev_M := sm_M yX12_made cX12_made 2 (some .int)
abbrev sm_m124 : ev_M := sm_M yX12_putString cX12_putString 3 none
abbrev sm_m125 : ev_M := sm_M yX12_putText cX12_putText 3 none
abbrev sm_m126 : ev_M := sm_M yX12_textOf cX12_textOf 3 (some .int)
abbrev sm_m127 : ev_M := sm_M yX12_numberOf cX12_numberOf 3 (some .int)
abbrev sm_m128 : ev_M := sm_M yX12_numberOfString cX12_numberOfString 8 (some .int)
abbrev sm_m129 : ev_M := sm_M yX12_isTrue cX12_isTrue 3 (some .boolean)
abbrev sm_m130 : ev_M := sm_M yX12_isSame cX12_isSame 4 (some .boolean)
abbrev sm_m131 : ev_M := sm_M yX12_isEqual cX12_isEqual 8 (some .boolean)
abbrev sm_m132 : ev_M := sm_M yX12_orderOf cX12_orderOf 4 (some .int)
abbrev sm_m133 : ev_M := sm_M yX12_compares cX12_compares 11 (some .boolean)
abbrev sm_m134 : ev_M := sm_M yX12_truth cX12_truth 2 none
abbrev sm_m135 : ev_M := sm_M yX12_unaryOf cX12_unaryOf 5 none
abbrev sm_m136 : ev_M := sm_M yX12_joinsTexts cX12_joinsTexts 4 (some .boolean)
abbrev sm_m137 : ev_M := sm_M yX12_binaryOf_ cX12_binaryOf_ 10 none
abbrev sm_m138 : ev_M := sm_M yX12_bits cX12_bits 3 (some .int)
abbrev sm_m139 : ev_M := sm_M yX12_newObject cX12_newObject 5 (some .int)
abbrev sm_m140 : ev_M := sm_M yX12_findProperty cX12_findProperty 4 (some .int)
abbrev sm_m141 : ev_M := sm_M yX12_set_ cX12_set_ 6 none
abbrev sm_m142 : ev_M := sm_M yX12_remove cX12_remove 6 none
abbrev sm_m143 : ev_M := sm_M yX12_read_ cX12_read_ 5 (some .boolean)
abbrev sm_m144 : ev_M := sm_M yX12_lengthOf cX12_lengthOf 2 (some .int)
abbrev sm_m145 : ev_M := sm_M yX12_indexOf cX12_indexOf 5 (some .int)
abbrev sm_m146 : ev_M := sm_M yX12_build cX12_build 5 none
abbrev sm_m147 : ev_M := sm_M yX12_begin cX12_begin 2 none
abbrev sm_m148 : ev_M := sm_M yX12_enterFrame cX12_enterFrame 7 none
abbrev sm_m149 : ev_M := sm_M yX12_top cX12_top 1 (some .int)
abbrev sm_m150 : ev_M := sm_M yX12_sortAt cX12_sortAt 2 (some .int)
abbrev sm_m151 : ev_M := sm_M yX12_valueAt cX12_valueAt 2 (some .int)
abbrev sm_m152 : ev_M := sm_M yX12_push cX12_push 3 none
abbrev sm_m153 : ev_M := sm_M yX12_drop cX12_drop 2 none
abbrev sm_m154 : ev_M := sm_M yX12_goOn cX12_goOn 1 none
abbrev sm_m155 : ev_M := sm_M yX12_gives cX12_gives 2 none
abbrev sm_m156 : ev_M := sm_M yX12_toss_ cX12_toss_ 5 none
abbrev sm_m157 : ev_M := sm_M yX12_error cX12_error 3 none
abbrev sm_m158 : ev_M := sm_M yX12_run cX12_run 3 (some .int)
abbrev sm_m159 : ev_M := sm_M yX12_scopeAt cX12_scopeAt 4 (some .int)
abbrev sm_m160 : ev_M := sm_M yX12_step_ cX12_step_ 5 none
abbrev sm_m161 : ev_M := sm_M yX12_stepOther cX12_stepOther 8 none
abbrev sm_m162 : ev_M := sm_M yX12_under cX12_under 5 none
abbrev sm_m163 : ev_M := sm_M yX12_nextOf cX12_nextOf 4 (some .int)
abbrev sm_m164 : ev_M := sm_M yX12_goNext cX12_goNext 3 none
abbrev sm_m165 : ev_M := sm_M yX12_leftOf cX12_leftOf 6 (some .int)
abbrev sm_m166 : ev_M := sm_M yX12_siteLabel cX12_siteLabel 2 (some .int)
abbrev sm_m167 : ev_M := sm_M yX12_newArray cX12_newArray 3 (some .int)
abbrev sm_m168 : ev_M := sm_M yX12_global cX12_global 4 none
abbrev sm_m169 : ev_M := sm_M yX12_typeOf cX12_typeOf 3 (some .int)
abbrev sm_m170 : ev_M := sm_M yX12_makeFunction cX12_makeFunction 5 none
abbrev sm_m171 : ev_M := sm_M yX12_get_ cX12_get_ 5 none
abbrev sm_m172 : ev_M := sm_M yX12_putInto cX12_putInto 6 none
abbrev sm_m173 : ev_M := sm_M yX12_delete cX12_delete 5 none
abbrev sm_m174 : ev_M := sm_M yX12_binary_ cX12_binary_ 6 none
abbrev sm_m175 : ev_M := sm_M yX12_within cX12_within 7 none
abbrev sm_m176 : ev_M := sm_M yX12_isFunction cX12_isFunction 3 (some .boolean)
abbrev sm_m177 : ev_M := sm_M yX12_isMadeBy cX12_isMadeBy 9 none
abbrev sm_m178 : ev_M := sm_M yX12_argumentSort cX12_argumentSort 2 (some .int)
abbrev sm_m179 : ev_M := sm_M yX12_argument cX12_argument 2 (some .int)
abbrev sm_m180 : ev_M := sm_M yX12_call cX12_call 3 none
abbrev sm_m181 : ev_M := sm_M yX12_callOf cX12_callOf 7 none
abbrev sm_m182 : ev_M := sm_M yX12_callAgain cX12_callAgain 6 none
abbrev sm_m183 : ev_M := sm_M yX12_enter cX12_enter 13 none
abbrev sm_m184 : ev_M := sm_M yX12_goBack cX12_goBack 4 none
abbrev sm_m185 : ev_M := sm_M yX12_makeNew cX12_makeNew 9 none
abbrev sm_m186 : ev_M := sm_M yX12_nativeOf cX12_nativeOf 9 none
abbrev sm_m187 : ev_M := sm_M yX12_nativeWith cX12_nativeWith 7 (some .boolean)
abbrev sm_m188 : ev_M := sm_M yX12_pushInto cX12_pushInto 6 none
abbrev sm_m189 : ev_M := sm_M yX12_pop cX12_pop 5 none
abbrev sm_m190 : ev_M := sm_M yX12_hasOwn cX12_hasOwn 5 none
abbrev sm_m191 : ev_M := sm_M yX12_charAt cX12_charAt 5 none
abbrev sm_m192 : ev_M := sm_M yX12_count cX12_count 3 (some .int)
abbrev sm_m193 : ev_M := sm_M yX12_letter cX12_letter 3 (some .int)
abbrev sm_m194 : ev_M := sm_M yX12_instruction cX12_instruction 3 (some .int)
abbrev sm_m195 : ev_M := sm_M yX12_frame cX12_frame 4 (some .int)
abbrev sm_m196 : ev_M := sm_M yX12_told cX12_told 4 (some .int)
abbrev sm_m197 : ev_M := sm_M yX12_value_ cX12_value_ 6 (some .int)
abbrev sm_m198 : ev_M := sm_M yX12_object_ cX12_object_ 5 (some .int)
abbrev sm_m199 : ev_M := sm_M yX12_property cX12_property 6 (some .int)
abbrev sm_m200 : ev_M := sm_M yX12_printed cX12_printed 4 (some .int)
abbrev sm_m201 : ev_M := sm_M yX12_uncaught cX12_uncaught 2 (some .int)
abbrev sm_m202 : ev_M := sm_M yX12_has cX12_has 2 (some .int)
abbrev sm_m203 : ev_M := sm_M yX12_name cX12_name 2 (some .int)
abbrev sm_m204 : ev_M := sm_M yX12_number cX12_number 2 (some .int)
abbrev sm_m205 : ev_M := sm_M yX12_write cX12_write 5 none
abbrev sm_m206 : ev_M := sm_M yX12_empty cX12_empty 2 none
abbrev sm_m207 : ev_M := sm_M yX12_copySet cX12_copySet 3 none
abbrev sm_m208 : ev_M := sm_M yX12_join cX12_join 13 (some .boolean)
abbrev sm_m209 : ev_M := sm_M yX12_hasLabels cX12_hasLabels 2 (some .boolean)
abbrev sm_m210 : ev_M := sm_M yX12_plainly cX12_plainly 2 (some .int)
abbrev sm_m211 : ev_M := sm_M yX12_isEmpty cX12_isEmpty 2 (some .boolean)
abbrev sm_m212 : ev_M := sm_M yX12_isAlone cX12_isAlone 3 (some .boolean)
abbrev sm_m213 : ev_M := sm_M yX12_addSort cX12_addSort 5 none
abbrev sm_m214 : ev_M := sm_M yX12_addNumber cX12_addNumber 5 none
abbrev sm_m215 : ev_M := sm_M yX12_addString cX12_addString 5 none
abbrev sm_m216 : ev_M := sm_M yX12_addLabel cX12_addLabel 3 none
abbrev sm_m217 : ev_M := sm_M yX12_isIn cX12_isIn 5 (some .boolean)
abbrev sm_m218 : ev_M := sm_M yX12_addValue cX12_addValue 4 none
abbrev sm_m219 : ev_M := sm_M yX12_sortOfAlone cX12_sortOfAlone 3 (some .int)
abbrev sm_m220 : ev_M := sm_M yX12_valueOfAlone cX12_valueOfAlone 2 (some .int)
abbrev sm_m221 : ev_M := sm_M yX12_mayBeTrue cX12_mayBeTrue 3 (some .boolean)
abbrev sm_m222 : ev_M := sm_M yX12_mayBeFalse cX12_mayBeFalse 3 (some .boolean)
abbrev sm_m223 : ev_M := sm_M yX12_fieldsAt cX12_fieldsAt 2 (some .int)
abbrev sm_m224 : ev_M := sm_M yX12_labelsAt cX12_labelsAt 2 (some .int)
abbrev sm_m225 : ev_M := sm_M yX12_field cX12_field 4 (some .int)
abbrev sm_m226 : ev_M := sm_M yX12_of cX12_of 3 (some .int)
abbrev sm_m227 : ev_M := sm_M yX12_thisAt cX12_thisAt 2 (some .int)
abbrev sm_m228 : ev_M := sm_M yX12_onStack cX12_onStack 3 (some .int)
abbrev sm_m229 : ev_M := sm_M yX12_fromTop cX12_fromTop 2 (some .int)
abbrev sm_m230 : ev_M := sm_M yX12_pushSet cX12_pushSet 2 (some .int)
abbrev sm_m231 : ev_M := sm_M yX12_load cX12_load 4 none
abbrev sm_m232 : ev_M := sm_M yX12_loadRest cX12_loadRest 5 none
abbrev sm_m233 : ev_M := sm_M yX12_loadLabels cX12_loadLabels 4 none
abbrev sm_m234 : ev_M := sm_M yX12_clearState cX12_clearState 5 none
abbrev sm_m235 : ev_M := sm_M yX12_flow cX12_flow 5 none
abbrev sm_m236 : ev_M := sm_M yX12_joinLabel cX12_joinLabel 4 (some .boolean)
abbrev sm_m237 : ev_M := sm_M yX12_isFunctionLabel cX12_isFunctionLabel 2 (some .boolean)
abbrev sm_m238 : ev_M := sm_M yX12_codeOfLabel cX12_codeOfLabel 2 (some .int)
abbrev sm_m239 : ev_M := sm_M yX12_isArrayLabel cX12_isArrayLabel 3 (some .boolean)
abbrev sm_m240 : ev_M := sm_M yX12_isSingle cX12_isSingle 1 (some .boolean)
abbrev sm_m241 : ev_M := sm_M yX12_addKey cX12_addKey 2 none
abbrev sm_m242 : ev_M := sm_M yX12_hasKey cX12_hasKey 2 (some .boolean)
abbrev sm_m243 : ev_M := sm_M yX12_manyKeys cX12_manyKeys 1 (some .int)
abbrev sm_m244 : ev_M := sm_M yX12_noKeys cX12_noKeys 1 none
abbrev sm_m245 : ev_M := sm_M yX12_keysOf cX12_keysOf 5 none
abbrev sm_m246 : ev_M := sm_M yX12_findName cX12_findName 2 (some .int)
abbrev sm_m247 : ev_M := sm_M yX12_nameOfNumber cX12_nameOfNumber 2 (some .int)
abbrev sm_m248 : ev_M := sm_M yX12_addTextOf cX12_addTextOf 5 none
abbrev sm_m249 : ev_M := sm_M yX12_readFrom cX12_readFrom 7 none
abbrev sm_m250 : ev_M := sm_M yX12_readKey cX12_readKey 19 none
abbrev sm_m251 : ev_M := sm_M yX12_writeTo cX12_writeTo 14 none
abbrev sm_m252 : ev_M := sm_M yX12_newLabel cX12_newLabel 5 none
abbrev sm_m253 : ev_M := sm_M yX12_fresh_ cX12_fresh_ 4 (some .int)
abbrev sm_m254 : ev_M := sm_M yX12_addNew cX12_addNew 8 none
abbrev sm_m255 : ev_M := sm_M yX12_renameIn cX12_renameIn 3 none
abbrev sm_m256 : ev_M := sm_M yX12_make cX12_make 6 none
abbrev sm_m257 : ev_M := sm_M yX12_age cX12_age 3 none
abbrev sm_m258 : ev_M := sm_M yX12_on cX12_on 1 none
abbrev sm_m259 : ev_M := sm_M yX12_to cX12_to 2 none
abbrev sm_m260 : ev_M := sm_M yX12_tossTop cX12_tossTop 2 none
abbrev sm_m261 : ev_M := sm_M yX12_tossSet cX12_tossSet 3 none
abbrev sm_m262 : ev_M := sm_M yX12_errorNow cX12_errorNow 3 none
abbrev sm_m263 : ev_M := sm_M yX12_error_ cX12_error_ 3 none
abbrev sm_m264 : ev_M := sm_M yX12_scopesAt cX12_scopesAt 6 none
abbrev sm_m265 : ev_M := sm_M yX12_ways cX12_ways 6 none
abbrev sm_m266 : ev_M := sm_M yX12_joinPlain cX12_joinPlain 5 none
abbrev sm_m267 : ev_M := sm_M yX12_replace cX12_replace 3 none
abbrev sm_m268 : ev_M := sm_M yX12_waysOfOther cX12_waysOfOther 5 none
abbrev sm_m269 : ev_M := sm_M yX12_waysOfTest cX12_waysOfTest 8 none
abbrev sm_m270 : ev_M := sm_M yX12_waysOfGlobal cX12_waysOfGlobal 7 none
abbrev sm_m271 : ev_M := sm_M yX12_typesOf cX12_typesOf 5 none
abbrev sm_m272 : ev_M := sm_M yX12_unarySet cX12_unarySet 4 none
abbrev sm_m273 : ev_M := sm_M yX12_binarySet cX12_binarySet 7 none
abbrev sm_m274 : ev_M := sm_M yX12_waysOfGet cX12_waysOfGet 6 none
abbrev sm_m275 : ev_M := sm_M yX12_getOfString cX12_getOfString 4 none
abbrev sm_m276 : ev_M := sm_M yX12_waysOfPut cX12_waysOfPut 7 none
abbrev sm_m277 : ev_M := sm_M yX12_waysOfDelete cX12_waysOfDelete 11 none
abbrev sm_m278 : ev_M := sm_M yX12_waysOfBinary cX12_waysOfBinary 6 none
abbrev sm_m279 : ev_M := sm_M yX12_isMadeBySet cX12_isMadeBySet 10 (some .boolean)
abbrev sm_m280 : ev_M := sm_M yX12_waysOfCall cX12_waysOfCall 3 none
abbrev sm_m281 : ev_M := sm_M yX12_callWays cX12_callWays 14 none
abbrev sm_m282 : ev_M := sm_M yX12_waysOfNew cX12_waysOfNew 13 none
abbrev sm_m283 : ev_M := sm_M yX12_prepare cX12_prepare 13 none
abbrev sm_m284 : ev_M := sm_M yX12_codeWays cX12_codeWays 16 none
abbrev sm_m285 : ev_M := sm_M yX12_comeBack cX12_comeBack 3 none
abbrev sm_m286 : ev_M := sm_M yX12_enterCode cX12_enterCode 14 none
abbrev sm_m287 : ev_M := sm_M yX12_nativeWays cX12_nativeWays 10 none
abbrev sm_m288 : ev_M := sm_M yX12_isNaNOf cX12_isNaNOf 4 none
abbrev sm_m289 : ev_M := sm_M yX12_rowWays cX12_rowWays 10 (some .boolean)
abbrev sm_m290 : ev_M := sm_M yX12_ownWays cX12_ownWays 6 (some .boolean)
abbrev sm_m291 : ev_M := sm_M yX12_findSorts cX12_findSorts 4 none
abbrev sm_m292 : ev_M := sm_M yX12_hasField cX12_hasField 4 none
abbrev sm_m293 : ev_M := sm_M yX12_beginWork cX12_beginWork 2 none
abbrev sm_m294 : ev_M := sm_M yX12_solve cX12_solve 3 (some .int)
abbrev sm_m295 : ev_M := sm_M yX12_isReached cX12_isReached 2 (some .boolean)
abbrev sm_m296 : ev_M := sm_M yX12_tell cX12_tell 3 (some .long)
abbrev sm_m297 : ev_M := sm_M yX12_height cX12_height 2 (some .int)
abbrev sm_m298 : ev_M := sm_M yX12_slot cX12_slot 4 (some .long)
abbrev sm_m299 : ev_M := sm_M yX12_field_ cX12_field_ 6 (some .long)
abbrev sm_m300 : ev_M := sm_M yX12_link cX12_link 5 (some .long)
abbrev sm_m301 : ev_M := sm_M yX12_result cX12_result 5 (some .long)
abbrev sm_m302 : ev_M := sm_M yX12_warns cX12_warns 2 (some .int)
def sm_list : List ev_M := [sm_m0, sm_m1, sm_m2, sm_m3, sm_m4, sm_m5, sm_m6, sm_m7, sm_m8, sm_m9, sm_m10, sm_m11, sm_m12, sm_m13, sm_m14, sm_m15, sm_m16, sm_m17, sm_m18, sm_m19, sm_m20, sm_m21, sm_m22, sm_m23, sm_m24, sm_m25, sm_m26, sm_m27, sm_m28, sm_m29, sm_m30, sm_m31, sm_m32, sm_m33, sm_m34, sm_m35, sm_m36, sm_m37, sm_m38, sm_m39, sm_m40, sm_m41, sm_m42, sm_m43, sm_m44, sm_m45, sm_m46, sm_m47, sm_m48, sm_m49, sm_m50, sm_m51, sm_m52, sm_m53, sm_m54, sm_m55, sm_m56, sm_m57, sm_m58, sm_m59, sm_m60, sm_m61, sm_m62, sm_m63, sm_m64, sm_m65, sm_m66, sm_m67, sm_m68, sm_m69, sm_m70, sm_m71, sm_m72, sm_m73, sm_m74, sm_m75, sm_m76, sm_m77, sm_m78, sm_m79, sm_m80, sm_m81, sm_m82, sm_m83, sm_m84, sm_m85, sm_m86, sm_m87, sm_m88, sm_m89, sm_m90, sm_m91, sm_m92, sm_m93, sm_m94, sm_m95, sm_m96, sm_m97, sm_m98, sm_m99, sm_m100, sm_m101, sm_m102, sm_m103, sm_m104, sm_m105, sm_m106, sm_m107, sm_m108, sm_m109, sm_m110, sm_m111, sm_m112, sm_m113, sm_m114, sm_m115, sm_m116, sm_m117, sm_m118, sm_m119, sm_m120, sm_m121, sm_m122, sm_m123, sm_m124, sm_m125, sm_m126, sm_m127, sm_m128, sm_m129, sm_m130, sm_m131, sm_m132, sm_m133, sm_m134, sm_m135, sm_m136, sm_m137, sm_m138, sm_m139, sm_m140, sm_m141, sm_m142, sm_m143, sm_m144, sm_m145, sm_m146, sm_m147, sm_m148, sm_m149, sm_m150, sm_m151, sm_m152, sm_m153, sm_m154, sm_m155, sm_m156, sm_m157, sm_m158, sm_m159, sm_m160, sm_m161, sm_m162, sm_m163, sm_m164, sm_m165, sm_m166, sm_m167, sm_m168, sm_m169, sm_m170, sm_m171, sm_m172, sm_m173, sm_m174, sm_m175, sm_m176, sm_m177, sm_m178, sm_m179, sm_m180, sm_m181, sm_m182, sm_m183, sm_m184, sm_m185, sm_m186, sm_m187, sm_m188, sm_m189, sm_m190, sm_m191, sm_m192, sm_m193, sm_m194, sm_m195, sm_m196, sm_m197, sm_m198, sm_m199, sm_m200, sm_m201, sm_m202, sm_m203, sm_m204, sm_m205, sm_m206, sm_m207, sm_m208, sm_m209, sm_m210, sm_m211, sm_m212, sm_m213, sm_m214, sm_m215, sm_m216, sm_m217, sm_m218, sm_m219, sm_m220, sm_m221, sm_m222, sm_m223, sm_m224, sm_m225, sm_m226, sm_m227, sm_m228, sm_m229, sm_m230, sm_m231, sm_m232, sm_m233, sm_m234, sm_m235, sm_m236, sm_m237, sm_m238, sm_m239, sm_m240, sm_m241, sm_m242, sm_m243, sm_m244, sm_m245, sm_m246, sm_m247, sm_m248, sm_m249, sm_m250, sm_m251, sm_m252, sm_m253, sm_m254, sm_m255, sm_m256, sm_m257, sm_m258, sm_m259, sm_m260, sm_m261, sm_m262, sm_m263, sm_m264, sm_m265, sm_m266, sm_m267, sm_m268, sm_m269, sm_m270, sm_m271, sm_m272, sm_m273, sm_m274, sm_m275, sm_m276, sm_m277, sm_m278, sm_m279, sm_m280, sm_m281, sm_m282, sm_m283, sm_m284, sm_m285, sm_m286, sm_m287, sm_m288, sm_m289, sm_m290, sm_m291, sm_m292, sm_m293, sm_m294, sm_m295, sm_m296, sm_m297, sm_m298, sm_m299, sm_m300, sm_m301, sm_m302]
def sm_L : Nat → Option ev_M := fun y => sm_list[y]?
set_option maxRecDepth 8000 in
theorem sm_h0 : sm_L 0 = some sm_m0 := rfl
set_option maxRecDepth 8000 in
theorem sm_h1 : sm_L 1 = some sm_m1 := rfl
set_option maxRecDepth 8000 in
theorem sm_h2 : sm_L 2 = some sm_m2 := rfl
set_option maxRecDepth 8000 in
theorem sm_h3 : sm_L 3 = some sm_m3 := rfl
set_option maxRecDepth 8000 in
theorem sm_h4 : sm_L 4 = some sm_m4 := rfl
set_option maxRecDepth 8000 in
theorem sm_h5 : sm_L 5 = some sm_m5 := rfl
set_option maxRecDepth 8000 in
theorem sm_h6 : sm_L 6 = some sm_m6 := rfl
set_option maxRecDepth 8000 in
theorem sm_h7 : sm_L 7 = some sm_m7 := rfl
set_option maxRecDepth 8000 in
theorem sm_h8 : sm_L 8 = some sm_m8 := rfl
set_option maxRecDepth 8000 in
theorem sm_h9 : sm_L 9 = some sm_m9 := rfl
set_option maxRecDepth 8000 in
theorem sm_h10 : sm_L 10 = some sm_m10 := rfl
set_option maxRecDepth 8000 in
theorem sm_h11 : sm_L 11 = some sm_m11 := rfl
set_option maxRecDepth 8000 in
theorem sm_h12 : sm_L 12 = some sm_m12 := rfl
set_option maxRecDepth 8000 in
theorem sm_h13 : sm_L 13 = some sm_m13 := rfl
set_option maxRecDepth 8000 in
theorem sm_h14 : sm_L 14 = some sm_m14 := rfl
set_option maxRecDepth 8000 in
theorem sm_h15 : sm_L 15 = some sm_m15 := rfl
set_option maxRecDepth 8000 in
theorem sm_h16 : sm_L 16 = some sm_m16 := rfl
set_option maxRecDepth 8000 in
theorem sm_h17 : sm_L 17 = some sm_m17 := rfl
set_option maxRecDepth 8000 in
theorem sm_h18 : sm_L 18 = some sm_m18 := rfl
set_option maxRecDepth 8000 in
theorem sm_h19 : sm_L 19 = some sm_m19 := rfl
set_option maxRecDepth 8000 in
theorem sm_h20 : sm_L 20 = some sm_m20 := rfl
set_option maxRecDepth 8000 in
theorem sm_h21 : sm_L 21 = some sm_m21 := rfl
set_option maxRecDepth 8000 in
theorem sm_h22 : sm_L 22 = some sm_m22 := rfl
set_option maxRecDepth 8000 in
theorem sm_h23 : sm_L 23 = some sm_m23 := rfl
set_option maxRecDepth 8000 in
theorem sm_h24 : sm_L 24 = some sm_m24 := rfl
set_option maxRecDepth 8000 in
theorem sm_h25 : sm_L 25 = some sm_m25 := rfl
set_option maxRecDepth 8000 in
theorem sm_h26 : sm_L 26 = some sm_m26 := rfl
set_option maxRecDepth 8000 in
theorem sm_h27 : sm_L 27 = some sm_m27 := rfl
set_option maxRecDepth 8000 in
theorem sm_h28 : sm_L 28 = some sm_m28 := rfl
set_option maxRecDepth 8000 in
theorem sm_h29 : sm_L 29 = some sm_m29 := rfl
set_option maxRecDepth 8000 in
theorem sm_h30 : sm_L 30 = some sm_m30 := rfl
set_option maxRecDepth 8000 in
theorem sm_h31 : sm_L 31 = some sm_m31 := rfl
set_option maxRecDepth 8000 in
theorem sm_h32 : sm_L 32 = some sm_m32 := rfl
set_option maxRecDepth 8000 in
theorem sm_h33 : sm_L 33 = some sm_m33 := rfl
set_option maxRecDepth 8000 in
theorem sm_h34 : sm_L 34 = some sm_m34 := rfl
set_option maxRecDepth 8000 in
theorem sm_h35 : sm_L 35 = some sm_m35 := rfl
set_option maxRecDepth 8000 in
theorem sm_h36 : sm_L 36 = some sm_m36 := rfl
set_option maxRecDepth 8000 in
theorem sm_h37 : sm_L 37 = some sm_m37 := rfl
set_option maxRecDepth 8000 in
theorem sm_h38 : sm_L 38 = some sm_m38 := rfl
set_option maxRecDepth 8000 in
theorem sm_h39 : sm_L 39 = some sm_m39 := rfl
set_option maxRecDepth 8000 in
theorem sm_h40 : sm_L 40 = some sm_m40 := rfl
set_option maxRecDepth 8000 in
theorem sm_h41 : sm_L 41 = some sm_m41 := rfl
set_option maxRecDepth 8000 in
theorem sm_h42 : sm_L 42 = some sm_m42 := rfl
set_option maxRecDepth 8000 in
theorem sm_h43 : sm_L 43 = some sm_m43 := rfl
set_option maxRecDepth 8000 in
theorem sm_h44 : sm_L 44 = some sm_m44 := rfl
set_option maxRecDepth 8000 in
theorem sm_h45 : sm_L 45 = some sm_m45 := rfl
set_option maxRecDepth 8000 in
theorem sm_h46 : sm_L 46 = some sm_m46 := rfl
set_option maxRecDepth 8000 in
theorem sm_h47 : sm_L 47 = some sm_m47 := rfl
set_option maxRecDepth 8000 in
theorem sm_h48 : sm_L 48 = some sm_m48 := rfl
set_option maxRecDepth 8000 in
theorem sm_h49 : sm_L 49 = some sm_m49 := rfl
set_option maxRecDepth 8000 in
theorem sm_h50 : sm_L 50 = some sm_m50 := rfl
set_option maxRecDepth 8000 in
theorem sm_h51 : sm_L 51 = some sm_m51 := rfl
set_option maxRecDepth 8000 in
theorem sm_h52 : sm_L 52 = some sm_m52 := rfl
set_option maxRecDepth 8000 in
theorem sm_h53 : sm_L 53 = some sm_m53 := rfl
set_option maxRecDepth 8000 in
theorem sm_h54 : sm_L 54 = some sm_m54 := rfl
set_option maxRecDepth 8000 in
theorem sm_h55 : sm_L 55 = some sm_m55 := rfl
set_option maxRecDepth 8000 in
theorem sm_h56 : sm_L 56 = some sm_m56 := rfl
set_option maxRecDepth 8000 in
theorem sm_h57 : sm_L 57 = some sm_m57 := rfl
set_option maxRecDepth 8000 in
theorem sm_h58 : sm_L 58 = some sm_m58 := rfl
set_option maxRecDepth 8000 in
theorem sm_h59 : sm_L 59 = some sm_m59 := rfl
set_option maxRecDepth 8000 in
theorem sm_h60 : sm_L 60 = some sm_m60 := rfl
set_option maxRecDepth 8000 in
theorem sm_h61 : sm_L 61 = some sm_m61 := rfl
set_option maxRecDepth 8000 in
theorem sm_h62 : sm_L 62 = some sm_m62 := rfl
set_option maxRecDepth 8000 in
theorem sm_h63 : sm_L 63 = some sm_m63 := rfl
set_option maxRecDepth 8000 in
theorem sm_h64 : sm_L 64 = some sm_m64 := rfl
set_option maxRecDepth 8000 in
theorem sm_h65 : sm_L 65 = some sm_m65 := rfl
set_option maxRecDepth 8000 in
theorem sm_h66 : sm_L 66 = some sm_m66 := rfl
set_option maxRecDepth 8000 in
theorem sm_h67 : sm_L 67 = some sm_m67 := rfl
set_option maxRecDepth 8000 in
theorem sm_h68 : sm_L 68 = some sm_m68 := rfl
set_option maxRecDepth 8000 in
theorem sm_h69 : sm_L 69 = some sm_m69 := rfl
set_option maxRecDepth 8000 in
theorem sm_h70 : sm_L 70 = some sm_m70 := rfl
set_option maxRecDepth 8000 in
theorem sm_h71 : sm_L 71 = some sm_m71 := rfl
set_option maxRecDepth 8000 in
theorem sm_h72 : sm_L 72 = some sm_m72 := rfl
set_option maxRecDepth 8000 in
theorem sm_h73 : sm_L 73 = some sm_m73 := rfl
set_option maxRecDepth 8000 in
theorem sm_h74 : sm_L 74 = some sm_m74 := rfl
set_option maxRecDepth 8000 in
theorem sm_h75 : sm_L 75 = some sm_m75 := rfl
set_option maxRecDepth 8000 in
theorem sm_h76 : sm_L 76 = some sm_m76 := rfl
set_option maxRecDepth 8000 in
theorem sm_h77 : sm_L 77 = some sm_m77 := rfl
set_option maxRecDepth 8000 in
theorem sm_h78 : sm_L 78 = some sm_m78 := rfl
set_option maxRecDepth 8000 in
theorem sm_h79 : sm_L 79 = some sm_m79 := rfl
set_option maxRecDepth 8000 in
theorem sm_h80 : sm_L 80 = some sm_m80 := rfl
set_option maxRecDepth 8000 in
theorem sm_h81 : sm_L 81 = some sm_m81 := rfl
set_option maxRecDepth 8000 in
theorem sm_h82 : sm_L 82 = some sm_m82 := rfl
set_option maxRecDepth 8000 in
theorem sm_h83 : sm_L 83 = some sm_m83 := rfl
set_option maxRecDepth 8000 in
theorem sm_h84 : sm_L 84 = some sm_m84 := rfl
set_option maxRecDepth 8000 in
theorem sm_h85 : sm_L 85 = some sm_m85 := rfl
set_option maxRecDepth 8000 in
theorem sm_h86 : sm_L 86 = some sm_m86 := rfl
set_option maxRecDepth 8000 in
theorem sm_h87 : sm_L 87 = some sm_m87 := rfl
set_option maxRecDepth 8000 in
theorem sm_h88 : sm_L 88 = some sm_m88 := rfl
set_option maxRecDepth 8000 in
theorem sm_h89 : sm_L 89 = some sm_m89 := rfl
set_option maxRecDepth 8000 in
theorem sm_h90 : sm_L 90 = some sm_m90 := rfl
set_option maxRecDepth 8000 in
theorem sm_h91 : sm_L 91 = some sm_m91 := rfl
set_option maxRecDepth 8000 in
theorem sm_h92 : sm_L 92 = some sm_m92 := rfl
set_option maxRecDepth 8000 in
theorem sm_h93 : sm_L 93 = some sm_m93 := rfl
set_option maxRecDepth 8000 in
theorem sm_h94 : sm_L 94 = some sm_m94 := rfl
set_option maxRecDepth 8000 in
theorem sm_h95 : sm_L 95 = some sm_m95 := rfl
set_option maxRecDepth 8000 in
theorem sm_h96 : sm_L 96 = some sm_m96 := rfl
set_option maxRecDepth 8000 in
theorem sm_h97 : sm_L 97 = some sm_m97 := rfl
set_option maxRecDepth 8000 in
theorem sm_h98 : sm_L 98 = some sm_m98 := rfl
set_option maxRecDepth 8000 in
theorem sm_h99 : sm_L 99 = some sm_m99 := rfl
set_option maxRecDepth 8000 in
theorem sm_h100 : sm_L 100 = some sm_m100 := rfl
set_option maxRecDepth 8000 in
theorem sm_h101 : sm_L 101 = some sm_m101 := rfl
set_option maxRecDepth 8000 in
theorem sm_h102 : sm_L 102 = some sm_m102 := rfl
set_option maxRecDepth 8000 in
theorem sm_h103 : sm_L 103 = some sm_m103 := rfl
set_option maxRecDepth 8000 in
theorem sm_h104 : sm_L 104 = some sm_m104 := rfl
set_option maxRecDepth 8000 in
theorem sm_h105 : sm_L 105 = some sm_m105 := rfl
set_option maxRecDepth 8000 in
theorem sm_h106 : sm_L 106 = some sm_m106 := rfl
set_option maxRecDepth 8000 in
theorem sm_h107 : sm_L 107 = some sm_m107 := rfl
set_option maxRecDepth 8000 in
theorem sm_h108 : sm_L 108 = some sm_m108 := rfl
set_option maxRecDepth 8000 in
theorem sm_h109 : sm_L 109 = some sm_m109 := rfl
set_option maxRecDepth 8000 in
theorem sm_h110 : sm_L 110 = some sm_m110 := rfl
set_option maxRecDepth 8000 in
theorem sm_h111 : sm_L 111 = some sm_m111 := rfl
set_option maxRecDepth 8000 in
theorem sm_h112 : sm_L 112 = some sm_m112 := rfl
set_option maxRecDepth 8000 in
theorem sm_h113 : sm_L 113 = some sm_m113 := rfl
set_option maxRecDepth 8000 in
theorem sm_h114 : sm_L 114 = some sm_m114 := rfl
set_option maxRecDepth 8000 in
theorem sm_h115 : sm_L 115 = some sm_m115 := rfl
set_option maxRecDepth 8000 in
theorem sm_h116 : sm_L 116 = some sm_m116 := rfl
set_option maxRecDepth 8000 in
theorem sm_h117 : sm_L 117 = some sm_m117 := rfl
set_option maxRecDepth 8000 in
theorem sm_h118 : sm_L 118 = some sm_m118 := rfl
set_option maxRecDepth 8000 in
theorem sm_h119 : sm_L 119 = some sm_m119 := rfl
set_option maxRecDepth 8000 in
theorem sm_h120 : sm_L 120 = some sm_m120 := rfl
set_option maxRecDepth 8000 in
theorem sm_h121 : sm_L 121 = some sm_m121 := rfl
set_option maxRecDepth 8000 in
theorem sm_h122 : sm_L 122 = some sm_m122 := rfl
set_option maxRecDepth 8000 in
theorem sm_h123 : sm_L 123 = some sm_m123 := rfl
set_option maxRecDepth 8000 in
theorem sm_h124 : sm_L 124 = some sm_m124 := rfl
set_option maxRecDepth 8000 in
theorem sm_h125 : sm_L 125 = some sm_m125 := rfl
set_option maxRecDepth 8000 in
theorem sm_h126 : sm_L 126 = some sm_m126 := rfl
set_option maxRecDepth 8000 in
theorem sm_h127 : sm_L 127 = some sm_m127 := rfl
set_option maxRecDepth 8000 in
theorem sm_h128 : sm_L 128 = some sm_m128 := rfl
set_option maxRecDepth 8000 in
theorem sm_h129 : sm_L 129 = some sm_m129 := rfl
set_option maxRecDepth 8000 in
theorem sm_h130 : sm_L 130 = some sm_m130 := rfl
set_option maxRecDepth 8000 in
theorem sm_h131 : sm_L 131 = some sm_m131 := rfl
set_option maxRecDepth 8000 in
theorem sm_h132 : sm_L 132 = some sm_m132 := rfl
set_option maxRecDepth 8000 in
theorem sm_h133 : sm_L 133 = some sm_m133 := rfl
set_option maxRecDepth 8000 in
theorem sm_h134 : sm_L 134 = some sm_m134 := rfl
set_option maxRecDepth 8000 in
theorem sm_h135 : sm_L 135 = some sm_m135 := rfl
set_option maxRecDepth 8000 in
theorem sm_h136 : sm_L 136 = some sm_m136 := rfl
set_option maxRecDepth 8000 in
theorem sm_h137 : sm_L 137 = some sm_m137 := rfl
set_option maxRecDepth 8000 in
theorem sm_h138 : sm_L 138 = some sm_m138 := rfl
set_option maxRecDepth 8000 in
theorem sm_h139 : sm_L 139 = some sm_m139 := rfl
set_option maxRecDepth 8000 in
theorem sm_h140 : sm_L 140 = some sm_m140 := rfl
set_option maxRecDepth 8000 in
theorem sm_h141 : sm_L 141 = some sm_m141 := rfl
set_option maxRecDepth 8000 in
theorem sm_h142 : sm_L 142 = some sm_m142 := rfl
set_option maxRecDepth 8000 in
theorem sm_h143 : sm_L 143 = some sm_m143 := rfl
set_option maxRecDepth 8000 in
theorem sm_h144 : sm_L 144 = some sm_m144 := rfl
set_option maxRecDepth 8000 in
theorem sm_h145 : sm_L 145 = some sm_m145 := rfl
set_option maxRecDepth 8000 in
theorem sm_h146 : sm_L 146 = some sm_m146 := rfl
set_option maxRecDepth 8000 in
theorem sm_h147 : sm_L 147 = some sm_m147 := rfl
set_option maxRecDepth 8000 in
theorem sm_h148 : sm_L 148 = some sm_m148 := rfl
set_option maxRecDepth 8000 in
theorem sm_h149 : sm_L 149 = some sm_m149 := rfl
set_option maxRecDepth 8000 in
theorem sm_h150 : sm_L 150 = some sm_m150 := rfl
set_option maxRecDepth 8000 in
theorem sm_h151 : sm_L 151 = some sm_m151 := rfl
set_option maxRecDepth 8000 in
theorem sm_h152 : sm_L 152 = some sm_m152 := rfl
set_option maxRecDepth 8000 in
theorem sm_h153 : sm_L 153 = some sm_m153 := rfl
set_option maxRecDepth 8000 in
theorem sm_h154 : sm_L 154 = some sm_m154 := rfl
set_option maxRecDepth 8000 in
theorem sm_h155 : sm_L 155 = some sm_m155 := rfl
set_option maxRecDepth 8000 in
theorem sm_h156 : sm_L 156 = some sm_m156 := rfl
set_option maxRecDepth 8000 in
theorem sm_h157 : sm_L 157 = some sm_m157 := rfl
set_option maxRecDepth 8000 in
theorem sm_h158 : sm_L 158 = some sm_m158 := rfl
set_option maxRecDepth 8000 in
theorem sm_h159 : sm_L 159 = some sm_m159 := rfl
set_option maxRecDepth 8000 in
theorem sm_h160 : sm_L 160 = some sm_m160 := rfl
set_option maxRecDepth 8000 in
theorem sm_h161 : sm_L 161 = some sm_m161 := rfl
set_option maxRecDepth 8000 in
theorem sm_h162 : sm_L 162 = some sm_m162 := rfl
set_option maxRecDepth 8000 in
theorem sm_h163 : sm_L 163 = some sm_m163 := rfl
set_option maxRecDepth 8000 in
theorem sm_h164 : sm_L 164 = some sm_m164 := rfl
set_option maxRecDepth 8000 in
theorem sm_h165 : sm_L 165 = some sm_m165 := rfl
set_option maxRecDepth 8000 in
theorem sm_h166 : sm_L 166 = some sm_m166 := rfl
set_option maxRecDepth 8000 in
theorem sm_h167 : sm_L 167 = some sm_m167 := rfl
set_option maxRecDepth 8000 in
theorem sm_h168 : sm_L 168 = some sm_m168 := rfl
set_option maxRecDepth 8000 in
theorem sm_h169 : sm_L 169 = some sm_m169 := rfl
set_option maxRecDepth 8000 in
theorem sm_h170 : sm_L 170 = some sm_m170 := rfl
set_option maxRecDepth 8000 in
theorem sm_h171 : sm_L 171 = some sm_m171 := rfl
set_option maxRecDepth 8000 in
theorem sm_h172 : sm_L 172 = some sm_m172 := rfl
set_option maxRecDepth 8000 in
theorem sm_h173 : sm_L 173 = some sm_m173 := rfl
set_option maxRecDepth 8000 in
theorem sm_h174 : sm_L 174 = some sm_m174 := rfl
set_option maxRecDepth 8000 in
theorem sm_h175 : sm_L 175 = some sm_m175 := rfl
set_option maxRecDepth 8000 in
theorem sm_h176 : sm_L 176 = some sm_m176 := rfl
set_option maxRecDepth 8000 in
theorem sm_h177 : sm_L 177 = some sm_m177 := rfl
set_option maxRecDepth 8000 in
theorem sm_h178 : sm_L 178 = some sm_m178 := rfl
set_option maxRecDepth 8000 in
theorem sm_h179 : sm_L 179 = some sm_m179 := rfl
set_option maxRecDepth 8000 in
theorem sm_h180 : sm_L 180 = some sm_m180 := rfl
set_option maxRecDepth 8000 in
theorem sm_h181 : sm_L 181 = some sm_m181 := rfl
set_option maxRecDepth 8000 in
theorem sm_h182 : sm_L 182 = some sm_m182 := rfl
set_option maxRecDepth 8000 in
theorem sm_h183 : sm_L 183 = some sm_m183 := rfl
set_option maxRecDepth 8000 in
theorem sm_h184 : sm_L 184 = some sm_m184 := rfl
set_option maxRecDepth 8000 in
theorem sm_h185 : sm_L 185 = some sm_m185 := rfl
set_option maxRecDepth 8000 in
theorem sm_h186 : sm_L 186 = some sm_m186 := rfl
set_option maxRecDepth 8000 in
theorem sm_h187 : sm_L 187 = some sm_m187 := rfl
set_option maxRecDepth 8000 in
theorem sm_h188 : sm_L 188 = some sm_m188 := rfl
set_option maxRecDepth 8000 in
theorem sm_h189 : sm_L 189 = some sm_m189 := rfl
set_option maxRecDepth 8000 in
theorem sm_h190 : sm_L 190 = some sm_m190 := rfl
set_option maxRecDepth 8000 in
theorem sm_h191 : sm_L 191 = some sm_m191 := rfl
set_option maxRecDepth 8000 in
theorem sm_h192 : sm_L 192 = some sm_m192 := rfl
set_option maxRecDepth 8000 in
theorem sm_h193 : sm_L 193 = some sm_m193 := rfl
set_option maxRecDepth 8000 in
theorem sm_h194 : sm_L 194 = some sm_m194 := rfl
set_option maxRecDepth 8000 in
theorem sm_h195 : sm_L 195 = some sm_m195 := rfl
set_option maxRecDepth 8000 in
theorem sm_h196 : sm_L 196 = some sm_m196 := rfl
set_option maxRecDepth 8000 in
theorem sm_h197 : sm_L 197 = some sm_m197 := rfl
set_option maxRecDepth 8000 in
theorem sm_h198 : sm_L 198 = some sm_m198 := rfl
set_option maxRecDepth 8000 in
theorem sm_h199 : sm_L 199 = some sm_m199 := rfl
set_option maxRecDepth 8000 in
theorem sm_h200 : sm_L 200 = some sm_m200 := rfl
set_option maxRecDepth 8000 in
theorem sm_h201 : sm_L 201 = some sm_m201 := rfl
set_option maxRecDepth 8000 in
theorem sm_h202 : sm_L 202 = some sm_m202 := rfl
set_option maxRecDepth 8000 in
theorem sm_h203 : sm_L 203 = some sm_m203 := rfl
set_option maxRecDepth 8000 in
theorem sm_h204 : sm_L 204 = some sm_m204 := rfl
set_option maxRecDepth 8000 in
theorem sm_h205 : sm_L 205 = some sm_m205 := rfl
set_option maxRecDepth 8000 in
theorem sm_h206 : sm_L 206 = some sm_m206 := rfl
set_option maxRecDepth 8000 in
theorem sm_h207 : sm_L 207 = some sm_m207 := rfl
set_option maxRecDepth 8000 in
theorem sm_h208 : sm_L 208 = some sm_m208 := rfl
set_option maxRecDepth 8000 in
theorem sm_h209 : sm_L 209 = some sm_m209 := rfl
set_option maxRecDepth 8000 in
theorem sm_h210 : sm_L 210 = some sm_m210 := rfl
set_option maxRecDepth 8000 in
theorem sm_h211 : sm_L 211 = some sm_m211 := rfl
set_option maxRecDepth 8000 in
theorem sm_h212 : sm_L 212 = some sm_m212 := rfl
set_option maxRecDepth 8000 in
theorem sm_h213 : sm_L 213 = some sm_m213 := rfl
set_option maxRecDepth 8000 in
theorem sm_h214 : sm_L 214 = some sm_m214 := rfl
set_option maxRecDepth 8000 in
theorem sm_h215 : sm_L 215 = some sm_m215 := rfl
set_option maxRecDepth 8000 in
theorem sm_h216 : sm_L 216 = some sm_m216 := rfl
set_option maxRecDepth 8000 in
theorem sm_h217 : sm_L 217 = some sm_m217 := rfl
set_option maxRecDepth 8000 in
theorem sm_h218 : sm_L 218 = some sm_m218 := rfl
set_option maxRecDepth 8000 in
theorem sm_h219 : sm_L 219 = some sm_m219 := rfl
set_option maxRecDepth 8000 in
theorem sm_h220 : sm_L 220 = some sm_m220 := rfl
set_option maxRecDepth 8000 in
theorem sm_h221 : sm_L 221 = some sm_m221 := rfl
set_option maxRecDepth 8000 in
theorem sm_h222 : sm_L 222 = some sm_m222 := rfl
set_option maxRecDepth 8000 in
theorem sm_h223 : sm_L 223 = some sm_m223 := rfl
set_option maxRecDepth 8000 in
theorem sm_h224 : sm_L 224 = some sm_m224 := rfl
set_option maxRecDepth 8000 in
theorem sm_h225 : sm_L 225 = some sm_m225 := rfl
set_option maxRecDepth 8000 in
theorem sm_h226 : sm_L 226 = some sm_m226 := rfl
set_option maxRecDepth 8000 in
theorem sm_h227 : sm_L 227 = some sm_m227 := rfl
set_option maxRecDepth 8000 in
theorem sm_h228 : sm_L 228 = some sm_m228 := rfl
set_option maxRecDepth 8000 in
theorem sm_h229 : sm_L 229 = some sm_m229 := rfl
set_option maxRecDepth 8000 in
theorem sm_h230 : sm_L 230 = some sm_m230 := rfl
set_option maxRecDepth 8000 in
theorem sm_h231 : sm_L 231 = some sm_m231 := rfl
set_option maxRecDepth 8000 in
theorem sm_h232 : sm_L 232 = some sm_m232 := rfl
set_option maxRecDepth 8000 in
theorem sm_h233 : sm_L 233 = some sm_m233 := rfl
set_option maxRecDepth 8000 in
theorem sm_h234 : sm_L 234 = some sm_m234 := rfl
set_option maxRecDepth 8000 in
theorem sm_h235 : sm_L 235 = some sm_m235 := rfl
set_option maxRecDepth 8000 in
theorem sm_h236 : sm_L 236 = some sm_m236 := rfl
set_option maxRecDepth 8000 in
theorem sm_h237 : sm_L 237 = some sm_m237 := rfl
set_option maxRecDepth 8000 in
theorem sm_h238 : sm_L 238 = some sm_m238 := rfl
set_option maxRecDepth 8000 in
theorem sm_h239 : sm_L 239 = some sm_m239 := rfl
set_option maxRecDepth 8000 in
theorem sm_h240 : sm_L 240 = some sm_m240 := rfl
set_option maxRecDepth 8000 in
theorem sm_h241 : sm_L 241 = some sm_m241 := rfl
set_option maxRecDepth 8000 in
theorem sm_h242 : sm_L 242 = some sm_m242 := rfl
set_option maxRecDepth 8000 in
theorem sm_h243 : sm_L 243 = some sm_m243 := rfl
set_option maxRecDepth 8000 in
theorem sm_h244 : sm_L 244 = some sm_m244 := rfl
set_option maxRecDepth 8000 in
theorem sm_h245 : sm_L 245 = some sm_m245 := rfl
set_option maxRecDepth 8000 in
theorem sm_h246 : sm_L 246 = some sm_m246 := rfl
set_option maxRecDepth 8000 in
theorem sm_h247 : sm_L 247 = some sm_m247 := rfl
set_option maxRecDepth 8000 in
theorem sm_h248 : sm_L 248 = some sm_m248 := rfl
set_option maxRecDepth 8000 in
theorem sm_h249 : sm_L 249 = some sm_m249 := rfl
set_option maxRecDepth 8000 in
theorem sm_h250 : sm_L 250 = some sm_m250 := rfl
set_option maxRecDepth 8000 in
theorem sm_h251 : sm_L 251 = some sm_m251 := rfl
set_option maxRecDepth 8000 in
theorem sm_h252 : sm_L 252 = some sm_m252 := rfl
set_option maxRecDepth 8000 in
theorem sm_h253 : sm_L 253 = some sm_m253 := rfl
set_option maxRecDepth 8000 in
theorem sm_h254 : sm_L 254 = some sm_m254 := rfl
set_option maxRecDepth 8000 in
theorem sm_h255 : sm_L 255 = some sm_m255 := rfl
set_option maxRecDepth 8000 in
theorem sm_h256 : sm_L 256 = some sm_m256 := rfl
set_option maxRecDepth 8000 in
theorem sm_h257 : sm_L 257 = some sm_m257 := rfl
set_option maxRecDepth 8000 in
theorem sm_h258 : sm_L 258 = some sm_m258 := rfl
set_option maxRecDepth 8000 in
theorem sm_h259 : sm_L 259 = some sm_m259 := rfl
set_option maxRecDepth 8000 in
theorem sm_h260 : sm_L 260 = some sm_m260 := rfl
set_option maxRecDepth 8000 in
theorem sm_h261 : sm_L 261 = some sm_m261 := rfl
set_option maxRecDepth 8000 in
theorem sm_h262 : sm_L 262 = some sm_m262 := rfl
set_option maxRecDepth 8000 in
theorem sm_h263 : sm_L 263 = some sm_m263 := rfl
set_option maxRecDepth 8000 in
theorem sm_h264 : sm_L 264 = some sm_m264 := rfl
set_option maxRecDepth 8000 in
theorem sm_h265 : sm_L 265 = some sm_m265 := rfl
set_option maxRecDepth 8000 in
theorem sm_h266 : sm_L 266 = some sm_m266 := rfl
set_option maxRecDepth 8000 in
theorem sm_h267 : sm_L 267 = some sm_m267 := rfl
set_option maxRecDepth 8000 in
theorem sm_h268 : sm_L 268 = some sm_m268 := rfl
set_option maxRecDepth 8000 in
theorem sm_h269 : sm_L 269 = some sm_m269 := rfl
set_option maxRecDepth 8000 in
theorem sm_h270 : sm_L 270 = some sm_m270 := rfl
set_option maxRecDepth 8000 in
theorem sm_h271 : sm_L 271 = some sm_m271 := rfl
set_option maxRecDepth 8000 in
theorem sm_h272 : sm_L 272 = some sm_m272 := rfl
set_option maxRecDepth 8000 in
theorem sm_h273 : sm_L 273 = some sm_m273 := rfl
set_option maxRecDepth 8000 in
theorem sm_h274 : sm_L 274 = some sm_m274 := rfl
set_option maxRecDepth 8000 in
theorem sm_h275 : sm_L 275 = some sm_m275 := rfl
set_option maxRecDepth 8000 in
theorem sm_h276 : sm_L 276 = some sm_m276 := rfl
set_option maxRecDepth 8000 in
theorem sm_h277 : sm_L 277 = some sm_m277 := rfl
set_option maxRecDepth 8000 in
theorem sm_h278 : sm_L 278 = some sm_m278 := rfl
set_option maxRecDepth 8000 in
theorem sm_h279 : sm_L 279 = some sm_m279 := rfl
set_option maxRecDepth 8000 in
theorem sm_h280 : sm_L 280 = some sm_m280 := rfl
set_option maxRecDepth 8000 in
theorem sm_h281 : sm_L 281 = some sm_m281 := rfl
set_option maxRecDepth 8000 in
theorem sm_h282 : sm_L 282 = some sm_m282 := rfl
set_option maxRecDepth 8000 in
theorem sm_h283 : sm_L 283 = some sm_m283 := rfl
set_option maxRecDepth 8000 in
theorem sm_h284 : sm_L 284 = some sm_m284 := rfl
set_option maxRecDepth 8000 in
theorem sm_h285 : sm_L 285 = some sm_m285 := rfl
set_option maxRecDepth 8000 in
theorem sm_h286 : sm_L 286 = some sm_m286 := rfl
set_option maxRecDepth 8000 in
theorem sm_h287 : sm_L 287 = some sm_m287 := rfl
set_option maxRecDepth 8000 in
theorem sm_h288 : sm_L 288 = some sm_m288 := rfl
set_option maxRecDepth 8000 in
theorem sm_h289 : sm_L 289 = some sm_m289 := rfl
set_option maxRecDepth 8000 in
theorem sm_h290 : sm_L 290 = some sm_m290 := rfl
set_option maxRecDepth 8000 in
theorem sm_h291 : sm_L 291 = some sm_m291 := rfl
set_option maxRecDepth 8000 in
theorem sm_h292 : sm_L 292 = some sm_m292 := rfl
set_option maxRecDepth 8000 in
theorem sm_h293 : sm_L 293 = some sm_m293 := rfl
set_option maxRecDepth 8000 in
theorem sm_h294 : sm_L 294 = some sm_m294 := rfl
set_option maxRecDepth 8000 in
theorem sm_h295 : sm_L 295 = some sm_m295 := rfl
set_option maxRecDepth 8000 in
theorem sm_h296 : sm_L 296 = some sm_m296 := rfl
set_option maxRecDepth 8000 in
theorem sm_h297 : sm_L 297 = some sm_m297 := rfl
set_option maxRecDepth 8000 in
theorem sm_h298 : sm_L 298 = some sm_m298 := rfl
set_option maxRecDepth 8000 in
theorem sm_h299 : sm_L 299 = some sm_m299 := rfl
set_option maxRecDepth 8000 in
theorem sm_h300 : sm_L 300 = some sm_m300 := rfl
set_option maxRecDepth 8000 in
theorem sm_h301 : sm_L 301 = some sm_m301 := rfl
set_option maxRecDepth 8000 in
theorem sm_h302 : sm_L 302 = some sm_m302 := rfl
set_option maxRecDepth 8000 in
theorem sm_fl_7 : sm_fl 7 = some (0, 1) := rfl
set_option maxRecDepth 8000 in
theorem sm_fl_13 : sm_fl 13 = some (0, 3) := rfl
set_option maxRecDepth 8000 in
theorem sm_fl_16 : sm_fl 16 = some (0, 5) := rfl
set_option maxRecDepth 8000 in
theorem sm_fl_20 : sm_fl 20 = some (0, 6) := rfl
set_option maxRecDepth 8000 in
theorem sm_fl_24 : sm_fl 24 = some (0, 10) := rfl
set_option maxRecDepth 8000 in
theorem sm_fl_27 : sm_fl 27 = some (0, 13) := rfl
set_option maxRecDepth 8000 in
theorem sm_fl_30 : sm_fl 30 = some (0, 14) := rfl
set_option maxRecDepth 8000 in
theorem sm_fl_33 : sm_fl 33 = some (0, 15) := rfl
set_option maxRecDepth 8000 in
theorem sm_fl_36 : sm_fl 36 = some (0, 16) := rfl
set_option maxRecDepth 8000 in
theorem sm_fl_39 : sm_fl 39 = some (0, 17) := rfl
set_option maxRecDepth 8000 in
theorem sm_fl_42 : sm_fl 42 = some (0, 25) := rfl
set_option maxRecDepth 8000 in
theorem sm_fl_46 : sm_fl 46 = some (0, 26) := rfl
set_option maxRecDepth 8000 in
theorem sm_fl_49 : sm_fl 49 = some (0, 27) := rfl
set_option maxRecDepth 8000 in
theorem sm_fl_52 : sm_fl 52 = some (0, 28) := rfl
set_option maxRecDepth 8000 in
theorem sm_fl_56 : sm_fl 56 = some (0, 29) := rfl
set_option maxRecDepth 8000 in
theorem sm_fl_59 : sm_fl 59 = some (0, 30) := rfl
set_option maxRecDepth 8000 in
theorem sm_fl_62 : sm_fl 62 = some (0, 33) := rfl
set_option maxRecDepth 8000 in
theorem sm_fl_65 : sm_fl 65 = some (0, 34) := rfl
set_option maxRecDepth 8000 in
theorem sm_fl_68 : sm_fl 68 = some (0, 35) := rfl
set_option maxRecDepth 8000 in
theorem sm_fl_71 : sm_fl 71 = some (0, 36) := rfl
set_option maxRecDepth 8000 in
theorem sm_fl_74 : sm_fl 74 = some (0, 37) := rfl
set_option maxRecDepth 8000 in
theorem sm_fl_77 : sm_fl 77 = some (0, 38) := rfl
set_option maxRecDepth 8000 in
theorem sm_fl_80 : sm_fl 80 = some (0, 39) := rfl
set_option maxRecDepth 8000 in
theorem sm_fl_83 : sm_fl 83 = some (0, 40) := rfl
set_option maxRecDepth 8000 in
theorem sm_fl_86 : sm_fl 86 = some (0, 41) := rfl
set_option maxRecDepth 8000 in
theorem sm_fl_89 : sm_fl 89 = some (0, 48) := rfl
set_option maxRecDepth 8000 in
theorem sm_fl_92 : sm_fl 92 = some (0, 49) := rfl
set_option maxRecDepth 8000 in
theorem sm_fl_95 : sm_fl 95 = some (0, 50) := rfl
set_option maxRecDepth 8000 in
theorem sm_fl_98 : sm_fl 98 = some (0, 51) := rfl
set_option maxRecDepth 8000 in
theorem sm_fl_101 : sm_fl 101 = some (0, 52) := rfl
set_option maxRecDepth 8000 in
theorem sm_fl_104 : sm_fl 104 = some (0, 54) := rfl
set_option maxRecDepth 8000 in
theorem sm_fl_107 : sm_fl 107 = some (0, 57) := rfl
set_option maxRecDepth 8000 in
theorem sm_fl_110 : sm_fl 110 = some (0, 58) := rfl
set_option maxRecDepth 8000 in
theorem sm_fl_113 : sm_fl 113 = some (0, 61) := rfl
set_option maxRecDepth 8000 in
theorem sm_fl_116 : sm_fl 116 = some (0, 62) := rfl
set_option maxRecDepth 8000 in
theorem sm_fl_119 : sm_fl 119 = some (0, 63) := rfl
set_option maxRecDepth 8000 in
theorem sm_fl_122 : sm_fl 122 = some (0, 64) := rfl
set_option maxRecDepth 8000 in
theorem sm_fl_125 : sm_fl 125 = some (0, 65) := rfl
set_option maxRecDepth 8000 in
theorem sm_fl_128 : sm_fl 128 = some (0, 67) := rfl
set_option maxRecDepth 8000 in
theorem sm_fl_131 : sm_fl 131 = some (0, 69) := rfl
set_option maxRecDepth 8000 in
theorem sm_fl_134 : sm_fl 134 = some (0, 77) := rfl
set_option maxRecDepth 8000 in
theorem sm_fl_137 : sm_fl 137 = some (0, 78) := rfl
set_option maxRecDepth 8000 in
theorem sm_fl_140 : sm_fl 140 = some (0, 79) := rfl
set_option maxRecDepth 8000 in
theorem sm_fl_143 : sm_fl 143 = some (0, 80) := rfl
set_option maxRecDepth 8000 in
theorem sm_fl_146 : sm_fl 146 = some (0, 81) := rfl
set_option maxRecDepth 8000 in
theorem sm_fl_149 : sm_fl 149 = some (0, 82) := rfl
set_option maxRecDepth 8000 in
theorem sm_fl_152 : sm_fl 152 = some (0, 83) := rfl
set_option maxRecDepth 8000 in
theorem sm_fl_155 : sm_fl 155 = some (0, 87) := rfl
set_option maxRecDepth 8000 in
theorem sm_fl_158 : sm_fl 158 = some (0, 88) := rfl
set_option maxRecDepth 8000 in
theorem sm_fl_161 : sm_fl 161 = some (0, 89) := rfl
set_option maxRecDepth 8000 in
theorem sm_fl_164 : sm_fl 164 = some (0, 90) := rfl
set_option maxRecDepth 8000 in
theorem sm_fl_167 : sm_fl 167 = some (0, 91) := rfl
set_option maxRecDepth 8000 in
theorem sm_fl_170 : sm_fl 170 = some (0, 93) := rfl
set_option maxRecDepth 8000 in
theorem sm_fl_173 : sm_fl 173 = some (0, 94) := rfl
set_option maxRecDepth 8000 in
theorem sm_fl_176 : sm_fl 176 = some (0, 95) := rfl
set_option maxRecDepth 8000 in
theorem sm_fl_179 : sm_fl 179 = some (0, 96) := rfl
set_option maxRecDepth 8000 in
theorem sm_fl_182 : sm_fl 182 = some (0, 97) := rfl
set_option maxRecDepth 8000 in
theorem sm_fl_185 : sm_fl 185 = some (0, 98) := rfl
set_option maxRecDepth 8000 in
theorem sm_fl_188 : sm_fl 188 = some (0, 99) := rfl
set_option maxRecDepth 8000 in
theorem sm_fl_191 : sm_fl 191 = some (0, 100) := rfl
set_option maxRecDepth 8000 in
theorem sm_fl_194 : sm_fl 194 = some (0, 101) := rfl
set_option maxRecDepth 8000 in
theorem sm_fl_197 : sm_fl 197 = some (0, 102) := rfl
set_option maxRecDepth 8000 in
theorem sm_fl_200 : sm_fl 200 = some (0, 103) := rfl
set_option maxRecDepth 8000 in
theorem sm_fl_203 : sm_fl 203 = some (0, 104) := rfl
set_option maxRecDepth 8000 in
theorem sm_fl_206 : sm_fl 206 = some (0, 105) := rfl
set_option maxRecDepth 8000 in
theorem sm_fl_209 : sm_fl 209 = some (0, 106) := rfl
set_option maxRecDepth 8000 in
theorem sm_fl_212 : sm_fl 212 = some (0, 108) := rfl
set_option maxRecDepth 8000 in
theorem sm_fl_216 : sm_fl 216 = some (0, 116) := rfl
set_option maxRecDepth 8000 in
theorem sm_fl_220 : sm_fl 220 = some (0, 117) := rfl
set_option maxRecDepth 8000 in
theorem sm_fl_223 : sm_fl 223 = some (0, 118) := rfl
set_option maxRecDepth 8000 in
theorem sm_fl_226 : sm_fl 226 = some (0, 122) := rfl
set_option maxRecDepth 8000 in
theorem sm_fl_229 : sm_fl 229 = some (0, 123) := rfl
set_option maxRecDepth 8000 in
theorem sm_fl_232 : sm_fl 232 = some (0, 124) := rfl
set_option maxRecDepth 8000 in
theorem sm_fl_235 : sm_fl 235 = some (0, 125) := rfl
set_option maxRecDepth 8000 in
theorem sm_fl_238 : sm_fl 238 = some (0, 126) := rfl
set_option maxRecDepth 8000 in
theorem sm_fl_241 : sm_fl 241 = some (0, 128) := rfl
set_option maxRecDepth 8000 in
theorem sm_fl_244 : sm_fl 244 = some (0, 129) := rfl
set_option maxRecDepth 8000 in
theorem sm_fl_247 : sm_fl 247 = some (0, 130) := rfl
set_option maxRecDepth 8000 in
theorem sm_fl_250 : sm_fl 250 = some (0, 131) := rfl
set_option maxRecDepth 8000 in
theorem sm_fl_253 : sm_fl 253 = some (0, 132) := rfl
set_option maxRecDepth 8000 in
theorem sm_fl_256 : sm_fl 256 = some (0, 133) := rfl
set_option maxRecDepth 8000 in
theorem sm_fl_259 : sm_fl 259 = some (0, 134) := rfl
set_option maxRecDepth 8000 in
theorem sm_fl_262 : sm_fl 262 = some (0, 135) := rfl
set_option maxRecDepth 8000 in
theorem sm_fl_265 : sm_fl 265 = some (0, 136) := rfl
set_option maxRecDepth 8000 in
theorem sm_fl_268 : sm_fl 268 = some (0, 137) := rfl
set_option maxRecDepth 8000 in
theorem sm_fl_271 : sm_fl 271 = some (0, 138) := rfl
set_option maxRecDepth 8000 in
theorem sm_fl_274 : sm_fl 274 = some (0, 139) := rfl
set_option maxRecDepth 8000 in
theorem sm_fl_277 : sm_fl 277 = some (0, 140) := rfl
set_option maxRecDepth 8000 in
theorem sm_fl_280 : sm_fl 280 = some (0, 141) := rfl
set_option maxRecDepth 8000 in
theorem sm_fl_283 : sm_fl 283 = some (0, 142) := rfl
set_option maxRecDepth 8000 in
theorem sm_fl_286 : sm_fl 286 = some (0, 146) := rfl
set_option maxRecDepth 8000 in
theorem sm_fl_289 : sm_fl 289 = some (0, 0) := rfl
set_option maxRecDepth 8000 in
theorem sm_fl_293 : sm_fl 293 = some (0, 2) := rfl
set_option maxRecDepth 8000 in
theorem sm_fl_296 : sm_fl 296 = some (0, 7) := rfl
set_option maxRecDepth 8000 in
theorem sm_fl_299 : sm_fl 299 = some (0, 11) := rfl
set_option maxRecDepth 8000 in
theorem sm_fl_306 : sm_fl 306 = some (0, 9) := rfl
set_option maxRecDepth 8000 in
theorem sm_fl_328 : sm_fl 328 = some (0, 4) := rfl
set_option maxRecDepth 8000 in
theorem sm_fl_344 : sm_fl 344 = some (0, 18) := rfl
set_option maxRecDepth 8000 in
theorem sm_fl_347 : sm_fl 347 = some (0, 19) := rfl
set_option maxRecDepth 8000 in
theorem sm_fl_350 : sm_fl 350 = some (0, 12) := rfl
set_option maxRecDepth 8000 in
theorem sm_fl_389 : sm_fl 389 = some (0, 21) := rfl
set_option maxRecDepth 8000 in
theorem sm_fl_392 : sm_fl 392 = some (0, 20) := rfl
set_option maxRecDepth 8000 in
theorem sm_fl_395 : sm_fl 395 = some (0, 22) := rfl
set_option maxRecDepth 8000 in
theorem sm_fl_407 : sm_fl 407 = some (0, 23) := rfl
set_option maxRecDepth 8000 in
theorem sm_fl_421 : sm_fl 421 = some (0, 24) := rfl
set_option maxRecDepth 8000 in
theorem sm_fl_424 : sm_fl 424 = some (0, 31) := rfl
set_option maxRecDepth 8000 in
theorem sm_fl_427 : sm_fl 427 = some (0, 43) := rfl
set_option maxRecDepth 8000 in
theorem sm_fl_430 : sm_fl 430 = some (0, 42) := rfl
set_option maxRecDepth 8000 in
theorem sm_fl_527 : sm_fl 527 = some (0, 32) := rfl
set_option maxRecDepth 8000 in
theorem sm_fl_530 : sm_fl 530 = some (0, 44) := rfl
set_option maxRecDepth 8000 in
theorem sm_fl_533 : sm_fl 533 = some (0, 45) := rfl
set_option maxRecDepth 8000 in
theorem sm_fl_606 : sm_fl 606 = some (0, 46) := rfl
set_option maxRecDepth 8000 in
theorem sm_fl_609 : sm_fl 609 = some (0, 47) := rfl
set_option maxRecDepth 8000 in
theorem sm_fl_612 : sm_fl 612 = some (0, 56) := rfl
set_option maxRecDepth 8000 in
theorem sm_fl_619 : sm_fl 619 = some (0, 53) := rfl
set_option maxRecDepth 8000 in
theorem sm_fl_634 : sm_fl 634 = some (0, 60) := rfl
set_option maxRecDepth 8000 in
theorem sm_fl_637 : sm_fl 637 = some (0, 59) := rfl
set_option maxRecDepth 8000 in
theorem sm_fl_650 : sm_fl 650 = some (0, 66) := rfl
set_option maxRecDepth 8000 in
theorem sm_fl_689 : sm_fl 689 = some (0, 55) := rfl
set_option maxRecDepth 8000 in
theorem sm_fl_707 : sm_fl 707 = some (0, 68) := rfl
set_option maxRecDepth 8000 in
theorem sm_fl_741 : sm_fl 741 = some (0, 70) := rfl
set_option maxRecDepth 8000 in
theorem sm_fl_762 : sm_fl 762 = some (0, 8) := rfl
set_option maxRecDepth 8000 in
theorem sm_fl_765 : sm_fl 765 = some (0, 71) := rfl
set_option maxRecDepth 8000 in
theorem sm_fl_770 : sm_fl 770 = some (0, 72) := rfl
set_option maxRecDepth 8000 in
theorem sm_fl_773 : sm_fl 773 = some (0, 73) := rfl
set_option maxRecDepth 8000 in
theorem sm_fl_776 : sm_fl 776 = some (0, 119) := rfl
set_option maxRecDepth 8000 in
theorem sm_fl_788 : sm_fl 788 = some (0, 111) := rfl
set_option maxRecDepth 8000 in
theorem sm_fl_791 : sm_fl 791 = some (0, 112) := rfl
set_option maxRecDepth 8000 in
theorem sm_fl_794 : sm_fl 794 = some (0, 75) := rfl
set_option maxRecDepth 8000 in
theorem sm_fl_806 : sm_fl 806 = some (0, 113) := rfl
set_option maxRecDepth 8000 in
theorem sm_fl_843 : sm_fl 843 = some (0, 76) := rfl
set_option maxRecDepth 8000 in
theorem sm_fl_849 : sm_fl 849 = some (0, 84) := rfl
set_option maxRecDepth 8000 in
theorem sm_fl_852 : sm_fl 852 = some (0, 85) := rfl
set_option maxRecDepth 8000 in
theorem sm_fl_855 : sm_fl 855 = some (0, 86) := rfl
set_option maxRecDepth 8000 in
theorem sm_fl_861 : sm_fl 861 = some (0, 74) := rfl
set_option maxRecDepth 8000 in
theorem sm_fl_864 : sm_fl 864 = some (0, 107) := rfl
set_option maxRecDepth 8000 in
theorem sm_fl_872 : sm_fl 872 = some (0, 92) := rfl
set_option maxRecDepth 8000 in
theorem sm_fl_891 : sm_fl 891 = some (0, 109) := rfl
set_option maxRecDepth 8000 in
theorem sm_fl_894 : sm_fl 894 = some (0, 110) := rfl
set_option maxRecDepth 8000 in
theorem sm_fl_995 : sm_fl 995 = some (0, 115) := rfl
set_option maxRecDepth 8000 in
theorem sm_fl_998 : sm_fl 998 = some (0, 114) := rfl
set_option maxRecDepth 8000 in
theorem sm_fl_1034 : sm_fl 1034 = some (0, 120) := rfl
set_option maxRecDepth 8000 in
theorem sm_fl_1107 : sm_fl 1107 = some (0, 127) := rfl
set_option maxRecDepth 8000 in
theorem sm_fl_1118 : sm_fl 1118 = some (0, 143) := rfl
set_option maxRecDepth 8000 in
theorem sm_fl_1122 : sm_fl 1122 = some (0, 144) := rfl
set_option maxRecDepth 8000 in
theorem sm_fl_1156 : sm_fl 1156 = some (0, 145) := rfl
set_option maxRecDepth 8000 in
theorem sm_fl_1178 : sm_fl 1178 = some (0, 147) := rfl
set_option maxRecDepth 8000 in
theorem sm_fl_1185 : sm_fl 1185 = some (0, 150) := rfl
set_option maxRecDepth 8000 in
theorem sm_fl_1188 : sm_fl 1188 = some (0, 148) := rfl
set_option maxRecDepth 8000 in
theorem sm_fl_1208 : sm_fl 1208 = some (0, 149) := rfl
set_option maxRecDepth 8000 in
theorem sm_fl_1376 : sm_fl 1376 = some (0, 121) := rfl
set_option maxRecDepth 8000 in
theorem sm_fp_289 : sm_fp 289 = some (0, 0, .int, false) := rfl
set_option maxRecDepth 8000 in
theorem sm_fp_293 : sm_fp 293 = some (0, 2, .int, false) := rfl
set_option maxRecDepth 8000 in
theorem sm_fp_296 : sm_fp 296 = some (0, 7, .int, false) := rfl
set_option maxRecDepth 8000 in
theorem sm_fp_299 : sm_fp 299 = some (0, 11, .int, false) := rfl
set_option maxRecDepth 8000 in
theorem sm_fp_306 : sm_fp 306 = some (0, 9, .boolean, false) := rfl
set_option maxRecDepth 8000 in
theorem sm_fp_328 : sm_fp 328 = some (0, 4, .int, false) := rfl
set_option maxRecDepth 8000 in
theorem sm_fp_344 : sm_fp 344 = some (0, 18, .int, false) := rfl
set_option maxRecDepth 8000 in
theorem sm_fp_347 : sm_fp 347 = some (0, 19, .int, false) := rfl
set_option maxRecDepth 8000 in
theorem sm_fp_350 : sm_fp 350 = some (0, 12, .int, false) := rfl
set_option maxRecDepth 8000 in
theorem sm_fp_389 : sm_fp 389 = some (0, 21, .int, false) := rfl
set_option maxRecDepth 8000 in
theorem sm_fp_392 : sm_fp 392 = some (0, 20, .int, false) := rfl
set_option maxRecDepth 8000 in
theorem sm_fp_395 : sm_fp 395 = some (0, 22, .int, false) := rfl
set_option maxRecDepth 8000 in
theorem sm_fp_407 : sm_fp 407 = some (0, 23, .int, false) := rfl
set_option maxRecDepth 8000 in
theorem sm_fp_421 : sm_fp 421 = some (0, 24, .int, false) := rfl
set_option maxRecDepth 8000 in
theorem sm_fp_424 : sm_fp 424 = some (0, 31, .int, false) := rfl
set_option maxRecDepth 8000 in
theorem sm_fp_427 : sm_fp 427 = some (0, 43, .int, false) := rfl
set_option maxRecDepth 8000 in
theorem sm_fp_430 : sm_fp 430 = some (0, 42, .int, false) := rfl
set_option maxRecDepth 8000 in
theorem sm_fp_527 : sm_fp 527 = some (0, 32, .int, false) := rfl
set_option maxRecDepth 8000 in
theorem sm_fp_530 : sm_fp 530 = some (0, 44, .int, false) := rfl
set_option maxRecDepth 8000 in
theorem sm_fp_533 : sm_fp 533 = some (0, 45, .int, false) := rfl
set_option maxRecDepth 8000 in
theorem sm_fp_606 : sm_fp 606 = some (0, 46, .int, false) := rfl
set_option maxRecDepth 8000 in
theorem sm_fp_609 : sm_fp 609 = some (0, 47, .boolean, false) := rfl
set_option maxRecDepth 8000 in
theorem sm_fp_612 : sm_fp 612 = some (0, 56, .int, false) := rfl
set_option maxRecDepth 8000 in
theorem sm_fp_619 : sm_fp 619 = some (0, 53, .int, false) := rfl
set_option maxRecDepth 8000 in
theorem sm_fp_634 : sm_fp 634 = some (0, 60, .int, false) := rfl
set_option maxRecDepth 8000 in
theorem sm_fp_637 : sm_fp 637 = some (0, 59, .int, false) := rfl
set_option maxRecDepth 8000 in
theorem sm_fp_650 : sm_fp 650 = some (0, 66, .int, false) := rfl
set_option maxRecDepth 8000 in
theorem sm_fp_689 : sm_fp 689 = some (0, 55, .int, false) := rfl
set_option maxRecDepth 8000 in
theorem sm_fp_707 : sm_fp 707 = some (0, 68, .int, false) := rfl
set_option maxRecDepth 8000 in
theorem sm_fp_741 : sm_fp 741 = some (0, 70, .int, false) := rfl
set_option maxRecDepth 8000 in
theorem sm_fp_762 : sm_fp 762 = some (0, 8, .int, false) := rfl
set_option maxRecDepth 8000 in
theorem sm_fp_765 : sm_fp 765 = some (0, 71, .int, false) := rfl
set_option maxRecDepth 8000 in
theorem sm_fp_770 : sm_fp 770 = some (0, 72, .boolean, false) := rfl
set_option maxRecDepth 8000 in
theorem sm_fp_773 : sm_fp 773 = some (0, 73, .int, false) := rfl
set_option maxRecDepth 8000 in
theorem sm_fp_776 : sm_fp 776 = some (0, 119, .boolean, false) := rfl
set_option maxRecDepth 8000 in
theorem sm_fp_788 : sm_fp 788 = some (0, 111, .int, false) := rfl
set_option maxRecDepth 8000 in
theorem sm_fp_791 : sm_fp 791 = some (0, 112, .int, false) := rfl
set_option maxRecDepth 8000 in
theorem sm_fp_794 : sm_fp 794 = some (0, 75, .boolean, false) := rfl
set_option maxRecDepth 8000 in
theorem sm_fp_806 : sm_fp 806 = some (0, 113, .boolean, false) := rfl
set_option maxRecDepth 8000 in
theorem sm_fp_843 : sm_fp 843 = some (0, 76, .int, false) := rfl
set_option maxRecDepth 8000 in
theorem sm_fp_849 : sm_fp 849 = some (0, 84, .int, false) := rfl
set_option maxRecDepth 8000 in
theorem sm_fp_852 : sm_fp 852 = some (0, 85, .int, false) := rfl
set_option maxRecDepth 8000 in
theorem sm_fp_855 : sm_fp 855 = some (0, 86, .int, false) := rfl
set_option maxRecDepth 8000 in
theorem sm_fp_861 : sm_fp 861 = some (0, 74, .int, false) := rfl
set_option maxRecDepth 8000 in
theorem sm_fp_864 : sm_fp 864 = some (0, 107, .int, false) := rfl
set_option maxRecDepth 8000 in
theorem sm_fp_872 : sm_fp 872 = some (0, 92, .int, false) := rfl
set_option maxRecDepth 8000 in
theorem sm_fp_891 : sm_fp 891 = some (0, 109, .int, false) := rfl
set_option maxRecDepth 8000 in
theorem sm_fp_894 : sm_fp 894 = some (0, 110, .int, false) := rfl
set_option maxRecDepth 8000 in
theorem sm_fp_995 : sm_fp 995 = some (0, 115, .int, false) := rfl
set_option maxRecDepth 8000 in
theorem sm_fp_998 : sm_fp 998 = some (0, 114, .int, false) := rfl
set_option maxRecDepth 8000 in
theorem sm_fp_1034 : sm_fp 1034 = some (0, 120, .int, false) := rfl
set_option maxRecDepth 8000 in
theorem sm_fp_1107 : sm_fp 1107 = some (0, 127, .int, false) := rfl
set_option maxRecDepth 8000 in
theorem sm_fp_1118 : sm_fp 1118 = some (0, 143, .long, false) := rfl
set_option maxRecDepth 8000 in
theorem sm_fp_1122 : sm_fp 1122 = some (0, 144, .long, false) := rfl
set_option maxRecDepth 8000 in
theorem sm_fp_1156 : sm_fp 1156 = some (0, 145, .boolean, false) := rfl
set_option maxRecDepth 8000 in
theorem sm_fp_1178 : sm_fp 1178 = some (0, 147, .int, false) := rfl
set_option maxRecDepth 8000 in
theorem sm_fp_1185 : sm_fp 1185 = some (0, 150, .boolean, false) := rfl
set_option maxRecDepth 8000 in
theorem sm_fp_1188 : sm_fp 1188 = some (0, 148, .int, false) := rfl
set_option maxRecDepth 8000 in
theorem sm_fp_1208 : sm_fp 1208 = some (0, 149, .int, false) := rfl
set_option maxRecDepth 8000 in
theorem sm_fp_1376 : sm_fp 1376 = some (0, 121, .int, false) := rfl
set_option maxRecDepth 8000 in
theorem sm_ck_45 : sm_ck 45 = some (.int (60000)) := rfl
set_option maxRecDepth 8000 in
theorem sm_ck_215 : sm_ck 215 = some (.int (647800)) := rfl
set_option maxRecDepth 8000 in
theorem sm_ck_1065 : sm_ck 1065 = some (.int (647790)) := rfl
set_option maxRecDepth 8000 in
theorem sm_ck_1084 : sm_ck 1084 = some (.int (635640)) := rfl
set_option maxRecDepth 8000 in
theorem sm_ck_1091 : sm_ck 1091 = some (.int (635000)) := rfl
set_option maxRecDepth 8000 in
theorem sm_ck_1181 : sm_ck 1181 = some (.int (647791)) := rfl
set_option maxRecDepth 8000 in
theorem sm_ck_1194 : sm_ck 1194 = some (.int (647792)) := rfl
set_option maxRecDepth 8000 in
theorem sm_ck_1217 : sm_ck 1217 = some (.int (647793)) := rfl
set_option maxRecDepth 8000 in
theorem sm_ck_1218 : sm_ck 1218 = some (.int (647740)) := rfl
set_option maxRecDepth 8000 in
theorem sm_ck_1273 : sm_ck 1273 = some (.int (647794)) := rfl
set_option maxRecDepth 8000 in
theorem sm_ck_1339 : sm_ck 1339 = some (.int (647750)) := rfl
set_option maxRecDepth 8000 in
theorem sm_ck_1349 : sm_ck 1349 = some (.int (647751)) := rfl
set_option maxRecDepth 8000 in
theorem sm_ck_1353 : sm_ck 1353 = some (.int (647752)) := rfl
set_option maxRecDepth 8000 in
theorem sm_ck_1357 : sm_ck 1357 = some (.int (647753)) := rfl
set_option maxRecDepth 8000 in
theorem sm_ck_1358 : sm_ck 1358 = some (.int (647760)) := rfl
set_option maxRecDepth 8000 in
theorem sm_ck_1359 : sm_ck 1359 = some (.int (647761)) := rfl
set_option maxRecDepth 8000 in
theorem sm_ck_1360 : sm_ck 1360 = some (.int (647762)) := rfl
set_option maxRecDepth 8000 in
theorem sm_ck_1379 : sm_ck 1379 = some (.int (465000)) := rfl
set_option maxRecDepth 8000 in
theorem sm_ck_1380 : sm_ck 1380 = some (.int (647340)) := rfl
set_option maxRecDepth 8000 in
theorem sm_ck_381 : sm_ck 381 = some (.long (10)) := rfl
set_option maxRecDepth 8000 in
theorem sm_ck_383 : sm_ck 383 = some (.long (48)) := rfl
set_option maxRecDepth 8000 in
theorem sm_ck_385 : sm_ck 385 = some (.long (2147483647)) := rfl
set_option maxRecDepth 8000 in
theorem sm_ck_416 : sm_ck 416 = some (.long (9)) := rfl
set_option maxRecDepth 8000 in
theorem sm_ck_768 : sm_ck 768 = some (.long (450000)) := rfl
set_option maxRecDepth 8000 in
theorem sm_ck_1043 : sm_ck 1043 = some (.long (1023)) := rfl
set_option maxRecDepth 8000 in
theorem sm_ck_1045 : sm_ck 1045 = some (.long (127)) := rfl
set_option maxRecDepth 8000 in
theorem sm_ck_1110 : sm_ck 1110 = some (.long (-1)) := rfl
set_option maxRecDepth 8000 in
theorem sm_ck_1310 : sm_ck 1310 = some (.long (-2)) := rfl
set_option maxRecDepth 8000 in
theorem sm_ck_1312 : sm_ck 1312 = some (.long (16)) := rfl
set_option maxRecDepth 8000 in
theorem sm_ck_1340 : sm_ck 1340 = some (.long (2)) := rfl
set_option maxRecDepth 8000 in
theorem sm_iv_302 : sm_iv 302 = some (some 0, 5, 0) := rfl
set_option maxRecDepth 8000 in
theorem sm_iv_310 : sm_iv 310 = some (some 0, 6, 0) := rfl
set_option maxRecDepth 8000 in
theorem sm_iv_324 : sm_iv 324 = some (some 0, 7, 1) := rfl
set_option maxRecDepth 8000 in
theorem sm_iv_331 : sm_iv 331 = some (some 0, 11, 1) := rfl
set_option maxRecDepth 8000 in
theorem sm_iv_334 : sm_iv 334 = some (some 0, 10, 1) := rfl
set_option maxRecDepth 8000 in
theorem sm_iv_338 : sm_iv 338 = some (none, 12, 1) := rfl
set_option maxRecDepth 8000 in
theorem sm_iv_341 : sm_iv 341 = some (none, 13, 1) := rfl
set_option maxRecDepth 8000 in
theorem sm_iv_353 : sm_iv 353 = some (some 0, 15, 0) := rfl
set_option maxRecDepth 8000 in
theorem sm_iv_357 : sm_iv 357 = some (some 0, 17, 0) := rfl
set_option maxRecDepth 8000 in
theorem sm_iv_360 : sm_iv 360 = some (some 0, 18, 0) := rfl
set_option maxRecDepth 8000 in
theorem sm_iv_363 : sm_iv 363 = some (some 0, 20, 0) := rfl
set_option maxRecDepth 8000 in
theorem sm_iv_366 : sm_iv 366 = some (some 0, 21, 1) := rfl
set_option maxRecDepth 8000 in
theorem sm_iv_369 : sm_iv 369 = some (some 0, 22, 0) := rfl
set_option maxRecDepth 8000 in
theorem sm_iv_372 : sm_iv 372 = some (some 0, 14, 1) := rfl
set_option maxRecDepth 8000 in
theorem sm_iv_375 : sm_iv 375 = some (some 0, 19, 2) := rfl
set_option maxRecDepth 8000 in
theorem sm_iv_398 : sm_iv 398 = some (some 0, 24, 1) := rfl
set_option maxRecDepth 8000 in
theorem sm_iv_401 : sm_iv 401 = some (some 0, 23, 1) := rfl
set_option maxRecDepth 8000 in
theorem sm_iv_404 : sm_iv 404 = some (some 0, 25, 1) := rfl
set_option maxRecDepth 8000 in
theorem sm_iv_410 : sm_iv 410 = some (some 0, 31, 1) := rfl
set_option maxRecDepth 8000 in
theorem sm_iv_413 : sm_iv 413 = some (some 0, 8, 0) := rfl
set_option maxRecDepth 8000 in
theorem sm_iv_418 : sm_iv 418 = some (some 0, 30, 1) := rfl
set_option maxRecDepth 8000 in
theorem sm_iv_433 : sm_iv 433 = some (some 0, 41, 0) := rfl
set_option maxRecDepth 8000 in
theorem sm_iv_436 : sm_iv 436 = some (some 0, 40, 0) := rfl
set_option maxRecDepth 8000 in
theorem sm_iv_439 : sm_iv 439 = some (some 0, 39, 0) := rfl
set_option maxRecDepth 8000 in
theorem sm_iv_442 : sm_iv 442 = some (some 0, 47, 1) := rfl
set_option maxRecDepth 8000 in
theorem sm_iv_446 : sm_iv 446 = some (some 0, 33, 4) := rfl
set_option maxRecDepth 8000 in
theorem sm_iv_450 : sm_iv 450 = some (some 0, 28, 1) := rfl
set_option maxRecDepth 8000 in
theorem sm_iv_454 : sm_iv 454 = some (some 0, 29, 0) := rfl
set_option maxRecDepth 8000 in
theorem sm_iv_457 : sm_iv 457 = some (some 0, 48, 1) := rfl
set_option maxRecDepth 8000 in
theorem sm_iv_460 : sm_iv 460 = some (some 0, 45, 0) := rfl
set_option maxRecDepth 8000 in
theorem sm_iv_463 : sm_iv 463 = some (some 0, 44, 1) := rfl
set_option maxRecDepth 8000 in
theorem sm_iv_466 : sm_iv 466 = some (some 0, 46, 1) := rfl
set_option maxRecDepth 8000 in
theorem sm_iv_469 : sm_iv 469 = some (some 0, 51, 2) := rfl
set_option maxRecDepth 8000 in
theorem sm_iv_473 : sm_iv 473 = some (some 0, 26, 1) := rfl
set_option maxRecDepth 8000 in
theorem sm_iv_476 : sm_iv 476 = some (some 0, 52, 0) := rfl
set_option maxRecDepth 8000 in
theorem sm_iv_479 : sm_iv 479 = some (some 0, 49, 1) := rfl
set_option maxRecDepth 8000 in
theorem sm_iv_482 : sm_iv 482 = some (some 0, 50, 0) := rfl
set_option maxRecDepth 8000 in
theorem sm_iv_485 : sm_iv 485 = some (some 0, 53, 0) := rfl
set_option maxRecDepth 8000 in
theorem sm_iv_488 : sm_iv 488 = some (some 0, 54, 0) := rfl
set_option maxRecDepth 8000 in
theorem sm_iv_490 : sm_iv 490 = some (some 0, 55, 0) := rfl
set_option maxRecDepth 8000 in
theorem sm_iv_493 : sm_iv 493 = some (some 0, 59, 0) := rfl
set_option maxRecDepth 8000 in
theorem sm_iv_496 : sm_iv 496 = some (some 0, 57, 0) := rfl
set_option maxRecDepth 8000 in
theorem sm_iv_499 : sm_iv 499 = some (some 0, 56, 1) := rfl
set_option maxRecDepth 8000 in
theorem sm_iv_502 : sm_iv 502 = some (some 0, 43, 1) := rfl
set_option maxRecDepth 8000 in
theorem sm_iv_505 : sm_iv 505 = some (some 0, 58, 3) := rfl
set_option maxRecDepth 8000 in
theorem sm_iv_509 : sm_iv 509 = some (some 0, 35, 0) := rfl
set_option maxRecDepth 8000 in
theorem sm_iv_512 : sm_iv 512 = some (some 0, 36, 1) := rfl
set_option maxRecDepth 8000 in
theorem sm_iv_515 : sm_iv 515 = some (some 0, 37, 0) := rfl
set_option maxRecDepth 8000 in
theorem sm_iv_518 : sm_iv 518 = some (some 0, 60, 0) := rfl
set_option maxRecDepth 8000 in
theorem sm_iv_521 : sm_iv 521 = some (some 0, 61, 0) := rfl
set_option maxRecDepth 8000 in
theorem sm_iv_524 : sm_iv 524 = some (some 0, 62, 1) := rfl
set_option maxRecDepth 8000 in
theorem sm_iv_536 : sm_iv 536 = some (some 0, 32, 0) := rfl
set_option maxRecDepth 8000 in
theorem sm_iv_539 : sm_iv 539 = some (some 0, 38, 2) := rfl
set_option maxRecDepth 8000 in
theorem sm_iv_543 : sm_iv 543 = some (some 0, 64, 1) := rfl
set_option maxRecDepth 8000 in
theorem sm_iv_546 : sm_iv 546 = some (some 0, 65, 1) := rfl
set_option maxRecDepth 8000 in
theorem sm_iv_549 : sm_iv 549 = some (some 0, 63, 2) := rfl
set_option maxRecDepth 8000 in
theorem sm_iv_553 : sm_iv 553 = some (some 0, 67, 0) := rfl
set_option maxRecDepth 8000 in
theorem sm_iv_556 : sm_iv 556 = some (some 0, 42, 0) := rfl
set_option maxRecDepth 8000 in
theorem sm_iv_559 : sm_iv 559 = some (some 0, 68, 0) := rfl
set_option maxRecDepth 8000 in
theorem sm_iv_562 : sm_iv 562 = some (some 0, 70, 0) := rfl
set_option maxRecDepth 8000 in
theorem sm_iv_565 : sm_iv 565 = some (some 0, 69, 0) := rfl
set_option maxRecDepth 8000 in
theorem sm_iv_568 : sm_iv 568 = some (some 0, 71, 1) := rfl
set_option maxRecDepth 8000 in
theorem sm_iv_571 : sm_iv 571 = some (some 0, 66, 0) := rfl
set_option maxRecDepth 8000 in
theorem sm_iv_574 : sm_iv 574 = some (some 0, 74, 0) := rfl
set_option maxRecDepth 8000 in
theorem sm_iv_577 : sm_iv 577 = some (some 0, 72, 0) := rfl
set_option maxRecDepth 8000 in
theorem sm_iv_580 : sm_iv 580 = some (some 0, 73, 0) := rfl
set_option maxRecDepth 8000 in
theorem sm_iv_583 : sm_iv 583 = some (some 0, 75, 0) := rfl
set_option maxRecDepth 8000 in
theorem sm_iv_585 : sm_iv 585 = some (some 0, 76, 0) := rfl
set_option maxRecDepth 8000 in
theorem sm_iv_588 : sm_iv 588 = some (some 0, 78, 0) := rfl
set_option maxRecDepth 8000 in
theorem sm_iv_591 : sm_iv 591 = some (some 0, 79, 0) := rfl
set_option maxRecDepth 8000 in
theorem sm_iv_594 : sm_iv 594 = some (some 0, 80, 0) := rfl
set_option maxRecDepth 8000 in
theorem sm_iv_597 : sm_iv 597 = some (some 0, 81, 0) := rfl
set_option maxRecDepth 8000 in
theorem sm_iv_600 : sm_iv 600 = some (some 0, 27, 1) := rfl
set_option maxRecDepth 8000 in
theorem sm_iv_603 : sm_iv 603 = some (some 0, 77, 1) := rfl
set_option maxRecDepth 8000 in
theorem sm_iv_615 : sm_iv 615 = some (some 0, 82, 3) := rfl
set_option maxRecDepth 8000 in
theorem sm_iv_622 : sm_iv 622 = some (some 0, 86, 2) := rfl
set_option maxRecDepth 8000 in
theorem sm_iv_625 : sm_iv 625 = some (some 0, 87, 3) := rfl
set_option maxRecDepth 8000 in
theorem sm_iv_644 : sm_iv 644 = some (some 0, 34, 2) := rfl
set_option maxRecDepth 8000 in
theorem sm_iv_647 : sm_iv 647 = some (some 0, 95, 1) := rfl
set_option maxRecDepth 8000 in
theorem sm_iv_653 : sm_iv 653 = some (some 0, 94, 1) := rfl
set_option maxRecDepth 8000 in
theorem sm_iv_656 : sm_iv 656 = some (some 0, 90, 2) := rfl
set_option maxRecDepth 8000 in
theorem sm_iv_660 : sm_iv 660 = some (some 0, 98, 1) := rfl
set_option maxRecDepth 8000 in
theorem sm_iv_663 : sm_iv 663 = some (some 0, 97, 1) := rfl
set_option maxRecDepth 8000 in
theorem sm_iv_666 : sm_iv 666 = some (some 0, 83, 1) := rfl
set_option maxRecDepth 8000 in
theorem sm_iv_668 : sm_iv 668 = some (some 0, 96, 1) := rfl
set_option maxRecDepth 8000 in
theorem sm_iv_671 : sm_iv 671 = some (some 0, 101, 1) := rfl
set_option maxRecDepth 8000 in
theorem sm_iv_674 : sm_iv 674 = some (some 0, 84, 0) := rfl
set_option maxRecDepth 8000 in
theorem sm_iv_677 : sm_iv 677 = some (some 0, 85, 1) := rfl
set_option maxRecDepth 8000 in
theorem sm_iv_680 : sm_iv 680 = some (some 0, 88, 1) := rfl
set_option maxRecDepth 8000 in
theorem sm_iv_683 : sm_iv 683 = some (some 0, 99, 1) := rfl
set_option maxRecDepth 8000 in
theorem sm_iv_686 : sm_iv 686 = some (some 0, 100, 1) := rfl
set_option maxRecDepth 8000 in
theorem sm_iv_692 : sm_iv 692 = some (some 0, 102, 2) := rfl
set_option maxRecDepth 8000 in
theorem sm_iv_695 : sm_iv 695 = some (some 0, 103, 3) := rfl
set_option maxRecDepth 8000 in
theorem sm_iv_698 : sm_iv 698 = some (some 0, 104, 2) := rfl
set_option maxRecDepth 8000 in
theorem sm_iv_701 : sm_iv 701 = some (some 0, 105, 2) := rfl
set_option maxRecDepth 8000 in
theorem sm_iv_704 : sm_iv 704 = some (some 0, 89, 1) := rfl
set_option maxRecDepth 8000 in
theorem sm_iv_710 : sm_iv 710 = some (some 0, 107, 1) := rfl
set_option maxRecDepth 8000 in
theorem sm_iv_713 : sm_iv 713 = some (some 0, 106, 1) := rfl
set_option maxRecDepth 8000 in
theorem sm_iv_716 : sm_iv 716 = some (some 0, 109, 1) := rfl
set_option maxRecDepth 8000 in
theorem sm_iv_719 : sm_iv 719 = some (some 0, 108, 4) := rfl
set_option maxRecDepth 8000 in
theorem sm_iv_723 : sm_iv 723 = some (some 0, 93, 4) := rfl
set_option maxRecDepth 8000 in
theorem sm_iv_726 : sm_iv 726 = some (some 0, 92, 2) := rfl
set_option maxRecDepth 8000 in
theorem sm_iv_729 : sm_iv 729 = some (some 0, 111, 1) := rfl
set_option maxRecDepth 8000 in
theorem sm_iv_732 : sm_iv 732 = some (some 0, 112, 1) := rfl
set_option maxRecDepth 8000 in
theorem sm_iv_735 : sm_iv 735 = some (some 0, 113, 1) := rfl
set_option maxRecDepth 8000 in
theorem sm_iv_738 : sm_iv 738 = some (some 0, 115, 2) := rfl
set_option maxRecDepth 8000 in
theorem sm_iv_744 : sm_iv 744 = some (some 0, 110, 2) := rfl
set_option maxRecDepth 8000 in
theorem sm_iv_747 : sm_iv 747 = some (some 0, 114, 1) := rfl
set_option maxRecDepth 8000 in
theorem sm_iv_750 : sm_iv 750 = some (some 0, 118, 2) := rfl
set_option maxRecDepth 8000 in
theorem sm_iv_753 : sm_iv 753 = some (some 0, 117, 1) := rfl
set_option maxRecDepth 8000 in
theorem sm_iv_756 : sm_iv 756 = some (some 0, 116, 1) := rfl
set_option maxRecDepth 8000 in
theorem sm_iv_759 : sm_iv 759 = some (none, 119, 1) := rfl
set_option maxRecDepth 8000 in
theorem sm_iv_779 : sm_iv 779 = some (some 0, 9, 0) := rfl
set_option maxRecDepth 8000 in
theorem sm_iv_782 : sm_iv 782 = some (some 0, 16, 0) := rfl
set_option maxRecDepth 8000 in
theorem sm_iv_785 : sm_iv 785 = some (some 0, 120, 0) := rfl
set_option maxRecDepth 8000 in
theorem sm_iv_797 : sm_iv 797 = some (some 0, 124, 1) := rfl
set_option maxRecDepth 8000 in
theorem sm_iv_800 : sm_iv 800 = some (some 0, 125, 2) := rfl
set_option maxRecDepth 8000 in
theorem sm_iv_803 : sm_iv 803 = some (some 0, 123, 0) := rfl
set_option maxRecDepth 8000 in
theorem sm_iv_809 : sm_iv 809 = some (some 0, 128, 1) := rfl
set_option maxRecDepth 8000 in
theorem sm_iv_812 : sm_iv 812 = some (none, 130, 4) := rfl
set_option maxRecDepth 8000 in
theorem sm_iv_816 : sm_iv 816 = some (some 0, 127, 2) := rfl
set_option maxRecDepth 8000 in
theorem sm_iv_819 : sm_iv 819 = some (some 0, 132, 2) := rfl
set_option maxRecDepth 8000 in
theorem sm_iv_822 : sm_iv 822 = some (some 0, 122, 2) := rfl
set_option maxRecDepth 8000 in
theorem sm_iv_824 : sm_iv 824 = some (some 0, 129, 2) := rfl
set_option maxRecDepth 8000 in
theorem sm_iv_827 : sm_iv 827 = some (some 0, 134, 1) := rfl
set_option maxRecDepth 8000 in
theorem sm_iv_830 : sm_iv 830 = some (some 0, 136, 3) := rfl
set_option maxRecDepth 8000 in
theorem sm_iv_834 : sm_iv 834 = some (some 0, 131, 4) := rfl
set_option maxRecDepth 8000 in
theorem sm_iv_837 : sm_iv 837 = some (some 0, 133, 5) := rfl
set_option maxRecDepth 8000 in
theorem sm_iv_841 : sm_iv 841 = some (none, 138, 3) := rfl
set_option maxRecDepth 8000 in
theorem sm_iv_846 : sm_iv 846 = some (some 0, 140, 2) := rfl
set_option maxRecDepth 8000 in
theorem sm_iv_858 : sm_iv 858 = some (some 0, 139, 3) := rfl
set_option maxRecDepth 8000 in
theorem sm_iv_867 : sm_iv 867 = some (some 0, 146, 3) := rfl
set_option maxRecDepth 8000 in
theorem sm_iv_870 : sm_iv 870 = some (some 0, 141, 4) := rfl
set_option maxRecDepth 8000 in
theorem sm_iv_875 : sm_iv 875 = some (some 0, 148, 5) := rfl
set_option maxRecDepth 8000 in
theorem sm_iv_879 : sm_iv 879 = some (some 0, 149, 0) := rfl
set_option maxRecDepth 8000 in
theorem sm_iv_882 : sm_iv 882 = some (some 0, 153, 1) := rfl
set_option maxRecDepth 8000 in
theorem sm_iv_885 : sm_iv 885 = some (some 0, 152, 2) := rfl
set_option maxRecDepth 8000 in
theorem sm_iv_888 : sm_iv 888 = some (some 0, 154, 0) := rfl
set_option maxRecDepth 8000 in
theorem sm_iv_897 : sm_iv 897 = some (some 0, 156, 2) := rfl
set_option maxRecDepth 8000 in
theorem sm_iv_899 : sm_iv 899 = some (none, 4, 3) := rfl
set_option maxRecDepth 8000 in
theorem sm_iv_902 : sm_iv 902 = some (some 0, 160, 0) := rfl
set_option maxRecDepth 8000 in
theorem sm_iv_904 : sm_iv 904 = some (some 0, 155, 1) := rfl
set_option maxRecDepth 8000 in
theorem sm_iv_907 : sm_iv 907 = some (some 0, 159, 1) := rfl
set_option maxRecDepth 8000 in
theorem sm_iv_910 : sm_iv 910 = some (some 0, 150, 1) := rfl
set_option maxRecDepth 8000 in
theorem sm_iv_913 : sm_iv 913 = some (some 0, 151, 1) := rfl
set_option maxRecDepth 8000 in
theorem sm_iv_916 : sm_iv 916 = some (some 0, 168, 2) := rfl
set_option maxRecDepth 8000 in
theorem sm_iv_920 : sm_iv 920 = some (some 0, 166, 1) := rfl
set_option maxRecDepth 8000 in
theorem sm_iv_923 : sm_iv 923 = some (some 0, 167, 1) := rfl
set_option maxRecDepth 8000 in
theorem sm_iv_926 : sm_iv 926 = some (some 0, 170, 1) := rfl
set_option maxRecDepth 8000 in
theorem sm_iv_929 : sm_iv 929 = some (some 0, 171, 0) := rfl
set_option maxRecDepth 8000 in
theorem sm_iv_931 : sm_iv 931 = some (some 0, 172, 0) := rfl
set_option maxRecDepth 8000 in
theorem sm_iv_934 : sm_iv 934 = some (some 0, 173, 0) := rfl
set_option maxRecDepth 8000 in
theorem sm_iv_937 : sm_iv 937 = some (some 0, 169, 2) := rfl
set_option maxRecDepth 8000 in
theorem sm_iv_940 : sm_iv 940 = some (some 0, 135, 3) := rfl
set_option maxRecDepth 8000 in
theorem sm_iv_943 : sm_iv 943 = some (some 0, 174, 1) := rfl
set_option maxRecDepth 8000 in
theorem sm_iv_945 : sm_iv 945 = some (some 0, 180, 1) := rfl
set_option maxRecDepth 8000 in
theorem sm_iv_948 : sm_iv 948 = some (some 0, 185, 2) := rfl
set_option maxRecDepth 8000 in
theorem sm_iv_951 : sm_iv 951 = some (some 0, 161, 2) := rfl
set_option maxRecDepth 8000 in
theorem sm_iv_954 : sm_iv 954 = some (some 0, 162, 2) := rfl
set_option maxRecDepth 8000 in
theorem sm_iv_957 : sm_iv 957 = some (some 0, 184, 2) := rfl
set_option maxRecDepth 8000 in
theorem sm_iv_960 : sm_iv 960 = some (some 0, 164, 1) := rfl
set_option maxRecDepth 8000 in
theorem sm_iv_963 : sm_iv 963 = some (some 0, 163, 1) := rfl
set_option maxRecDepth 8000 in
theorem sm_iv_966 : sm_iv 966 = some (some 0, 157, 1) := rfl
set_option maxRecDepth 8000 in
theorem sm_iv_969 : sm_iv 969 = some (some 0, 126, 2) := rfl
set_option maxRecDepth 8000 in
theorem sm_iv_972 : sm_iv 972 = some (some 0, 143, 2) := rfl
set_option maxRecDepth 8000 in
theorem sm_iv_975 : sm_iv 975 = some (some 0, 145, 1) := rfl
set_option maxRecDepth 8000 in
theorem sm_iv_978 : sm_iv 978 = some (some 0, 144, 1) := rfl
set_option maxRecDepth 8000 in
theorem sm_iv_981 : sm_iv 981 = some (some 0, 142, 2) := rfl
set_option maxRecDepth 8000 in
theorem sm_iv_984 : sm_iv 984 = some (some 0, 175, 4) := rfl
set_option maxRecDepth 8000 in
theorem sm_iv_987 : sm_iv 987 = some (some 0, 177, 4) := rfl
set_option maxRecDepth 8000 in
theorem sm_iv_990 : sm_iv 990 = some (some 0, 137, 5) := rfl
set_option maxRecDepth 8000 in
theorem sm_iv_992 : sm_iv 992 = some (some 0, 176, 2) := rfl
set_option maxRecDepth 8000 in
theorem sm_iv_1001 : sm_iv 1001 = some (some 0, 181, 6) := rfl
set_option maxRecDepth 8000 in
theorem sm_iv_1005 : sm_iv 1005 = some (some 0, 182, 3) := rfl
set_option maxRecDepth 8000 in
theorem sm_iv_1008 : sm_iv 1008 = some (some 0, 186, 4) := rfl
set_option maxRecDepth 8000 in
theorem sm_iv_1011 : sm_iv 1011 = some (some 0, 183, 5) := rfl
set_option maxRecDepth 8000 in
theorem sm_iv_1014 : sm_iv 1014 = some (some 0, 178, 1) := rfl
set_option maxRecDepth 8000 in
theorem sm_iv_1017 : sm_iv 1017 = some (some 0, 179, 1) := rfl
set_option maxRecDepth 8000 in
theorem sm_iv_1020 : sm_iv 1020 = some (some 0, 187, 5) := rfl
set_option maxRecDepth 8000 in
theorem sm_iv_1023 : sm_iv 1023 = some (some 0, 188, 3) := rfl
set_option maxRecDepth 8000 in
theorem sm_iv_1026 : sm_iv 1026 = some (some 0, 189, 1) := rfl
set_option maxRecDepth 8000 in
theorem sm_iv_1029 : sm_iv 1029 = some (some 0, 190, 3) := rfl
set_option maxRecDepth 8000 in
theorem sm_iv_1032 : sm_iv 1032 = some (some 0, 191, 3) := rfl
set_option maxRecDepth 8000 in
theorem sm_iv_1037 : sm_iv 1037 = some (some 0, 196, 3) := rfl
set_option maxRecDepth 8000 in
theorem sm_iv_1040 : sm_iv 1040 = some (some 0, 165, 1) := rfl
set_option maxRecDepth 8000 in
theorem sm_iv_1047 : sm_iv 1047 = some (some 0, 202, 1) := rfl
set_option maxRecDepth 8000 in
theorem sm_iv_1050 : sm_iv 1050 = some (some 0, 204, 1) := rfl
set_option maxRecDepth 8000 in
theorem sm_iv_1053 : sm_iv 1053 = some (some 0, 203, 1) := rfl
set_option maxRecDepth 8000 in
theorem sm_iv_1056 : sm_iv 1056 = some (some 0, 205, 4) := rfl
set_option maxRecDepth 8000 in
theorem sm_iv_1059 : sm_iv 1059 = some (some 0, 210, 1) := rfl
set_option maxRecDepth 8000 in
theorem sm_iv_1062 : sm_iv 1062 = some (some 0, 209, 1) := rfl
set_option maxRecDepth 8000 in
theorem sm_iv_1066 : sm_iv 1066 = some (some 0, 206, 1) := rfl
set_option maxRecDepth 8000 in
theorem sm_iv_1069 : sm_iv 1069 = some (some 0, 208, 2) := rfl
set_option maxRecDepth 8000 in
theorem sm_iv_1072 : sm_iv 1072 = some (some 0, 213, 2) := rfl
set_option maxRecDepth 8000 in
theorem sm_iv_1075 : sm_iv 1075 = some (some 0, 214, 2) := rfl
set_option maxRecDepth 8000 in
theorem sm_iv_1078 : sm_iv 1078 = some (some 0, 215, 2) := rfl
set_option maxRecDepth 8000 in
theorem sm_iv_1081 : sm_iv 1081 = some (some 0, 216, 2) := rfl
set_option maxRecDepth 8000 in
theorem sm_iv_1085 : sm_iv 1085 = some (some 0, 223, 1) := rfl
set_option maxRecDepth 8000 in
theorem sm_iv_1088 : sm_iv 1088 = some (some 0, 224, 1) := rfl
set_option maxRecDepth 8000 in
theorem sm_iv_1092 : sm_iv 1092 = some (some 0, 207, 2) := rfl
set_option maxRecDepth 8000 in
theorem sm_iv_1095 : sm_iv 1095 = some (some 0, 232, 1) := rfl
set_option maxRecDepth 8000 in
theorem sm_iv_1098 : sm_iv 1098 = some (some 0, 227, 1) := rfl
set_option maxRecDepth 8000 in
theorem sm_iv_1101 : sm_iv 1101 = some (some 0, 226, 2) := rfl
set_option maxRecDepth 8000 in
theorem sm_iv_1104 : sm_iv 1104 = some (some 0, 234, 1) := rfl
set_option maxRecDepth 8000 in
theorem sm_iv_1112 : sm_iv 1112 = some (some 0, 236, 2) := rfl
set_option maxRecDepth 8000 in
theorem sm_iv_1115 : sm_iv 1115 = some (some 0, 237, 1) := rfl
set_option maxRecDepth 8000 in
theorem sm_iv_1125 : sm_iv 1125 = some (none, 217, 3) := rfl
set_option maxRecDepth 8000 in
theorem sm_iv_1135 : sm_iv 1135 = some (some 0, 244, 0) := rfl
set_option maxRecDepth 8000 in
theorem sm_iv_1138 : sm_iv 1138 = some (some 0, 241, 1) := rfl
set_option maxRecDepth 8000 in
theorem sm_iv_1141 : sm_iv 1141 = some (some 0, 247, 1) := rfl
set_option maxRecDepth 8000 in
theorem sm_iv_1144 : sm_iv 1144 = some (some 0, 246, 0) := rfl
set_option maxRecDepth 8000 in
theorem sm_iv_1147 : sm_iv 1147 = some (some 0, 245, 1) := rfl
set_option maxRecDepth 8000 in
theorem sm_iv_1150 : sm_iv 1150 = some (some 0, 243, 0) := rfl
set_option maxRecDepth 8000 in
theorem sm_iv_1153 : sm_iv 1153 = some (some 0, 242, 1) := rfl
set_option maxRecDepth 8000 in
theorem sm_iv_1159 : sm_iv 1159 = some (some 0, 250, 4) := rfl
set_option maxRecDepth 8000 in
theorem sm_iv_1163 : sm_iv 1163 = some (some 0, 225, 3) := rfl
set_option maxRecDepth 8000 in
theorem sm_iv_1166 : sm_iv 1166 = some (none, 240, 1) := rfl
set_option maxRecDepth 8000 in
theorem sm_iv_1169 : sm_iv 1169 = some (some 0, 239, 1) := rfl
set_option maxRecDepth 8000 in
theorem sm_iv_1172 : sm_iv 1172 = some (some 0, 248, 2) := rfl
set_option maxRecDepth 8000 in
theorem sm_iv_1175 : sm_iv 1175 = some (some 0, 255, 2) := rfl
set_option maxRecDepth 8000 in
theorem sm_iv_1182 : sm_iv 1182 = some (some 0, 252, 2) := rfl
set_option maxRecDepth 8000 in
theorem sm_iv_1191 : sm_iv 1191 = some (some 0, 235, 1) := rfl
set_option maxRecDepth 8000 in
theorem sm_iv_1195 : sm_iv 1195 = some (some 0, 229, 1) := rfl
set_option maxRecDepth 8000 in
theorem sm_iv_1198 : sm_iv 1198 = some (some 0, 261, 1) := rfl
set_option maxRecDepth 8000 in
theorem sm_iv_1201 : sm_iv 1201 = some (some 0, 230, 0) := rfl
set_option maxRecDepth 8000 in
theorem sm_iv_1204 : sm_iv 1204 = some (some 0, 254, 4) := rfl
set_option maxRecDepth 8000 in
theorem sm_iv_1211 : sm_iv 1211 = some (some 0, 231, 1) := rfl
set_option maxRecDepth 8000 in
theorem sm_iv_1214 : sm_iv 1214 = some (some 0, 262, 1) := rfl
set_option maxRecDepth 8000 in
theorem sm_iv_1219 : sm_iv 1219 = some (some 0, 218, 3) := rfl
set_option maxRecDepth 8000 in
theorem sm_iv_1222 : sm_iv 1222 = some (some 0, 258, 0) := rfl
set_option maxRecDepth 8000 in
theorem sm_iv_1225 : sm_iv 1225 = some (some 0, 264, 2) := rfl
set_option maxRecDepth 8000 in
theorem sm_iv_1228 : sm_iv 1228 = some (some 0, 266, 2) := rfl
set_option maxRecDepth 8000 in
theorem sm_iv_1231 : sm_iv 1231 = some (some 0, 211, 1) := rfl
set_option maxRecDepth 8000 in
theorem sm_iv_1234 : sm_iv 1234 = some (some 0, 251, 5) := rfl
set_option maxRecDepth 8000 in
theorem sm_iv_1238 : sm_iv 1238 = some (some 0, 270, 2) := rfl
set_option maxRecDepth 8000 in
theorem sm_iv_1241 : sm_iv 1241 = some (some 0, 256, 2) := rfl
set_option maxRecDepth 8000 in
theorem sm_iv_1244 : sm_iv 1244 = some (some 0, 253, 2) := rfl
set_option maxRecDepth 8000 in
theorem sm_iv_1246 : sm_iv 1246 = some (some 0, 274, 0) := rfl
set_option maxRecDepth 8000 in
theorem sm_iv_1249 : sm_iv 1249 = some (some 0, 276, 0) := rfl
set_option maxRecDepth 8000 in
theorem sm_iv_1252 : sm_iv 1252 = some (some 0, 277, 0) := rfl
set_option maxRecDepth 8000 in
theorem sm_iv_1255 : sm_iv 1255 = some (some 0, 272, 3) := rfl
set_option maxRecDepth 8000 in
theorem sm_iv_1258 : sm_iv 1258 = some (some 0, 267, 2) := rfl
set_option maxRecDepth 8000 in
theorem sm_iv_1261 : sm_iv 1261 = some (some 0, 278, 1) := rfl
set_option maxRecDepth 8000 in
theorem sm_iv_1264 : sm_iv 1264 = some (some 0, 280, 1) := rfl
set_option maxRecDepth 8000 in
theorem sm_iv_1267 : sm_iv 1267 = some (some 0, 282, 2) := rfl
set_option maxRecDepth 8000 in
theorem sm_iv_1270 : sm_iv 1270 = some (some 0, 268, 2) := rfl
set_option maxRecDepth 8000 in
theorem sm_iv_1274 : sm_iv 1274 = some (some 0, 259, 1) := rfl
set_option maxRecDepth 8000 in
theorem sm_iv_1277 : sm_iv 1277 = some (some 0, 269, 3) := rfl
set_option maxRecDepth 8000 in
theorem sm_iv_1280 : sm_iv 1280 = some (some 0, 260, 0) := rfl
set_option maxRecDepth 8000 in
theorem sm_iv_1283 : sm_iv 1283 = some (some 0, 221, 1) := rfl
set_option maxRecDepth 8000 in
theorem sm_iv_1286 : sm_iv 1286 = some (some 0, 222, 1) := rfl
set_option maxRecDepth 8000 in
theorem sm_iv_1289 : sm_iv 1289 = some (some 0, 271, 2) := rfl
set_option maxRecDepth 8000 in
theorem sm_iv_1292 : sm_iv 1292 = some (some 0, 263, 2) := rfl
set_option maxRecDepth 8000 in
theorem sm_iv_1294 : sm_iv 1294 = some (some 0, 212, 1) := rfl
set_option maxRecDepth 8000 in
theorem sm_iv_1297 : sm_iv 1297 = some (some 0, 219, 1) := rfl
set_option maxRecDepth 8000 in
theorem sm_iv_1300 : sm_iv 1300 = some (some 0, 220, 1) := rfl
set_option maxRecDepth 8000 in
theorem sm_iv_1303 : sm_iv 1303 = some (some 0, 275, 2) := rfl
set_option maxRecDepth 8000 in
theorem sm_iv_1306 : sm_iv 1306 = some (some 0, 249, 3) := rfl
set_option maxRecDepth 8000 in
theorem sm_iv_1314 : sm_iv 1314 = some (some 0, 279, 3) := rfl
set_option maxRecDepth 8000 in
theorem sm_iv_1317 : sm_iv 1317 = some (some 0, 273, 4) := rfl
set_option maxRecDepth 8000 in
theorem sm_iv_1320 : sm_iv 1320 = some (some 0, 281, 5) := rfl
set_option maxRecDepth 8000 in
theorem sm_iv_1323 : sm_iv 1323 = some (some 0, 228, 2) := rfl
set_option maxRecDepth 8000 in
theorem sm_iv_1326 : sm_iv 1326 = some (some 0, 238, 1) := rfl
set_option maxRecDepth 8000 in
theorem sm_iv_1329 : sm_iv 1329 = some (some 0, 287, 5) := rfl
set_option maxRecDepth 8000 in
theorem sm_iv_1332 : sm_iv 1332 = some (some 0, 284, 8) := rfl
set_option maxRecDepth 8000 in
theorem sm_iv_1336 : sm_iv 1336 = some (some 0, 283, 3) := rfl
set_option maxRecDepth 8000 in
theorem sm_iv_1342 : sm_iv 1342 = some (some 0, 286, 7) := rfl
set_option maxRecDepth 8000 in
theorem sm_iv_1346 : sm_iv 1346 = some (some 0, 285, 1) := rfl
set_option maxRecDepth 8000 in
theorem sm_iv_1350 : sm_iv 1350 = some (some 0, 257, 1) := rfl
set_option maxRecDepth 8000 in
theorem sm_iv_1354 : sm_iv 1354 = some (some 0, 233, 1) := rfl
set_option maxRecDepth 8000 in
theorem sm_iv_1361 : sm_iv 1361 = some (some 0, 288, 2) := rfl
set_option maxRecDepth 8000 in
theorem sm_iv_1364 : sm_iv 1364 = some (some 0, 289, 4) := rfl
set_option maxRecDepth 8000 in
theorem sm_iv_1367 : sm_iv 1367 = some (some 0, 290, 3) := rfl
set_option maxRecDepth 8000 in
theorem sm_iv_1370 : sm_iv 1370 = some (some 0, 292, 3) := rfl
set_option maxRecDepth 8000 in
theorem sm_iv_1373 : sm_iv 1373 = some (some 0, 291, 0) := rfl
set_option maxRecDepth 8000 in
theorem sm_iv_1381 : sm_iv 1381 = some (some 0, 293, 0) := rfl
set_option maxRecDepth 8000 in
theorem sm_iv_1384 : sm_iv 1384 = some (some 0, 265, 1) := rfl
set_option maxRecDepth 8000 in
theorem sm_iv_1387 : sm_iv 1387 = some (some 0, 295, 1) := rfl
set_option maxRecDepth 8000 in
theorem sm_iv_1390 : sm_iv 1390 = some (some 0, 296, 2) := rfl
theorem sm_ck_313 : sm_ck 313 = some (.ref 900) := rfl
theorem sm_ck_379 : sm_ck 379 = some (.ref 901) := rfl
theorem sm_ck_387 : sm_ck 387 = some (.ref 902) := rfl
set_option maxRecDepth 8000 in
theorem sm_iv_315 : sm_iv 315 = some (some 999, 1001, 0) := rfl
set_option maxRecDepth 8000 in
theorem sm_iv_320 : sm_iv 320 = some (some 999, 1000, 1) := rfl
set_option maxRecDepth 8000 in
theorem sm_iv_1129 : sm_iv 1129 = some (none, 1002, 1) := rfl
def sm_s900 : List Int32 := [108, 101, 110, 103, 116, 104, 32, 112, 114, 111, 116, 111, 116, 121, 112, 101, 32, 99, 111, 110, 115, 116, 114, 117, 99, 116, 111, 114, 32, 109, 101, 115, 115, 97, 103, 101, 32, 110, 97, 109, 101, 32, 112, 114, 105, 110, 116, 32, 79, 98, 106, 101, 99, 116, 32, 65, 114, 114, 97, 121, 32, 83, 116, 114, 105, 110, 103, 32, 105, 115, 78, 97, 78, 32, 69, 114, 114, 111, 114, 32, 84, 121, 112, 101, 69, 114, 114, 111, 114, 32, 82, 101, 102, 101, 114, 101, 110, 99, 101, 69, 114, 114, 111, 114, 32, 82, 97, 110, 103, 101, 69, 114, 114, 111, 114, 32, 112, 117, 115, 104, 32, 112, 111, 112, 32, 99, 97, 108, 108, 32, 104, 97, 115, 79, 119, 110, 80, 114, 111, 112, 101, 114, 116, 121, 32, 99, 104, 97, 114, 65, 116, 32, 117, 110, 100, 101, 102, 105, 110, 101, 100, 32, 111, 98, 106, 101, 99, 116, 32, 98, 111, 111, 108, 101, 97, 110, 32, 110, 117, 109, 98, 101, 114, 32, 115, 116, 114, 105, 110, 103, 32, 102, 117, 110, 99, 116, 105, 111, 110, 32, 110, 117, 108, 108, 32, 116, 114, 117, 101, 32, 102, 97, 108, 115, 101, 32, 78, 97, 78, 32, 91, 111, 98, 106, 101, 99, 116, 93, 32, 32]
def sm_s901 : List Int32 := [98, 114, 101, 97, 107, 32, 99, 97, 115, 101, 32, 99, 97, 116, 99, 104, 32, 99, 111, 110, 116, 105, 110, 117, 101, 32, 100, 101, 102, 97, 117, 108, 116, 32, 100, 101, 108, 101, 116, 101, 32, 100, 111, 32, 101, 108, 115, 101, 32, 102, 97, 108, 115, 101, 32, 102, 105, 110, 97, 108, 108, 121, 32, 102, 111, 114, 32, 102, 117, 110, 99, 116, 105, 111, 110, 32, 105, 102, 32, 105, 110, 32, 105, 110, 115, 116, 97, 110, 99, 101, 111, 102, 32, 78, 97, 78, 32, 110, 101, 119, 32, 110, 117, 108, 108, 32, 114, 101, 116, 117, 114, 110, 32, 115, 119, 105, 116, 99, 104, 32, 116, 104, 105, 115, 32, 116, 104, 114, 111, 119, 32, 116, 114, 117, 101, 32, 116, 114, 121, 32, 116, 121, 112, 101, 111, 102, 32, 117, 110, 100, 101, 102, 105, 110, 101, 100, 32, 118, 97, 114, 32, 118, 111, 105, 100, 32, 119, 104, 105, 108, 101, 32]
def sm_s902 : List Int32 := [62, 62, 62, 61, 32, 60, 60, 61, 32, 62, 62, 61, 32, 62, 62, 62, 32, 61, 61, 61, 32, 33, 61, 61, 32, 60, 61, 32, 62, 61, 32, 61, 61, 32, 33, 61, 32, 43, 43, 32, 45, 45, 32, 60, 60, 32, 62, 62, 32, 38, 38, 32, 124, 124, 32, 43, 61, 32, 45, 61, 32, 42, 61, 32, 47, 61, 32, 37, 61, 32, 38, 61, 32, 124, 61, 32, 94, 61, 32, 123, 32, 125, 32, 40, 32, 41, 32, 91, 32, 93, 32, 46, 32, 59, 32, 44, 32, 60, 32, 62, 32, 43, 32, 45, 32, 42, 32, 47, 32, 37, 32, 38, 32, 124, 32, 94, 32, 33, 32, 126, 32, 63, 32, 58, 32, 61, 32]
theorem sm_z900 : (sm_s900.length : Int) = 230 := by decide +kernel
theorem sm_y900 : sm_s900.length < 2147483648 := by decide +kernel
def sm_c900 (x : Int) : Int := (sm_s900.getD x.toNat 0).toInt
theorem sm_z901 : (sm_s901.length : Int) = 172 := by decide +kernel
theorem sm_y901 : sm_s901.length < 2147483648 := by decide +kernel
def sm_c901 (x : Int) : Int := (sm_s901.getD x.toNat 0).toInt
theorem sm_z902 : (sm_s902.length : Int) = 127 := by decide +kernel
theorem sm_y902 : sm_s902.length < 2147483648 := by decide +kernel
def sm_c902 (x : Int) : Int := (sm_s902.getD x.toNat 0).toInt
def sm_XS : Nat → Option (List Int32)
  | 900 => some sm_s900
  | 901 => some sm_s901
  | 902 => some sm_s902
  | _ => none
set_option maxRecDepth 8000 in
theorem sm_x900 : sm_XS 900 = some sm_s900 := rfl
set_option maxRecDepth 8000 in
theorem sm_x901 : sm_XS 901 = some sm_s901 := rfl
set_option maxRecDepth 8000 in
theorem sm_x902 : sm_XS 902 = some sm_s902 := rfl
set_option maxRecDepth 8000 in
theorem sm_h1000 : sm_L 1000 = none := rfl
set_option maxRecDepth 8000 in
theorem sm_h1001 : sm_L 1001 = none := rfl
set_option maxRecDepth 8000 in
theorem sm_h1002 : sm_L 1002 = none := rfl
set_option maxRecDepth 8000 in
theorem sm_h1003 : sm_L 1003 = none := rfl
theorem sm_k0 (S : sv_S) : sm_fs[0]?.map (sv_fv S 0 0) = some (sv_I (S 1000 0)) := rfl
theorem sm_q0 : sm_fs[0]? = some (none, .int) := rfl
theorem sm_k1 (S : sv_S) : sm_fs[1]?.map (sv_fv S 0 1) = some (.ref 1) := rfl
theorem sm_k2 (S : sv_S) : sm_fs[2]?.map (sv_fv S 0 2) = some (sv_I (S 1002 0)) := rfl
theorem sm_q2 : sm_fs[2]? = some (none, .int) := rfl
theorem sm_k3 (S : sv_S) : sm_fs[3]?.map (sv_fv S 0 3) = some (.ref 2) := rfl
theorem sm_k4 (S : sv_S) : sm_fs[4]?.map (sv_fv S 0 4) = some (sv_I (S 1004 0)) := rfl
theorem sm_q4 : sm_fs[4]? = some (none, .int) := rfl
theorem sm_k5 (S : sv_S) : sm_fs[5]?.map (sv_fv S 0 5) = some (.ref 3) := rfl
theorem sm_k6 (S : sv_S) : sm_fs[6]?.map (sv_fv S 0 6) = some (.ref 4) := rfl
theorem sm_k7 (S : sv_S) : sm_fs[7]?.map (sv_fv S 0 7) = some (sv_I (S 1007 0)) := rfl
theorem sm_q7 : sm_fs[7]? = some (none, .int) := rfl
theorem sm_k8 (S : sv_S) : sm_fs[8]?.map (sv_fv S 0 8) = some (sv_I (S 1008 0)) := rfl
theorem sm_q8 : sm_fs[8]? = some (none, .int) := rfl
theorem sm_k9 (S : sv_S) : sm_fs[9]?.map (sv_fv S 0 9) = some (sv_I (S 1009 0)) := rfl
theorem sm_q9 : sm_fs[9]? = some (none, .boolean) := rfl
theorem sm_k10 (S : sv_S) : sm_fs[10]?.map (sv_fv S 0 10) = some (.ref 5) := rfl
theorem sm_k11 (S : sv_S) : sm_fs[11]?.map (sv_fv S 0 11) = some (sv_I (S 1011 0)) := rfl
theorem sm_q11 : sm_fs[11]? = some (none, .int) := rfl
theorem sm_k12 (S : sv_S) : sm_fs[12]?.map (sv_fv S 0 12) = some (sv_I (S 1012 0)) := rfl
theorem sm_q12 : sm_fs[12]? = some (none, .int) := rfl
theorem sm_k13 (S : sv_S) : sm_fs[13]?.map (sv_fv S 0 13) = some (.ref 6) := rfl
theorem sm_k14 (S : sv_S) : sm_fs[14]?.map (sv_fv S 0 14) = some (.ref 7) := rfl
theorem sm_k15 (S : sv_S) : sm_fs[15]?.map (sv_fv S 0 15) = some (.ref 8) := rfl
theorem sm_k16 (S : sv_S) : sm_fs[16]?.map (sv_fv S 0 16) = some (.ref 9) := rfl
theorem sm_k17 (S : sv_S) : sm_fs[17]?.map (sv_fv S 0 17) = some (.ref 10) := rfl
theorem sm_k18 (S : sv_S) : sm_fs[18]?.map (sv_fv S 0 18) = some (sv_I (S 1018 0)) := rfl
theorem sm_q18 : sm_fs[18]? = some (none, .int) := rfl
theorem sm_k19 (S : sv_S) : sm_fs[19]?.map (sv_fv S 0 19) = some (sv_I (S 1019 0)) := rfl
theorem sm_q19 : sm_fs[19]? = some (none, .int) := rfl
theorem sm_k20 (S : sv_S) : sm_fs[20]?.map (sv_fv S 0 20) = some (sv_I (S 1020 0)) := rfl
theorem sm_q20 : sm_fs[20]? = some (none, .int) := rfl
theorem sm_k21 (S : sv_S) : sm_fs[21]?.map (sv_fv S 0 21) = some (sv_I (S 1021 0)) := rfl
theorem sm_q21 : sm_fs[21]? = some (none, .int) := rfl
theorem sm_k22 (S : sv_S) : sm_fs[22]?.map (sv_fv S 0 22) = some (sv_I (S 1022 0)) := rfl
theorem sm_q22 : sm_fs[22]? = some (none, .int) := rfl
theorem sm_k23 (S : sv_S) : sm_fs[23]?.map (sv_fv S 0 23) = some (sv_I (S 1023 0)) := rfl
theorem sm_q23 : sm_fs[23]? = some (none, .int) := rfl
theorem sm_k24 (S : sv_S) : sm_fs[24]?.map (sv_fv S 0 24) = some (sv_I (S 1024 0)) := rfl
theorem sm_q24 : sm_fs[24]? = some (none, .int) := rfl
theorem sm_k25 (S : sv_S) : sm_fs[25]?.map (sv_fv S 0 25) = some (.ref 11) := rfl
theorem sm_k26 (S : sv_S) : sm_fs[26]?.map (sv_fv S 0 26) = some (.ref 12) := rfl
theorem sm_k27 (S : sv_S) : sm_fs[27]?.map (sv_fv S 0 27) = some (.ref 13) := rfl
theorem sm_k28 (S : sv_S) : sm_fs[28]?.map (sv_fv S 0 28) = some (.ref 14) := rfl
theorem sm_k29 (S : sv_S) : sm_fs[29]?.map (sv_fv S 0 29) = some (.ref 15) := rfl
theorem sm_k30 (S : sv_S) : sm_fs[30]?.map (sv_fv S 0 30) = some (.ref 16) := rfl
theorem sm_k31 (S : sv_S) : sm_fs[31]?.map (sv_fv S 0 31) = some (sv_I (S 1031 0)) := rfl
theorem sm_q31 : sm_fs[31]? = some (none, .int) := rfl
theorem sm_k32 (S : sv_S) : sm_fs[32]?.map (sv_fv S 0 32) = some (sv_I (S 1032 0)) := rfl
theorem sm_q32 : sm_fs[32]? = some (none, .int) := rfl
theorem sm_k33 (S : sv_S) : sm_fs[33]?.map (sv_fv S 0 33) = some (.ref 17) := rfl
theorem sm_k34 (S : sv_S) : sm_fs[34]?.map (sv_fv S 0 34) = some (.ref 18) := rfl
theorem sm_k35 (S : sv_S) : sm_fs[35]?.map (sv_fv S 0 35) = some (.ref 19) := rfl
theorem sm_k36 (S : sv_S) : sm_fs[36]?.map (sv_fv S 0 36) = some (.ref 20) := rfl
theorem sm_k37 (S : sv_S) : sm_fs[37]?.map (sv_fv S 0 37) = some (.ref 21) := rfl
theorem sm_k38 (S : sv_S) : sm_fs[38]?.map (sv_fv S 0 38) = some (.ref 22) := rfl
theorem sm_k39 (S : sv_S) : sm_fs[39]?.map (sv_fv S 0 39) = some (.ref 23) := rfl
theorem sm_k40 (S : sv_S) : sm_fs[40]?.map (sv_fv S 0 40) = some (.ref 24) := rfl
theorem sm_k41 (S : sv_S) : sm_fs[41]?.map (sv_fv S 0 41) = some (.ref 25) := rfl
theorem sm_k42 (S : sv_S) : sm_fs[42]?.map (sv_fv S 0 42) = some (sv_I (S 1042 0)) := rfl
theorem sm_q42 : sm_fs[42]? = some (none, .int) := rfl
theorem sm_k43 (S : sv_S) : sm_fs[43]?.map (sv_fv S 0 43) = some (sv_I (S 1043 0)) := rfl
theorem sm_q43 : sm_fs[43]? = some (none, .int) := rfl
theorem sm_k44 (S : sv_S) : sm_fs[44]?.map (sv_fv S 0 44) = some (sv_I (S 1044 0)) := rfl
theorem sm_q44 : sm_fs[44]? = some (none, .int) := rfl
theorem sm_k45 (S : sv_S) : sm_fs[45]?.map (sv_fv S 0 45) = some (sv_I (S 1045 0)) := rfl
theorem sm_q45 : sm_fs[45]? = some (none, .int) := rfl
theorem sm_k46 (S : sv_S) : sm_fs[46]?.map (sv_fv S 0 46) = some (sv_I (S 1046 0)) := rfl
theorem sm_q46 : sm_fs[46]? = some (none, .int) := rfl
theorem sm_k47 (S : sv_S) : sm_fs[47]?.map (sv_fv S 0 47) = some (sv_I (S 1047 0)) := rfl
theorem sm_q47 : sm_fs[47]? = some (none, .boolean) := rfl
theorem sm_k48 (S : sv_S) : sm_fs[48]?.map (sv_fv S 0 48) = some (.ref 26) := rfl
theorem sm_k49 (S : sv_S) : sm_fs[49]?.map (sv_fv S 0 49) = some (.ref 27) := rfl
theorem sm_k50 (S : sv_S) : sm_fs[50]?.map (sv_fv S 0 50) = some (.ref 28) := rfl
theorem sm_k51 (S : sv_S) : sm_fs[51]?.map (sv_fv S 0 51) = some (.ref 29) := rfl
theorem sm_k52 (S : sv_S) : sm_fs[52]?.map (sv_fv S 0 52) = some (.ref 30) := rfl
theorem sm_k53 (S : sv_S) : sm_fs[53]?.map (sv_fv S 0 53) = some (sv_I (S 1053 0)) := rfl
theorem sm_q53 : sm_fs[53]? = some (none, .int) := rfl
theorem sm_k54 (S : sv_S) : sm_fs[54]?.map (sv_fv S 0 54) = some (.ref 31) := rfl
theorem sm_k55 (S : sv_S) : sm_fs[55]?.map (sv_fv S 0 55) = some (sv_I (S 1055 0)) := rfl
theorem sm_q55 : sm_fs[55]? = some (none, .int) := rfl
theorem sm_k56 (S : sv_S) : sm_fs[56]?.map (sv_fv S 0 56) = some (sv_I (S 1056 0)) := rfl
theorem sm_q56 : sm_fs[56]? = some (none, .int) := rfl
theorem sm_k57 (S : sv_S) : sm_fs[57]?.map (sv_fv S 0 57) = some (.ref 32) := rfl
theorem sm_k58 (S : sv_S) : sm_fs[58]?.map (sv_fv S 0 58) = some (.ref 33) := rfl
theorem sm_k59 (S : sv_S) : sm_fs[59]?.map (sv_fv S 0 59) = some (sv_I (S 1059 0)) := rfl
theorem sm_q59 : sm_fs[59]? = some (none, .int) := rfl
theorem sm_k60 (S : sv_S) : sm_fs[60]?.map (sv_fv S 0 60) = some (sv_I (S 1060 0)) := rfl
theorem sm_q60 : sm_fs[60]? = some (none, .int) := rfl
theorem sm_k61 (S : sv_S) : sm_fs[61]?.map (sv_fv S 0 61) = some (.ref (S 1061 0).toNat) := rfl
theorem sm_k62 (S : sv_S) : sm_fs[62]?.map (sv_fv S 0 62) = some (.ref (S 1062 0).toNat) := rfl
theorem sm_k63 (S : sv_S) : sm_fs[63]?.map (sv_fv S 0 63) = some (.ref (S 1063 0).toNat) := rfl
theorem sm_k64 (S : sv_S) : sm_fs[64]?.map (sv_fv S 0 64) = some (.ref (S 1064 0).toNat) := rfl
theorem sm_k65 (S : sv_S) : sm_fs[65]?.map (sv_fv S 0 65) = some (.ref (S 1065 0).toNat) := rfl
theorem sm_k66 (S : sv_S) : sm_fs[66]?.map (sv_fv S 0 66) = some (sv_I (S 1066 0)) := rfl
theorem sm_q66 : sm_fs[66]? = some (none, .int) := rfl
theorem sm_k67 (S : sv_S) : sm_fs[67]?.map (sv_fv S 0 67) = some (.ref 39) := rfl
theorem sm_k68 (S : sv_S) : sm_fs[68]?.map (sv_fv S 0 68) = some (sv_I (S 1068 0)) := rfl
theorem sm_q68 : sm_fs[68]? = some (none, .int) := rfl
theorem sm_k69 (S : sv_S) : sm_fs[69]?.map (sv_fv S 0 69) = some (.ref 40) := rfl
theorem sm_k70 (S : sv_S) : sm_fs[70]?.map (sv_fv S 0 70) = some (sv_I (S 1070 0)) := rfl
theorem sm_q70 : sm_fs[70]? = some (none, .int) := rfl
theorem sm_k71 (S : sv_S) : sm_fs[71]?.map (sv_fv S 0 71) = some (sv_I (S 1071 0)) := rfl
theorem sm_q71 : sm_fs[71]? = some (none, .int) := rfl
theorem sm_k72 (S : sv_S) : sm_fs[72]?.map (sv_fv S 0 72) = some (sv_I (S 1072 0)) := rfl
theorem sm_q72 : sm_fs[72]? = some (none, .boolean) := rfl
theorem sm_k73 (S : sv_S) : sm_fs[73]?.map (sv_fv S 0 73) = some (sv_I (S 1073 0)) := rfl
theorem sm_q73 : sm_fs[73]? = some (none, .int) := rfl
theorem sm_k74 (S : sv_S) : sm_fs[74]?.map (sv_fv S 0 74) = some (sv_I (S 1074 0)) := rfl
theorem sm_q74 : sm_fs[74]? = some (none, .int) := rfl
theorem sm_k75 (S : sv_S) : sm_fs[75]?.map (sv_fv S 0 75) = some (sv_I (S 1075 0)) := rfl
theorem sm_q75 : sm_fs[75]? = some (none, .boolean) := rfl
theorem sm_k76 (S : sv_S) : sm_fs[76]?.map (sv_fv S 0 76) = some (sv_I (S 1076 0)) := rfl
theorem sm_q76 : sm_fs[76]? = some (none, .int) := rfl
theorem sm_k77 (S : sv_S) : sm_fs[77]?.map (sv_fv S 0 77) = some (.ref 41) := rfl
theorem sm_k78 (S : sv_S) : sm_fs[78]?.map (sv_fv S 0 78) = some (.ref 42) := rfl
theorem sm_k79 (S : sv_S) : sm_fs[79]?.map (sv_fv S 0 79) = some (.ref 43) := rfl
theorem sm_k80 (S : sv_S) : sm_fs[80]?.map (sv_fv S 0 80) = some (.ref 44) := rfl
theorem sm_k81 (S : sv_S) : sm_fs[81]?.map (sv_fv S 0 81) = some (.ref 45) := rfl
theorem sm_k82 (S : sv_S) : sm_fs[82]?.map (sv_fv S 0 82) = some (.ref 46) := rfl
theorem sm_k83 (S : sv_S) : sm_fs[83]?.map (sv_fv S 0 83) = some (.ref 47) := rfl
theorem sm_k84 (S : sv_S) : sm_fs[84]?.map (sv_fv S 0 84) = some (sv_I (S 1084 0)) := rfl
theorem sm_q84 : sm_fs[84]? = some (none, .int) := rfl
theorem sm_k85 (S : sv_S) : sm_fs[85]?.map (sv_fv S 0 85) = some (sv_I (S 1085 0)) := rfl
theorem sm_q85 : sm_fs[85]? = some (none, .int) := rfl
theorem sm_k86 (S : sv_S) : sm_fs[86]?.map (sv_fv S 0 86) = some (sv_I (S 1086 0)) := rfl
theorem sm_q86 : sm_fs[86]? = some (none, .int) := rfl
theorem sm_k87 (S : sv_S) : sm_fs[87]?.map (sv_fv S 0 87) = some (.ref 48) := rfl
theorem sm_k88 (S : sv_S) : sm_fs[88]?.map (sv_fv S 0 88) = some (.ref 49) := rfl
theorem sm_k89 (S : sv_S) : sm_fs[89]?.map (sv_fv S 0 89) = some (.ref 50) := rfl
theorem sm_k90 (S : sv_S) : sm_fs[90]?.map (sv_fv S 0 90) = some (.ref 51) := rfl
theorem sm_k91 (S : sv_S) : sm_fs[91]?.map (sv_fv S 0 91) = some (.ref 52) := rfl
theorem sm_k92 (S : sv_S) : sm_fs[92]?.map (sv_fv S 0 92) = some (sv_I (S 1092 0)) := rfl
theorem sm_q92 : sm_fs[92]? = some (none, .int) := rfl
theorem sm_k93 (S : sv_S) : sm_fs[93]?.map (sv_fv S 0 93) = some (.ref 53) := rfl
theorem sm_k94 (S : sv_S) : sm_fs[94]?.map (sv_fv S 0 94) = some (.ref 54) := rfl
theorem sm_k95 (S : sv_S) : sm_fs[95]?.map (sv_fv S 0 95) = some (.ref 55) := rfl
theorem sm_k96 (S : sv_S) : sm_fs[96]?.map (sv_fv S 0 96) = some (.ref 56) := rfl
theorem sm_k97 (S : sv_S) : sm_fs[97]?.map (sv_fv S 0 97) = some (.ref 57) := rfl
theorem sm_k98 (S : sv_S) : sm_fs[98]?.map (sv_fv S 0 98) = some (.ref 58) := rfl
theorem sm_k99 (S : sv_S) : sm_fs[99]?.map (sv_fv S 0 99) = some (.ref 59) := rfl
theorem sm_k100 (S : sv_S) : sm_fs[100]?.map (sv_fv S 0 100) = some (.ref 60) := rfl
theorem sm_k101 (S : sv_S) : sm_fs[101]?.map (sv_fv S 0 101) = some (.ref 61) := rfl
theorem sm_k102 (S : sv_S) : sm_fs[102]?.map (sv_fv S 0 102) = some (.ref 62) := rfl
theorem sm_k103 (S : sv_S) : sm_fs[103]?.map (sv_fv S 0 103) = some (.ref 63) := rfl
theorem sm_k104 (S : sv_S) : sm_fs[104]?.map (sv_fv S 0 104) = some (.ref 64) := rfl
theorem sm_k105 (S : sv_S) : sm_fs[105]?.map (sv_fv S 0 105) = some (.ref 65) := rfl
theorem sm_k106 (S : sv_S) : sm_fs[106]?.map (sv_fv S 0 106) = some (.ref 66) := rfl
theorem sm_k107 (S : sv_S) : sm_fs[107]?.map (sv_fv S 0 107) = some (sv_I (S 1107 0)) := rfl
theorem sm_q107 : sm_fs[107]? = some (none, .int) := rfl
theorem sm_k108 (S : sv_S) : sm_fs[108]?.map (sv_fv S 0 108) = some (.ref 67) := rfl
theorem sm_k109 (S : sv_S) : sm_fs[109]?.map (sv_fv S 0 109) = some (sv_I (S 1109 0)) := rfl
theorem sm_q109 : sm_fs[109]? = some (none, .int) := rfl
theorem sm_k110 (S : sv_S) : sm_fs[110]?.map (sv_fv S 0 110) = some (sv_I (S 1110 0)) := rfl
theorem sm_q110 : sm_fs[110]? = some (none, .int) := rfl
theorem sm_k111 (S : sv_S) : sm_fs[111]?.map (sv_fv S 0 111) = some (sv_I (S 1111 0)) := rfl
theorem sm_q111 : sm_fs[111]? = some (none, .int) := rfl
theorem sm_k112 (S : sv_S) : sm_fs[112]?.map (sv_fv S 0 112) = some (sv_I (S 1112 0)) := rfl
theorem sm_q112 : sm_fs[112]? = some (none, .int) := rfl
theorem sm_k113 (S : sv_S) : sm_fs[113]?.map (sv_fv S 0 113) = some (sv_I (S 1113 0)) := rfl
theorem sm_q113 : sm_fs[113]? = some (none, .boolean) := rfl
theorem sm_k114 (S : sv_S) : sm_fs[114]?.map (sv_fv S 0 114) = some (sv_I (S 1114 0)) := rfl
theorem sm_q114 : sm_fs[114]? = some (none, .int) := rfl
theorem sm_k115 (S : sv_S) : sm_fs[115]?.map (sv_fv S 0 115) = some (sv_I (S 1115 0)) := rfl
theorem sm_q115 : sm_fs[115]? = some (none, .int) := rfl
theorem sm_k116 (S : sv_S) : sm_fs[116]?.map (sv_fv S 0 116) = some (.ref 68) := rfl
theorem sm_k117 (S : sv_S) : sm_fs[117]?.map (sv_fv S 0 117) = some (.ref 69) := rfl
theorem sm_k118 (S : sv_S) : sm_fs[118]?.map (sv_fv S 0 118) = some (.ref 70) := rfl
theorem sm_k119 (S : sv_S) : sm_fs[119]?.map (sv_fv S 0 119) = some (sv_I (S 1119 0)) := rfl
theorem sm_q119 : sm_fs[119]? = some (none, .boolean) := rfl
theorem sm_k120 (S : sv_S) : sm_fs[120]?.map (sv_fv S 0 120) = some (sv_I (S 1120 0)) := rfl
theorem sm_q120 : sm_fs[120]? = some (none, .int) := rfl
theorem sm_k121 (S : sv_S) : sm_fs[121]?.map (sv_fv S 0 121) = some (sv_I (S 1121 0)) := rfl
theorem sm_q121 : sm_fs[121]? = some (none, .int) := rfl
theorem sm_k122 (S : sv_S) : sm_fs[122]?.map (sv_fv S 0 122) = some (.ref 71) := rfl
theorem sm_k123 (S : sv_S) : sm_fs[123]?.map (sv_fv S 0 123) = some (.ref 72) := rfl
theorem sm_k124 (S : sv_S) : sm_fs[124]?.map (sv_fv S 0 124) = some (.ref 73) := rfl
theorem sm_k125 (S : sv_S) : sm_fs[125]?.map (sv_fv S 0 125) = some (.ref 74) := rfl
theorem sm_k126 (S : sv_S) : sm_fs[126]?.map (sv_fv S 0 126) = some (.ref 75) := rfl
theorem sm_k127 (S : sv_S) : sm_fs[127]?.map (sv_fv S 0 127) = some (sv_I (S 1127 0)) := rfl
theorem sm_q127 : sm_fs[127]? = some (none, .int) := rfl
theorem sm_k128 (S : sv_S) : sm_fs[128]?.map (sv_fv S 0 128) = some (.ref 76) := rfl
theorem sm_k129 (S : sv_S) : sm_fs[129]?.map (sv_fv S 0 129) = some (.ref 77) := rfl
theorem sm_k130 (S : sv_S) : sm_fs[130]?.map (sv_fv S 0 130) = some (.ref 78) := rfl
theorem sm_k131 (S : sv_S) : sm_fs[131]?.map (sv_fv S 0 131) = some (.ref 79) := rfl
theorem sm_k132 (S : sv_S) : sm_fs[132]?.map (sv_fv S 0 132) = some (.ref 80) := rfl
theorem sm_k133 (S : sv_S) : sm_fs[133]?.map (sv_fv S 0 133) = some (.ref 81) := rfl
theorem sm_k134 (S : sv_S) : sm_fs[134]?.map (sv_fv S 0 134) = some (.ref 82) := rfl
theorem sm_k135 (S : sv_S) : sm_fs[135]?.map (sv_fv S 0 135) = some (.ref 83) := rfl
theorem sm_k136 (S : sv_S) : sm_fs[136]?.map (sv_fv S 0 136) = some (.ref 84) := rfl
theorem sm_k137 (S : sv_S) : sm_fs[137]?.map (sv_fv S 0 137) = some (.ref 85) := rfl
theorem sm_k138 (S : sv_S) : sm_fs[138]?.map (sv_fv S 0 138) = some (.ref 86) := rfl
theorem sm_k139 (S : sv_S) : sm_fs[139]?.map (sv_fv S 0 139) = some (.ref 87) := rfl
theorem sm_k140 (S : sv_S) : sm_fs[140]?.map (sv_fv S 0 140) = some (.ref 88) := rfl
theorem sm_k141 (S : sv_S) : sm_fs[141]?.map (sv_fv S 0 141) = some (.ref 89) := rfl
theorem sm_k142 (S : sv_S) : sm_fs[142]?.map (sv_fv S 0 142) = some (.ref 90) := rfl
theorem sm_k143 (S : sv_S) : sm_fs[143]?.map (sv_fv S 0 143) = some (sv_L (S 1143 0)) := rfl
theorem sm_q143 : sm_fs[143]? = some (none, .long) := rfl
theorem sm_k144 (S : sv_S) : sm_fs[144]?.map (sv_fv S 0 144) = some (sv_L (S 1144 0)) := rfl
theorem sm_q144 : sm_fs[144]? = some (none, .long) := rfl
theorem sm_k145 (S : sv_S) : sm_fs[145]?.map (sv_fv S 0 145) = some (sv_I (S 1145 0)) := rfl
theorem sm_q145 : sm_fs[145]? = some (none, .boolean) := rfl
theorem sm_k146 (S : sv_S) : sm_fs[146]?.map (sv_fv S 0 146) = some (.ref 91) := rfl
theorem sm_k147 (S : sv_S) : sm_fs[147]?.map (sv_fv S 0 147) = some (sv_I (S 1147 0)) := rfl
theorem sm_q147 : sm_fs[147]? = some (none, .int) := rfl
theorem sm_k148 (S : sv_S) : sm_fs[148]?.map (sv_fv S 0 148) = some (sv_I (S 1148 0)) := rfl
theorem sm_q148 : sm_fs[148]? = some (none, .int) := rfl
theorem sm_k149 (S : sv_S) : sm_fs[149]?.map (sv_fv S 0 149) = some (sv_I (S 1149 0)) := rfl
theorem sm_q149 : sm_fs[149]? = some (none, .int) := rfl
theorem sm_k150 (S : sv_S) : sm_fs[150]?.map (sv_fv S 0 150) = some (sv_I (S 1150 0)) := rfl
theorem sm_q150 : sm_fs[150]? = some (none, .boolean) := rfl
theorem sm_a1 (S : sv_S) : (sm_sh S)[1]? = some (.inl (.byte, 4000)) := rfl
theorem sm_a2 (S : sv_S) : (sm_sh S)[2]? = some (.inl (.byte, 4000)) := rfl
theorem sm_a3 (S : sv_S) : (sm_sh S)[3]? = some (.inl (.char, 24000)) := rfl
theorem sm_a4 (S : sv_S) : (sm_sh S)[4]? = some (.inl (.int, 400)) := rfl
theorem sm_a5 (S : sv_S) : (sm_sh S)[5]? = some (.inl (.char, 200)) := rfl
theorem sm_a6 (S : sv_S) : (sm_sh S)[6]? = some (.inl (.int, 4002)) := rfl
theorem sm_a7 (S : sv_S) : (sm_sh S)[7]? = some (.inl (.int, 4002)) := rfl
theorem sm_a8 (S : sv_S) : (sm_sh S)[8]? = some (.inl (.int, 4002)) := rfl
theorem sm_a9 (S : sv_S) : (sm_sh S)[9]? = some (.inl (.int, 4002)) := rfl
theorem sm_a10 (S : sv_S) : (sm_sh S)[10]? = some (.inl (.int, 4002)) := rfl
theorem sm_a11 (S : sv_S) : (sm_sh S)[11]? = some (.inl (.int, 12000)) := rfl
theorem sm_a12 (S : sv_S) : (sm_sh S)[12]? = some (.inl (.int, 60000)) := rfl
theorem sm_a13 (S : sv_S) : (sm_sh S)[13]? = some (.inl (.int, 12000)) := rfl
theorem sm_a14 (S : sv_S) : (sm_sh S)[14]? = some (.inl (.boolean, 12000)) := rfl
theorem sm_a15 (S : sv_S) : (sm_sh S)[15]? = some (.inl (.int, 200)) := rfl
theorem sm_a16 (S : sv_S) : (sm_sh S)[16]? = some (.inl (.int, 200)) := rfl
theorem sm_a17 (S : sv_S) : (sm_sh S)[17]? = some (.inl (.int, 12)) := rfl
theorem sm_a18 (S : sv_S) : (sm_sh S)[18]? = some (.inl (.boolean, 12)) := rfl
theorem sm_a19 (S : sv_S) : (sm_sh S)[19]? = some (.inl (.int, 96)) := rfl
theorem sm_a20 (S : sv_S) : (sm_sh S)[20]? = some (.inl (.int, 12)) := rfl
theorem sm_a21 (S : sv_S) : (sm_sh S)[21]? = some (.inl (.int, 12)) := rfl
theorem sm_a22 (S : sv_S) : (sm_sh S)[22]? = some (.inl (.int, 12)) := rfl
theorem sm_a23 (S : sv_S) : (sm_sh S)[23]? = some (.inl (.int, 1200)) := rfl
theorem sm_a24 (S : sv_S) : (sm_sh S)[24]? = some (.inl (.int, 12)) := rfl
theorem sm_a25 (S : sv_S) : (sm_sh S)[25]? = some (.inl (.int, 100)) := rfl
theorem sm_a26 (S : sv_S) : (sm_sh S)[26]? = some (.inl (.int, 600)) := rfl
theorem sm_a27 (S : sv_S) : (sm_sh S)[27]? = some (.inl (.int, 600)) := rfl
theorem sm_a28 (S : sv_S) : (sm_sh S)[28]? = some (.inl (.int, 600)) := rfl
theorem sm_a29 (S : sv_S) : (sm_sh S)[29]? = some (.inl (.int, 600)) := rfl
theorem sm_a30 (S : sv_S) : (sm_sh S)[30]? = some (.inl (.int, 12)) := rfl
theorem sm_a31 (S : sv_S) : (sm_sh S)[31]? = some (.inl (.int, 8000)) := rfl
theorem sm_a32 (S : sv_S) : (sm_sh S)[32]? = some (.inl (.int, 1200)) := rfl
theorem sm_a33 (S : sv_S) : (sm_sh S)[33]? = some (.inl (.int, 12)) := rfl
theorem sm_a34 (S : sv_S) : (sm_sh S)[34]? = some (.inl (.int, 2000)) := rfl
theorem sm_a35 (S : sv_S) : (sm_sh S)[35]? = some (.inl (.int, 2000)) := rfl
theorem sm_a36 (S : sv_S) : (sm_sh S)[36]? = some (.inl (.int, 2000)) := rfl
theorem sm_a37 (S : sv_S) : (sm_sh S)[37]? = some (.inl (.int, 2000)) := rfl
theorem sm_a38 (S : sv_S) : (sm_sh S)[38]? = some (.inl (.int, 2000)) := rfl
theorem sm_a39 (S : sv_S) : (sm_sh S)[39]? = some (.inl (.int, 12000)) := rfl
theorem sm_a40 (S : sv_S) : (sm_sh S)[40]? = some (.inl (.int, 12000)) := rfl
theorem sm_a41 (S : sv_S) : (sm_sh S)[41]? = some (.inl (.int, 300)) := rfl
theorem sm_a42 (S : sv_S) : (sm_sh S)[42]? = some (.inl (.int, 300)) := rfl
theorem sm_a43 (S : sv_S) : (sm_sh S)[43]? = some (.inl (.int, 300)) := rfl
theorem sm_a44 (S : sv_S) : (sm_sh S)[44]? = some (.inl (.int, 300)) := rfl
theorem sm_a45 (S : sv_S) : (sm_sh S)[45]? = some (.inl (.int, 300)) := rfl
theorem sm_a46 (S : sv_S) : (sm_sh S)[46]? = some (.inl (.int, 300)) := rfl
theorem sm_a47 (S : sv_S) : (sm_sh S)[47]? = some (.inl (.int, 300)) := rfl
theorem sm_a48 (S : sv_S) : (sm_sh S)[48]? = some (.inl (.int, 3000)) := rfl
theorem sm_a49 (S : sv_S) : (sm_sh S)[49]? = some (.inl (.int, 3000)) := rfl
theorem sm_a50 (S : sv_S) : (sm_sh S)[50]? = some (.inl (.int, 3000)) := rfl
theorem sm_a51 (S : sv_S) : (sm_sh S)[51]? = some (.inl (.int, 3000)) := rfl
theorem sm_a52 (S : sv_S) : (sm_sh S)[52]? = some (.inl (.int, 3000)) := rfl
theorem sm_a53 (S : sv_S) : (sm_sh S)[53]? = some (.inl (.int, 24)) := rfl
theorem sm_a54 (S : sv_S) : (sm_sh S)[54]? = some (.inl (.int, 24)) := rfl
theorem sm_a55 (S : sv_S) : (sm_sh S)[55]? = some (.inl (.int, 24)) := rfl
theorem sm_a56 (S : sv_S) : (sm_sh S)[56]? = some (.inl (.int, 24)) := rfl
theorem sm_a57 (S : sv_S) : (sm_sh S)[57]? = some (.inl (.int, 24)) := rfl
theorem sm_a58 (S : sv_S) : (sm_sh S)[58]? = some (.inl (.int, 24)) := rfl
theorem sm_a59 (S : sv_S) : (sm_sh S)[59]? = some (.inl (.int, 24)) := rfl
theorem sm_a60 (S : sv_S) : (sm_sh S)[60]? = some (.inl (.int, 24)) := rfl
theorem sm_a61 (S : sv_S) : (sm_sh S)[61]? = some (.inl (.int, 960)) := rfl
theorem sm_a62 (S : sv_S) : (sm_sh S)[62]? = some (.inl (.int, 960)) := rfl
theorem sm_a63 (S : sv_S) : (sm_sh S)[63]? = some (.inl (.int, 9600)) := rfl
theorem sm_a64 (S : sv_S) : (sm_sh S)[64]? = some (.inl (.int, 9600)) := rfl
theorem sm_a65 (S : sv_S) : (sm_sh S)[65]? = some (.inl (.int, 9600)) := rfl
theorem sm_a66 (S : sv_S) : (sm_sh S)[66]? = some (.inl (.int, 9600)) := rfl
theorem sm_a67 (S : sv_S) : (sm_sh S)[67]? = some (.inl (.int, 100)) := rfl
theorem sm_a68 (S : sv_S) : (sm_sh S)[68]? = some (.inl (.long, 647800)) := rfl
theorem sm_a69 (S : sv_S) : (sm_sh S)[69]? = some (.inl (.long, 647800)) := rfl
theorem sm_a70 (S : sv_S) : (sm_sh S)[70]? = some (.inl (.long, 647800)) := rfl
theorem sm_a71 (S : sv_S) : (sm_sh S)[71]? = some (.inl (.boolean, 640)) := rfl
theorem sm_a72 (S : sv_S) : (sm_sh S)[72]? = some (.inl (.boolean, 640)) := rfl
theorem sm_a73 (S : sv_S) : (sm_sh S)[73]? = some (.inl (.int, 640)) := rfl
theorem sm_a74 (S : sv_S) : (sm_sh S)[74]? = some (.inl (.int, 640)) := rfl
theorem sm_a75 (S : sv_S) : (sm_sh S)[75]? = some (.inl (.int, 640)) := rfl
theorem sm_a76 (S : sv_S) : (sm_sh S)[76]? = some (.inl (.long, 640)) := rfl
theorem sm_a77 (S : sv_S) : (sm_sh S)[77]? = some (.inl (.long, 640)) := rfl
theorem sm_a78 (S : sv_S) : (sm_sh S)[78]? = some (.inl (.int, 640)) := rfl
theorem sm_a79 (S : sv_S) : (sm_sh S)[79]? = some (.inl (.int, 25600)) := rfl
theorem sm_a80 (S : sv_S) : (sm_sh S)[80]? = some (.inl (.int, 25600)) := rfl
theorem sm_a81 (S : sv_S) : (sm_sh S)[81]? = some (.inl (.boolean, 15128)) := rfl
theorem sm_a82 (S : sv_S) : (sm_sh S)[82]? = some (.inl (.boolean, 15128)) := rfl
theorem sm_a83 (S : sv_S) : (sm_sh S)[83]? = some (.inl (.long, 15128)) := rfl
theorem sm_a84 (S : sv_S) : (sm_sh S)[84]? = some (.inl (.long, 15128)) := rfl
theorem sm_a85 (S : sv_S) : (sm_sh S)[85]? = some (.inl (.long, 15128)) := rfl
theorem sm_a86 (S : sv_S) : (sm_sh S)[86]? = some (.inl (.long, 15128)) := rfl
theorem sm_a87 (S : sv_S) : (sm_sh S)[87]? = some (.inl (.boolean, 90)) := rfl
theorem sm_a88 (S : sv_S) : (sm_sh S)[88]? = some (.inl (.boolean, 90)) := rfl
theorem sm_a89 (S : sv_S) : (sm_sh S)[89]? = some (.inl (.boolean, 90)) := rfl
theorem sm_a90 (S : sv_S) : (sm_sh S)[90]? = some (.inl (.boolean, 20)) := rfl
theorem sm_a91 (S : sv_S) : (sm_sh S)[91]? = some (.inl (.int, 12)) := rfl
theorem sm_a0 (S : sv_S) : (sm_sh S)[0]? = some (.inr (0, sm_fs)) := rfl
def sm_rkL : List (Nat × Nat) := [(1, 2), (2, 2), (3, 3), (5, 3), (14, 4), (18, 4), (68, 1), (69, 1), (70, 1), (71, 4), (72, 4), (76, 1), (77, 1), (81, 4), (82, 4), (83, 1), (84, 1), (85, 1), (86, 1), (87, 4), (88, 4), (89, 4), (90, 4), (1009, 4), (1047, 4), (1072, 4), (1075, 4), (1113, 4), (1119, 4), (1143, 1), (1144, 1), (1145, 4), (1150, 4)]
def sm_rk (j : Nat) : Nat := match sm_rkL.lookup j with | some k => k | none => 0
theorem sm_r1100001 : sm_rk 1100001 = 0 := rfl
theorem sm_r1100002 : sm_rk 1100002 = 0 := rfl
theorem sm_r1100003 : sm_rk 1100003 = 0 := rfl
theorem sm_r1100004 : sm_rk 1100004 = 0 := rfl
theorem sm_r1100005 : sm_rk 1100005 = 0 := rfl
theorem sm_r1100006 : sm_rk 1100006 = 0 := rfl
theorem sm_r1100007 : sm_rk 1100007 = 0 := rfl
theorem sm_r1100008 : sm_rk 1100008 = 0 := rfl
theorem sm_r1100009 : sm_rk 1100009 = 0 := rfl
theorem sm_r1100010 : sm_rk 1100010 = 0 := rfl
theorem sm_r1100011 : sm_rk 1100011 = 0 := rfl
theorem sm_r1100012 : sm_rk 1100012 = 0 := rfl
theorem sm_r1100013 : sm_rk 1100013 = 0 := rfl
theorem sm_r1100014 : sm_rk 1100014 = 0 := rfl
theorem sm_r1100015 : sm_rk 1100015 = 0 := rfl
theorem sm_r1100016 : sm_rk 1100016 = 0 := rfl
theorem sm_r1100017 : sm_rk 1100017 = 0 := rfl
theorem sm_r1100018 : sm_rk 1100018 = 0 := rfl
theorem sm_r1100019 : sm_rk 1100019 = 0 := rfl
theorem sm_r1100020 : sm_rk 1100020 = 0 := rfl
theorem sm_r1100021 : sm_rk 1100021 = 0 := rfl
theorem sm_r1100022 : sm_rk 1100022 = 0 := rfl
theorem sm_r1100023 : sm_rk 1100023 = 0 := rfl
theorem sm_r1100024 : sm_rk 1100024 = 0 := rfl
theorem sm_r1100025 : sm_rk 1100025 = 0 := rfl
theorem sm_r1100026 : sm_rk 1100026 = 0 := rfl
theorem sm_r1100027 : sm_rk 1100027 = 0 := rfl
theorem sm_r1100028 : sm_rk 1100028 = 0 := rfl
theorem sm_r1100029 : sm_rk 1100029 = 0 := rfl
theorem sm_r1100030 : sm_rk 1100030 = 0 := rfl
theorem sm_r1100031 : sm_rk 1100031 = 0 := rfl
theorem sm_r1100032 : sm_rk 1100032 = 0 := rfl
theorem sm_r1100033 : sm_rk 1100033 = 0 := rfl
theorem sm_r1100034 : sm_rk 1100034 = 0 := rfl
theorem sm_r1100035 : sm_rk 1100035 = 0 := rfl
theorem sm_r1100036 : sm_rk 1100036 = 0 := rfl
theorem sm_r1100037 : sm_rk 1100037 = 0 := rfl
theorem sm_r1100038 : sm_rk 1100038 = 0 := rfl
theorem sm_r1100039 : sm_rk 1100039 = 0 := rfl
theorem sm_r1100040 : sm_rk 1100040 = 0 := rfl
theorem sm_r1000 : sm_rk 1000 = 0 := rfl
theorem sm_r1 : sm_rk 1 = 2 := rfl
theorem sm_r1002 : sm_rk 1002 = 0 := rfl
theorem sm_r2 : sm_rk 2 = 2 := rfl
theorem sm_r1004 : sm_rk 1004 = 0 := rfl
theorem sm_r3 : sm_rk 3 = 3 := rfl
theorem sm_r4 : sm_rk 4 = 0 := rfl
theorem sm_r1007 : sm_rk 1007 = 0 := rfl
theorem sm_r1008 : sm_rk 1008 = 0 := rfl
theorem sm_r1009 : sm_rk 1009 = 4 := rfl
theorem sm_r5 : sm_rk 5 = 3 := rfl
theorem sm_r1011 : sm_rk 1011 = 0 := rfl
theorem sm_r1012 : sm_rk 1012 = 0 := rfl
theorem sm_r6 : sm_rk 6 = 0 := rfl
theorem sm_r7 : sm_rk 7 = 0 := rfl
theorem sm_r8 : sm_rk 8 = 0 := rfl
theorem sm_r9 : sm_rk 9 = 0 := rfl
theorem sm_r10 : sm_rk 10 = 0 := rfl
theorem sm_r1018 : sm_rk 1018 = 0 := rfl
theorem sm_r1019 : sm_rk 1019 = 0 := rfl
theorem sm_r1020 : sm_rk 1020 = 0 := rfl
theorem sm_r1021 : sm_rk 1021 = 0 := rfl
theorem sm_r1022 : sm_rk 1022 = 0 := rfl
theorem sm_r1023 : sm_rk 1023 = 0 := rfl
theorem sm_r1024 : sm_rk 1024 = 0 := rfl
theorem sm_r11 : sm_rk 11 = 0 := rfl
theorem sm_r12 : sm_rk 12 = 0 := rfl
theorem sm_r13 : sm_rk 13 = 0 := rfl
theorem sm_r14 : sm_rk 14 = 4 := rfl
theorem sm_r15 : sm_rk 15 = 0 := rfl
theorem sm_r16 : sm_rk 16 = 0 := rfl
theorem sm_r1031 : sm_rk 1031 = 0 := rfl
theorem sm_r1032 : sm_rk 1032 = 0 := rfl
theorem sm_r17 : sm_rk 17 = 0 := rfl
theorem sm_r18 : sm_rk 18 = 4 := rfl
theorem sm_r19 : sm_rk 19 = 0 := rfl
theorem sm_r20 : sm_rk 20 = 0 := rfl
theorem sm_r21 : sm_rk 21 = 0 := rfl
theorem sm_r22 : sm_rk 22 = 0 := rfl
theorem sm_r23 : sm_rk 23 = 0 := rfl
theorem sm_r24 : sm_rk 24 = 0 := rfl
theorem sm_r25 : sm_rk 25 = 0 := rfl
theorem sm_r1042 : sm_rk 1042 = 0 := rfl
theorem sm_r1043 : sm_rk 1043 = 0 := rfl
theorem sm_r1044 : sm_rk 1044 = 0 := rfl
theorem sm_r1045 : sm_rk 1045 = 0 := rfl
theorem sm_r1046 : sm_rk 1046 = 0 := rfl
theorem sm_r1047 : sm_rk 1047 = 4 := rfl
theorem sm_r26 : sm_rk 26 = 0 := rfl
theorem sm_r27 : sm_rk 27 = 0 := rfl
theorem sm_r28 : sm_rk 28 = 0 := rfl
theorem sm_r29 : sm_rk 29 = 0 := rfl
theorem sm_r30 : sm_rk 30 = 0 := rfl
theorem sm_r1053 : sm_rk 1053 = 0 := rfl
theorem sm_r31 : sm_rk 31 = 0 := rfl
theorem sm_r1055 : sm_rk 1055 = 0 := rfl
theorem sm_r1056 : sm_rk 1056 = 0 := rfl
theorem sm_r32 : sm_rk 32 = 0 := rfl
theorem sm_r33 : sm_rk 33 = 0 := rfl
theorem sm_r1059 : sm_rk 1059 = 0 := rfl
theorem sm_r1060 : sm_rk 1060 = 0 := rfl
theorem sm_r34 : sm_rk 34 = 0 := rfl
theorem sm_r35 : sm_rk 35 = 0 := rfl
theorem sm_r36 : sm_rk 36 = 0 := rfl
theorem sm_r37 : sm_rk 37 = 0 := rfl
theorem sm_r38 : sm_rk 38 = 0 := rfl
theorem sm_r1066 : sm_rk 1066 = 0 := rfl
theorem sm_r39 : sm_rk 39 = 0 := rfl
theorem sm_r1068 : sm_rk 1068 = 0 := rfl
theorem sm_r40 : sm_rk 40 = 0 := rfl
theorem sm_r1070 : sm_rk 1070 = 0 := rfl
theorem sm_r1071 : sm_rk 1071 = 0 := rfl
theorem sm_r1072 : sm_rk 1072 = 4 := rfl
theorem sm_r1073 : sm_rk 1073 = 0 := rfl
theorem sm_r1074 : sm_rk 1074 = 0 := rfl
theorem sm_r1075 : sm_rk 1075 = 4 := rfl
theorem sm_r1076 : sm_rk 1076 = 0 := rfl
theorem sm_r41 : sm_rk 41 = 0 := rfl
theorem sm_r42 : sm_rk 42 = 0 := rfl
theorem sm_r43 : sm_rk 43 = 0 := rfl
theorem sm_r44 : sm_rk 44 = 0 := rfl
theorem sm_r45 : sm_rk 45 = 0 := rfl
theorem sm_r46 : sm_rk 46 = 0 := rfl
theorem sm_r47 : sm_rk 47 = 0 := rfl
theorem sm_r1084 : sm_rk 1084 = 0 := rfl
theorem sm_r1085 : sm_rk 1085 = 0 := rfl
theorem sm_r1086 : sm_rk 1086 = 0 := rfl
theorem sm_r48 : sm_rk 48 = 0 := rfl
theorem sm_r49 : sm_rk 49 = 0 := rfl
theorem sm_r50 : sm_rk 50 = 0 := rfl
theorem sm_r51 : sm_rk 51 = 0 := rfl
theorem sm_r52 : sm_rk 52 = 0 := rfl
theorem sm_r1092 : sm_rk 1092 = 0 := rfl
theorem sm_r53 : sm_rk 53 = 0 := rfl
theorem sm_r54 : sm_rk 54 = 0 := rfl
theorem sm_r55 : sm_rk 55 = 0 := rfl
theorem sm_r56 : sm_rk 56 = 0 := rfl
theorem sm_r57 : sm_rk 57 = 0 := rfl
theorem sm_r58 : sm_rk 58 = 0 := rfl
theorem sm_r59 : sm_rk 59 = 0 := rfl
theorem sm_r60 : sm_rk 60 = 0 := rfl
theorem sm_r61 : sm_rk 61 = 0 := rfl
theorem sm_r62 : sm_rk 62 = 0 := rfl
theorem sm_r63 : sm_rk 63 = 0 := rfl
theorem sm_r64 : sm_rk 64 = 0 := rfl
theorem sm_r65 : sm_rk 65 = 0 := rfl
theorem sm_r66 : sm_rk 66 = 0 := rfl
theorem sm_r1107 : sm_rk 1107 = 0 := rfl
theorem sm_r67 : sm_rk 67 = 0 := rfl
theorem sm_r1109 : sm_rk 1109 = 0 := rfl
theorem sm_r1110 : sm_rk 1110 = 0 := rfl
theorem sm_r1111 : sm_rk 1111 = 0 := rfl
theorem sm_r1112 : sm_rk 1112 = 0 := rfl
theorem sm_r1113 : sm_rk 1113 = 4 := rfl
theorem sm_r1114 : sm_rk 1114 = 0 := rfl
theorem sm_r1115 : sm_rk 1115 = 0 := rfl
theorem sm_r68 : sm_rk 68 = 1 := rfl
theorem sm_r69 : sm_rk 69 = 1 := rfl
theorem sm_r70 : sm_rk 70 = 1 := rfl
theorem sm_r1119 : sm_rk 1119 = 4 := rfl
theorem sm_r1120 : sm_rk 1120 = 0 := rfl
theorem sm_r1121 : sm_rk 1121 = 0 := rfl
theorem sm_r71 : sm_rk 71 = 4 := rfl
theorem sm_r72 : sm_rk 72 = 4 := rfl
theorem sm_r73 : sm_rk 73 = 0 := rfl
theorem sm_r74 : sm_rk 74 = 0 := rfl
theorem sm_r75 : sm_rk 75 = 0 := rfl
theorem sm_r1127 : sm_rk 1127 = 0 := rfl
theorem sm_r76 : sm_rk 76 = 1 := rfl
theorem sm_r77 : sm_rk 77 = 1 := rfl
theorem sm_r78 : sm_rk 78 = 0 := rfl
theorem sm_r79 : sm_rk 79 = 0 := rfl
theorem sm_r80 : sm_rk 80 = 0 := rfl
theorem sm_r81 : sm_rk 81 = 4 := rfl
theorem sm_r82 : sm_rk 82 = 4 := rfl
theorem sm_r83 : sm_rk 83 = 1 := rfl
theorem sm_r84 : sm_rk 84 = 1 := rfl
theorem sm_r85 : sm_rk 85 = 1 := rfl
theorem sm_r86 : sm_rk 86 = 1 := rfl
theorem sm_r87 : sm_rk 87 = 4 := rfl
theorem sm_r88 : sm_rk 88 = 4 := rfl
theorem sm_r89 : sm_rk 89 = 4 := rfl
theorem sm_r90 : sm_rk 90 = 4 := rfl
theorem sm_r1143 : sm_rk 1143 = 1 := rfl
theorem sm_r1144 : sm_rk 1144 = 1 := rfl
theorem sm_r1145 : sm_rk 1145 = 4 := rfl
theorem sm_r91 : sm_rk 91 = 0 := rfl
theorem sm_r1147 : sm_rk 1147 = 0 := rfl
theorem sm_r1148 : sm_rk 1148 = 0 := rfl
theorem sm_r1149 : sm_rk 1149 = 0 := rfl
theorem sm_r1150 : sm_rk 1150 = 4 := rfl
abbrev sm_ok (S : sv_S) : Prop := sv_ok sm_rk S
theorem sm_okI {S : sv_S} {j : Nat} (h : sm_ok S) (hk : sm_rk j = 0) (i : Int) : sv_R (S j i) := by have := h j i; rw [hk] at this; exact this
theorem sm_okJ {S : sv_S} {j : Nat} (h : sm_ok S) (hk : sm_rk j = 1) (i : Int) : sv_RL (S j i) := by have := h j i; rw [hk] at this; exact this
theorem sm_okB {S : sv_S} {j : Nat} (h : sm_ok S) (hk : sm_rk j = 2) (i : Int) : -128 ≤ S j i ∧ S j i ≤ 127 := by have := h j i; rw [hk] at this; exact this
theorem sm_okC {S : sv_S} {j : Nat} (h : sm_ok S) (hk : sm_rk j = 3) (i : Int) : 0 ≤ S j i ∧ S j i ≤ 65535 := by have := h j i; rw [hk] at this; exact this
theorem sm_okZ {S : sv_S} {j : Nat} (h : sm_ok S) (hk : sm_rk j = 4) (i : Int) : 0 ≤ S j i ∧ S j i ≤ 1 := by have := h j i; rw [hk] at this; exact this
theorem sm_upI {S : sv_S} {j : Nat} {i v : Int} (h : sm_ok S) (hk : sm_rk j = 0) (hv : sv_R v) : sm_ok (sv_up S j i v) := sv_ok.up h (by rw [hk]; exact hv)
theorem sm_upJ {S : sv_S} {j : Nat} {i v : Int} (h : sm_ok S) (hk : sm_rk j = 1) (hv : sv_RL v) : sm_ok (sv_up S j i v) := sv_ok.up h (by rw [hk]; exact hv)
theorem sm_upB {S : sv_S} {j : Nat} {i v : Int} (h : sm_ok S) (hk : sm_rk j = 2) (hv : -128 ≤ v ∧ v ≤ 127) : sm_ok (sv_up S j i v) := sv_ok.up h (by rw [hk]; exact hv)
theorem sm_upC {S : sv_S} {j : Nat} {i v : Int} (h : sm_ok S) (hk : sm_rk j = 3) (hv : 0 ≤ v ∧ v ≤ 65535) : sm_ok (sv_up S j i v) := sv_ok.up h (by rw [hk]; exact hv)
theorem sm_upZ {S : sv_S} {j : Nat} {i v : Int} (h : sm_ok S) (hk : sm_rk j = 4) (hv : 0 ≤ v ∧ v ≤ 1) : sm_ok (sv_up S j i v) := sv_ok.up h (by rw [hk]; exact hv)
