/-! what the tables say: by places, closed by the kernel -/
noncomputable def tw (i : Nat) (w : Cond) : Bool := decide (rget tables_1 i = some w) && goodWord w
noncomputable def tw2 (i : Nat) (w : Cond) : Bool := decide (rget (k2_sels lw_privs) i = some w) && goodWord w
noncomputable def twp (i : Nat) (w : Cond) : Bool := bif Nat.blt i 10000 then tw i w else tw2 (Nat.sub i 10000) w
theorem tw_ok {i : Nat} {w : Cond} (h : tw i w = true) : w ∈ TG := by
  unfold tw at h
  rw [Bool.and_eq_true, decide_eq_true_eq, rget_eq] at h
  exact List.mem_filter.mpr ⟨List.mem_append_right _ (List.mem_of_getElem? h.1), h.2⟩
theorem twp_ok {i : Nat} {w : Cond} (h : twp i w = true) : w ∈ TG := by
  unfold twp at h
  cases hb : Nat.blt i 10000 with
  | true => rw [hb, cond_true] at h; exact tw_ok h
  | false =>
    rw [hb, cond_false] at h
    unfold tw2 at h
    rw [Bool.and_eq_true, decide_eq_true_eq, rget_eq] at h
    exact List.mem_filter.mpr ⟨List.mem_append_left _ (List.mem_of_getElem? h.1), h.2⟩
theorem mem_ws {C : String} {T : u_T} {N : Nat} (pl : List Nat) (h : (List.range N).all (fun k => tw (pl.getD k 0) (u_lay C T k)) = true) : ∀ w ∈ u_ws C T N, w ∈ TG := by
  intro w hw
  obtain ⟨k, hk, rfl⟩ := List.mem_map.mp hw
  exact tw_ok (List.all_eq_true.mp h k hk)

set_option maxRecDepth 1000000 in
theorem cl_0 : (∀ w ∈ u_ws RX0 TX0 4, w ∈ TG) ∧ (∀ k, k < 4 → parseFieldDescriptor (TX0 k).2.2.1 = some (fty 0 k)) ∧ (∀ a, a < 4 → ∀ b, b < 4 → a ≠ b → (TX0 a).2.1 ≠ (TX0 b).2.1) ∧ Cond.instantiable RX0 4 ∈ TG ∧ Cond.initialized RX0 ∈ TG ∧ 4 = fnn 0 ∧ 0 < 13 ∧ (∀ k, k < 4 → fk (fty 0 k) ≠ 4) := ⟨mem_ws [233, 235, 237, 239] (by decide +kernel), tyX0_ok, nmX0, tw_ok (i := 222) (by decide +kernel), tw_ok (i := 7) (by decide +kernel), rfl, by decide, by decide +kernel⟩
set_option maxRecDepth 1000000 in
theorem cl_1 : (∀ w ∈ u_ws RX1 TX1 3, w ∈ TG) ∧ (∀ k, k < 3 → parseFieldDescriptor (TX1 k).2.2.1 = some (fty 1 k)) ∧ (∀ a, a < 3 → ∀ b, b < 3 → a ≠ b → (TX1 a).2.1 ≠ (TX1 b).2.1) ∧ Cond.instantiable RX1 3 ∈ TG ∧ Cond.initialized RX1 ∈ TG ∧ 3 = fnn 1 ∧ 1 < 13 ∧ (∀ k, k < 3 → fk (fty 1 k) ≠ 4) := ⟨mem_ws [289, 291, 293] (by decide +kernel), tyX1_ok, nmX1, tw_ok (i := 281) (by decide +kernel), tw_ok (i := 9) (by decide +kernel), rfl, by decide, by decide +kernel⟩
set_option maxRecDepth 1000000 in
theorem cl_2 : (∀ w ∈ u_ws RX2 TX2 6, w ∈ TG) ∧ (∀ k, k < 6 → parseFieldDescriptor (TX2 k).2.2.1 = some (fty 2 k)) ∧ (∀ a, a < 6 → ∀ b, b < 6 → a ≠ b → (TX2 a).2.1 ≠ (TX2 b).2.1) ∧ Cond.instantiable RX2 6 ∈ TG ∧ Cond.initialized RX2 ∈ TG ∧ 6 = fnn 2 ∧ 2 < 13 ∧ (∀ k, k < 6 → fk (fty 2 k) ≠ 4) := ⟨mem_ws [308, 310, 312, 314, 316, 318] (by decide +kernel), tyX2_ok, nmX2, tw_ok (i := 297) (by decide +kernel), tw_ok (i := 10) (by decide +kernel), rfl, by decide, by decide +kernel⟩
set_option maxRecDepth 1000000 in
theorem cl_3 : (∀ w ∈ u_ws RX3 TX3 15, w ∈ TG) ∧ (∀ k, k < 15 → parseFieldDescriptor (TX3 k).2.2.1 = some (fty 3 k)) ∧ (∀ a, a < 15 → ∀ b, b < 15 → a ≠ b → (TX3 a).2.1 ≠ (TX3 b).2.1) ∧ Cond.instantiable RX3 15 ∈ TG ∧ Cond.initialized RX3 ∈ TG ∧ 15 = fnn 3 ∧ 3 < 13 ∧ (∀ k, k < 15 → fk (fty 3 k) ≠ 4) := ⟨mem_ws [346, 348, 350, 352, 354, 356, 358, 360, 362, 364, 366, 368, 370, 372, 374] (by decide +kernel), tyX3_ok, nmX3, tw_ok (i := 322) (by decide +kernel), tw_ok (i := 11) (by decide +kernel), rfl, by decide, by decide +kernel⟩
set_option maxRecDepth 1000000 in
theorem cl_4 : (∀ w ∈ u_ws RX4 TX4 7, w ∈ TG) ∧ (∀ k, k < 7 → parseFieldDescriptor (TX4 k).2.2.1 = some (fty 4 k)) ∧ (∀ a, a < 7 → ∀ b, b < 7 → a ≠ b → (TX4 a).2.1 ≠ (TX4 b).2.1) ∧ Cond.instantiable RX4 7 ∈ TG ∧ Cond.initialized RX4 ∈ TG ∧ 7 = fnn 4 ∧ 4 < 13 ∧ (∀ k, k < 7 → fk (fty 4 k) ≠ 4) := ⟨mem_ws [88, 90, 92, 94, 96, 98, 100] (by decide +kernel), tyX4_ok, nmX4, tw_ok (i := 72) (by decide +kernel), tw_ok (i := 4) (by decide +kernel), rfl, by decide, by decide +kernel⟩
set_option maxRecDepth 1000000 in
theorem cl_5 : (∀ w ∈ u_ws RX5 TX5 10, w ∈ TG) ∧ (∀ k, k < 10 → parseFieldDescriptor (TX5 k).2.2.1 = some (fty 5 k)) ∧ (∀ a, a < 10 → ∀ b, b < 10 → a ≠ b → (TX5 a).2.1 ≠ (TX5 b).2.1) ∧ Cond.instantiable RX5 10 ∈ TG ∧ Cond.initialized RX5 ∈ TG ∧ 10 = fnn 5 ∧ 5 < 13 ∧ (∀ k, k < 10 → fk (fty 5 k) ≠ 4) := ⟨mem_ws [136, 138, 140, 142, 144, 146, 148, 150, 152, 154] (by decide +kernel), tyX5_ok, nmX5, tw_ok (i := 66) (by decide +kernel), tw_ok (i := 3) (by decide +kernel), rfl, by decide, by decide +kernel⟩
set_option maxRecDepth 1000000 in
theorem cl_6 : (∀ w ∈ u_ws RX6 TX6 4, w ∈ TG) ∧ (∀ k, k < 4 → parseFieldDescriptor (TX6 k).2.2.1 = some (fty 6 k)) ∧ (∀ a, a < 4 → ∀ b, b < 4 → a ≠ b → (TX6 a).2.1 ≠ (TX6 b).2.1) ∧ Cond.instantiable RX6 4 ∈ TG ∧ Cond.initialized RX6 ∈ TG ∧ 4 = fnn 6 ∧ 6 < 13 ∧ (∀ k, k < 4 → fk (fty 6 k) ≠ 4) := ⟨mem_ws [211, 213, 215, 217] (by decide +kernel), tyX6_ok, nmX6, tw_ok (i := 195) (by decide +kernel), tw_ok (i := 6) (by decide +kernel), rfl, by decide, by decide +kernel⟩
set_option maxRecDepth 1000000 in
theorem cl_7 : (∀ w ∈ u_ws RX7 TX7 10, w ∈ TG) ∧ (∀ k, k < 10 → parseFieldDescriptor (TX7 k).2.2.1 = some (fty 7 k)) ∧ (∀ a, a < 10 → ∀ b, b < 10 → a ≠ b → (TX7 a).2.1 ≠ (TX7 b).2.1) ∧ Cond.instantiable RX7 10 ∈ TG ∧ Cond.initialized RX7 ∈ TG ∧ 10 = fnn 7 ∧ 7 < 13 ∧ (∀ k, k < 10 → fk (fty 7 k) ≠ 4) := ⟨mem_ws [396, 398, 400, 402, 404, 406, 408, 410, 412, 414] (by decide +kernel), tyX7_ok, nmX7, tw_ok (i := 378) (by decide +kernel), tw_ok (i := 12) (by decide +kernel), rfl, by decide, by decide +kernel⟩
set_option maxRecDepth 1000000 in
theorem cl_8 : (∀ w ∈ u_ws RX8 TX8 9, w ∈ TG) ∧ (∀ k, k < 9 → parseFieldDescriptor (TX8 k).2.2.1 = some (fty 8 k)) ∧ (∀ a, a < 9 → ∀ b, b < 9 → a ≠ b → (TX8 a).2.1 ≠ (TX8 b).2.1) ∧ Cond.instantiable RX8 9 ∈ TG ∧ Cond.initialized RX8 ∈ TG ∧ 9 = fnn 8 ∧ 8 < 13 ∧ (∀ k, k < 9 → fk (fty 8 k) ≠ 4) := ⟨mem_ws [174, 176, 178, 180, 182, 184, 186, 188, 190] (by decide +kernel), tyX8_ok, nmX8, tw_ok (i := 158) (by decide +kernel), tw_ok (i := 5) (by decide +kernel), rfl, by decide, by decide +kernel⟩
set_option maxRecDepth 1000000 in
theorem cl_9 : (∀ w ∈ u_ws RX9 TX9 7, w ∈ TG) ∧ (∀ k, k < 7 → parseFieldDescriptor (TX9 k).2.2.1 = some (fty 9 k)) ∧ (∀ a, a < 7 → ∀ b, b < 7 → a ≠ b → (TX9 a).2.1 ≠ (TX9 b).2.1) ∧ Cond.instantiable RX9 7 ∈ TG ∧ Cond.initialized RX9 ∈ TG ∧ 7 = fnn 9 ∧ 9 < 13 ∧ (∀ k, k < 7 → fk (fty 9 k) ≠ 4) := ⟨mem_ws [49, 51, 53, 55, 57, 59, 61] (by decide +kernel), tyX9_ok, nmX9, tw_ok (i := 32) (by decide +kernel), tw_ok (i := 2) (by decide +kernel), rfl, by decide, by decide +kernel⟩
set_option maxRecDepth 1000000 in
theorem cl_10 : (∀ w ∈ u_ws RX10 TX10 7, w ∈ TG) ∧ (∀ k, k < 7 → parseFieldDescriptor (TX10 k).2.2.1 = some (fty 10 k)) ∧ (∀ a, a < 7 → ∀ b, b < 7 → a ≠ b → (TX10 a).2.1 ≠ (TX10 b).2.1) ∧ Cond.instantiable RX10 7 ∈ TG ∧ Cond.initialized RX10 ∈ TG ∧ 7 = fnn 10 ∧ 10 < 13 ∧ (∀ k, k < 7 → fk (fty 10 k) ≠ 4) := ⟨mem_ws [265, 267, 269, 271, 273, 275, 277] (by decide +kernel), tyX10_ok, nmX10, tw_ok (i := 244) (by decide +kernel), tw_ok (i := 8) (by decide +kernel), rfl, by decide, by decide +kernel⟩
set_option maxRecDepth 1000000 in
theorem cl_11 : (∀ w ∈ u_ws RX11 TX11 14, w ∈ TG) ∧ (∀ k, k < 14 → parseFieldDescriptor (TX11 k).2.2.1 = some (fty 11 k)) ∧ (∀ a, a < 14 → ∀ b, b < 14 → a ≠ b → (TX11 a).2.1 ≠ (TX11 b).2.1) ∧ Cond.instantiable RX11 14 ∈ TG ∧ Cond.initialized RX11 ∈ TG ∧ 14 = fnn 11 ∧ 11 < 13 ∧ (∀ k, k < 14 → fk (fty 11 k) ≠ 4) := ⟨mem_ws [431, 433, 435, 437, 439, 441, 443, 445, 447, 449, 451, 453, 455, 457] (by decide +kernel), tyX11_ok, nmX11, tw_ok (i := 24) (by decide +kernel), tw_ok (i := 1) (by decide +kernel), rfl, by decide, by decide +kernel⟩
set_option maxRecDepth 1000000 in
theorem cl_12 : (∀ w ∈ u_ws RX12 TX12 66, w ∈ TG) ∧ (∀ k, k < 66 → parseFieldDescriptor (TX12 k).2.2.1 = some (fty 12 k)) ∧ (∀ a, a < 66 → ∀ b, b < 66 → a ≠ b → (TX12 a).2.1 ≠ (TX12 b).2.1) ∧ Cond.instantiable RX12 66 ∈ TG ∧ Cond.initialized RX12 ∈ TG ∧ 66 = fnn 12 ∧ 12 < 13 ∧ (∀ k, k < 66 → fk (fty 12 k) ≠ 4) := ⟨mem_ws [1354, 1356, 1358, 1360, 1362, 1364, 1366, 1368, 1370, 1372, 1374, 1376, 1378, 1380, 1382, 1384, 1386, 1388, 1390, 1392, 1394, 1396, 1398, 1400, 1402, 1404, 1406, 1408, 1410, 1412, 1414, 1416, 1418, 1420, 1422, 1424, 1426, 1428, 1430, 1432, 1434, 1436, 1438, 1440, 1442, 1444, 1446, 1448, 1450, 1452, 1454, 1456, 1458, 1460, 1462, 1464, 1466, 1468, 1470, 1472, 1474, 1476, 1478, 1480, 1482, 1484] (by decide +kernel), tyX12_ok, nmX12, tw_ok (i := 1275) (by decide +kernel), tw_ok (i := 13) (by decide +kernel), rfl, by decide, by decide +kernel⟩
theorem okCl : OKCl := by
  intro ci C T N h
  match ci, h with
  | 0, h => cases h; exact cl_0
  | 1, h => cases h; exact cl_1
  | 2, h => cases h; exact cl_2
  | 3, h => cases h; exact cl_3
  | 4, h => cases h; exact cl_4
  | 5, h => cases h; exact cl_5
  | 6, h => cases h; exact cl_6
  | 7, h => cases h; exact cl_7
  | 8, h => cases h; exact cl_8
  | 9, h => cases h; exact cl_9
  | 10, h => cases h; exact cl_10
  | 11, h => cases h; exact cl_11
  | 12, h => cases h; exact cl_12
  | n + 13, h => simp [vwCl] at h
def pF : List Nat := [229, 230, 231, 232, 286, 287, 288, 121, 201, 127, 207, 253, 261, 259, 302, 303, 304, 305, 306, 307, 119, 205, 251, 131, 334, 337, 338, 339, 340, 344, 345, 330, 331, 332, 333, 335, 343, 341, 342, 124, 264, 254, 262, 77, 78, 79, 80, 81, 82, 85, 104, 106, 108, 110, 112, 114, 118, 125, 129, 133, 200, 203, 206, 134, 209, 387, 388, 389, 390, 391, 392, 385, 386, 394, 393, 123, 252, 165, 166, 172, 163, 164, 167, 168, 170, 41, 43, 120, 105, 169, 107, 126, 109, 111, 113, 115, 86, 130, 135, 48, 46, 83, 37, 38, 40, 44, 42, 47, 45, 249, 250, 256, 257, 258, 260, 204, 263, 116, 87, 417, 418, 419, 420, 421, 422, 423, 424, 425, 426, 427, 428, 429, 39, 122, 171, 173, 202, 210, 132, 208, 128, 255, 430, 395, 117, 84, 336, 1288, 1289, 1293, 1299, 1300, 1301, 1302, 1303, 1304, 1305, 1306, 1307, 1308, 1309, 1310, 1311, 1312, 1313, 1314, 1315, 1316, 1317, 1318, 1319, 1320, 1333, 1334, 1337, 1338, 1339, 1340, 1343, 1344, 1345, 1346, 1347, 1348, 1352, 1353, 1291, 1292, 1295, 1294, 1296, 1298, 1297, 1322, 1323, 1290, 1321, 1326, 1325, 1324, 1327, 1329, 1328, 1330, 1331, 1332, 1335, 1336, 1349, 1341, 1342, 1350, 1351]
noncomputable def chF (e : ((Nat × Nat) × (Nat × Nat × Nat × Nat)) × Nat) : Bool := match vwCl[e.1.2.1]? with
  | some q => Nat.blt e.1.2.2.1 q.2.2 && tw e.2 (.fieldLink (oN e.1.1.1) e.1.1.2 (q.2.1 e.1.2.2.1).1 (q.2.1 e.1.2.2.1).2.1 (q.2.1 e.1.2.2.1).2.2.1) && Nat.beq (fk (fty e.1.2.1 e.1.2.2.1)) e.1.2.2.2.2 && ((Nat.beq e.1.2.2.2.1 0 && !(q.2.1 e.1.2.2.1).2.2.2) || (Nat.beq e.1.2.2.2.1 1 && (q.2.1 e.1.2.2.1).2.2.2 && decide ((q.2.1 e.1.2.2.1).1 = oN e.1.1.1)) || Nat.beq e.1.2.2.2.1 2)
  | none => false
theorem mem_zip {α : Type} {l : List α} {ps : List Nat} {ch : α × Nat → Bool} (hl : l.length = ps.length) (h : (l.zip ps).all ch = true) {a : α} (ha : a ∈ l) : ∃ p, ch (a, p) = true := by
  obtain ⟨i, hi⟩ := List.getElem?_of_mem ha
  have hlt : i < l.length := (List.getElem?_eq_some_iff.mp hi).1
  have h2 : (l.zip ps)[i]? = some (a, ps[i]'(by omega)) := by
    rw [List.getElem?_zip_eq_some]
    exact ⟨hi, List.getElem?_eq_getElem (by omega)⟩
  exact ⟨_, List.all_eq_true.mp h _ (List.mem_of_getElem? h2)⟩
set_option maxRecDepth 1000000 in
theorem aF : (tF.zip pF).all chF = true := by decide +kernel
theorem okF : OKF := by
  intro own i ci k fi kd hm
  obtain ⟨p, h⟩ := mem_zip (by decide +kernel) aF hm
  unfold chF at h
  dsimp only at h
  split at h
  · next q hq =>
    simp only [Bool.and_eq_true, Bool.or_eq_true] at h
    obtain ⟨⟨⟨h1, h2⟩, h3⟩, h4⟩ := h
    refine ⟨q.1, q.2.1, q.2.2, hq, Nat.le_of_ble_eq_true h1, tw_ok h2, Nat.eq_of_beq_eq_true h3, ?_⟩
    rcases h4 with (⟨g1, g2⟩ | ⟨⟨g1, g2⟩, g3⟩) | g1
    · exact Or.inl ⟨Nat.eq_of_beq_eq_true g1, by simpa using g2⟩
    · exact Or.inr (Or.inl ⟨Nat.eq_of_beq_eq_true g1, g2, of_decide_eq_true g3⟩)
    · exact Or.inr (Or.inr (Nat.eq_of_beq_eq_true g1))
  · cases h
def pC : List Nat := [227, 327, 71, 383, 31, 65, 157, 194, 221, 243, 280, 296, 321, 377, 23, 1274]
noncomputable def chC (e : ((Nat × Nat) × Nat) × Nat) : Bool := match vwCl[e.1.2]? with
  | some q => tw e.2 (.classLink (oN e.1.1.1) e.1.1.2 q.1) && Nat.blt e.1.2 13
  | none => Nat.beq e.1.2 19 && tw e.2 (.classLink (oN e.1.1.1) e.1.1.2 "[[I")
set_option maxRecDepth 1000000 in
theorem aC : (tC.zip pC).all chC = true := by decide +kernel
theorem okC : OKC := by
  intro own i ci hm
  obtain ⟨p, h⟩ := mem_zip (by decide +kernel) aC hm
  unfold chC at h
  dsimp only at h
  split at h
  · next q hq =>
    rw [Bool.and_eq_true] at h
    have h2 : ci < 13 := Nat.le_of_ble_eq_true h.2
    exact ⟨fun _ => ⟨q.1, q.2.1, q.2.2, hq, tw_ok h.1⟩, fun e => by omega⟩
  · rw [Bool.and_eq_true] at h
    have h2 := Nat.eq_of_beq_eq_true h.1
    exact ⟨fun e => by omega, fun _ => tw_ok h.2⟩
def pK : List Nat := [1196, 1977, 920, 921, 922, 1043, 511, 1505, 1506, 1507, 1508, 1509, 1510, 1511, 1512, 1513, 1514, 1515, 1516, 1517, 1518, 1519, 1520, 1521, 1522, 1219, 1220, 1221]
noncomputable def chK (e : ((Nat × Nat) × Nat) × Nat) : Bool := bif Nat.blt e.1.1.1 100 then tw e.2 (.constant (oN e.1.1.1) e.1.1.2 (nI e.1.2)) else tw e.2 (.constantLong (oN (e.1.1.1 - 100)) e.1.1.2 (lN e.1.2))
set_option maxRecDepth 1000000 in
theorem aK : (tK.zip pK).all chK = true := by decide +kernel
theorem okK : OKK := by
  intro own i n hm
  obtain ⟨p, h⟩ := mem_zip (by decide +kernel) aK hm
  unfold chK at h
  dsimp only at h
  cases hb : Nat.blt own 100 with
  | true =>
    rw [hb, cond_true] at h
    have : own < 100 := Nat.le_of_ble_eq_true hb
    exact ⟨fun _ => tw_ok h, fun e => by omega⟩
  | false =>
    rw [hb, cond_false] at h
    have : ¬ own < 100 := fun g => by
      have := Nat.ble_eq_true_of_le (show own + 1 ≤ 100 from g)
      have hb' : Nat.ble (own + 1) 100 = false := hb
      rw [this] at hb'
      cases hb'
    exact ⟨fun e => absurd e this, fun _ => tw_ok h⟩
def pA : List Nat := [226, 0, 681, 688, 685, 285, 741, 742, 732, 733, 737, 854, 728, 813, 768, 773, 799, 804, 809, 1016, 795, 814, 908, 917, 1068, 1104, 1149, 1150, 1167, 301, 997, 974, 975, 976, 979, 992, 983, 984, 988, 989, 990, 991, 1033, 1044, 1047, 1048, 1037, 1038, 1042, 326, 329, 965, 940, 941, 945, 949, 946, 947, 948, 953, 957, 961, 1078, 1079, 1080, 1081, 1082, 1086, 1090, 1095, 1094, 1116, 1121, 1120, 76, 654, 782, 70, 0, 488, 647, 650, 717, 666, 199, 674, 840, 670, 659, 662, 692, 382, 1205, 1212, 1209, 1210, 1211, 1230, 1231, 1232, 1235, 1244, 162, 484, 492, 574, 591, 595, 635, 639, 578, 631, 582, 583, 587, 599, 615, 603, 611, 607, 619, 623, 627, 36, 496, 500, 504, 507, 564, 567, 571, 512, 248, 772, 826, 808, 785, 788, 777, 778, 803, 28, 0, 0, 159, 0, 223, 245, 282, 298, 323, 379, 464, 468, 480, 643, 655, 677, 693, 697, 709, 713, 720, 724, 746, 754, 755, 756, 760, 764, 791, 819, 820, 821, 822, 827, 835, 836, 841, 850, 855, 859, 867, 872, 880, 888, 896, 904, 913, 923, 928, 936, 970, 993, 1004, 1012, 1021, 1029, 1056, 1064, 1069, 1074, 1100, 1112, 1129, 1137, 1145, 1155, 1163, 1172, 1180, 1188, 1201, 1216, 1226, 1240, 1249, 1253, 1262, 1266, 1270, 1279, 1280, 1284, 1495, 1499, 1502, 1523, 1526, 1549, 1529, 1491, 1545, 1541, 1569, 1573, 1565, 1533, 1537, 1553, 1581, 1585, 1601, 1557, 1561, 1577, 1589, 1593, 1597, 1613, 1605, 1609, 1617, 1621, 1679, 1703, 1707, 1637, 1641, 1659, 1644, 1683, 1710, 1699, 1695, 1675, 1725, 1691, 1721, 1655, 1717, 1671, 1816, 1633, 1651, 1647, 1663, 1687, 1713, 1745, 1757, 1753, 1769, 1773, 1781, 1789, 1809, 1812, 1824, 1832, 1844, 1860, 1864, 1856, 1880, 1892, 1895, 1899, 1907, 1911, 1914, 1929, 1921, 1925, 1933, 1945, 1949, 1957, 1961, 1986, 1982, 2010, 25, 1276, 460, 2014, 472, 2018, 476, 1487, 701, 1625, 705, 1629, 750, 1667, 815, 1741, 831, 1749, 842, 1761, 846, 1765, 863, 1777, 868, 1785, 876, 1793, 884, 1797, 892, 1801, 900, 1729, 909, 1805, 924, 1820, 932, 1888, 966, 1903, 1000, 1836, 1008, 1852, 1017, 1872, 1025, 1917, 1052, 1937, 1060, 1828, 1070, 1941, 1096, 1840, 1108, 1953, 1125, 1733, 1133, 1737, 1141, 1868, 1151, 1848, 1159, 1876, 1168, 1884, 1176, 1965, 1184, 1969, 1192, 1973, 1197, 1978, 1222, 1990, 1236, 1994, 1245, 1998, 1254, 2002, 1258, 2006]
noncomputable def chA4 (e : ((Nat × Nat) × (Nat × Nat × Nat × Nat)) × Nat) : Bool := bif Nat.beq e.1.2.1 4 then tw e.2 (.methodLink (oN e.1.1.1) e.1.1.2 Lib.objectInit) else bif Nat.beq e.1.2.1 5 then tw e.2 (.methodLink (oN e.1.1.1) e.1.1.2 arraycopyName) else true
set_option maxRecDepth 1000000 in
theorem aA4 : (tA.zip pA).all chA4 = true := by decide +kernel
theorem okA4 : OKA4 := by
  intro own i mi np rc hm
  obtain ⟨p, h⟩ := mem_zip (by decide +kernel) aA4 hm
  exact tw_ok h
theorem okA5 : OKA5 := by
  intro own i mi np rc hm
  obtain ⟨p, h⟩ := mem_zip (by decide +kernel) aA4 hm
  exact tw_ok h
set_option maxRecDepth 1000000 in
theorem okW : OKW := ⟨tw_ok (i := 29) (by decide +kernel), tw_ok (i := 30) (by decide +kernel), tw_ok (i := 649) (by decide +kernel), tw_ok (i := 648) (by decide +kernel), tw_ok (i := 18) (by decide +kernel), tw_ok (i := 64) (by decide +kernel), tw_ok (i := 103) (by decide +kernel), tw_ok (i := 193) (by decide +kernel), tw_ok (i := 242) (by decide +kernel)⟩
theorem okOT : OT := ⟨okCl, okF, okC, okK, okA4, okA5, okW⟩
