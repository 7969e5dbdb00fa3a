/-! What stands still in the heap: one predicate for all of it -/
def lyO : List (Nat × Nat) := [(0, 11), (1, 1), (3, 1), (5, 10), (7, 6), (1244, 0), (1245, 1), (1255, 8), (1256, 1), (1262, 12)]
def lyA : List (Nat × Nat × Nat) := [(2, 102, 4000), (4, 102, 4000), (6, 101, 600), (8, 100, 4001), (9, 100, 4001), (10, 101, 4001), (11, 101, 4001), (1246, 102, 4000), (1247, 100, 300), (1248, 100, 300), (1249, 100, 300), (1250, 100, 300), (1251, 100, 300), (1252, 103, 16), (1253, 100, 32), (1254, 100, 34), (1257, 102, 4000), (1258, 100, 64), (1259, 100, 64), (1260, 100, 64), (1261, 100, 64), (1263, 100, 4000), (1264, 100, 4000), (1265, 100, 4000), (1266, 100, 4001), (1267, 100, 4001), (1268, 100, 4001), (1269, 100, 4001), (1270, 100, 40), (1271, 100, 40), (1272, 100, 40), (1273, 100, 12), (1274, 100, 12), (1275, 100, 12), (1276, 100, 144), (1277, 100, 144), (1278, 100, 144), (1279, 100, 144), (1280, 100, 12), (1281, 100, 1536), (1282, 100, 1536), (1283, 100, 16), (1284, 100, 16), (1285, 100, 256), (1286, 100, 256), (1287, 100, 256), (1288, 100, 256), (1289, 100, 256), (1290, 100, 256), (1291, 101, 256), (1292, 100, 8), (1293, 100, 64), (1294, 100, 64), (1295, 100, 400), (1296, 100, 400), (1297, 100, 400), (1298, 101, 600), (1299, 100, 4300), (1300, 100, 300), (1301, 100, 300), (1302, 100, 300), (1303, 100, 300), (1304, 100, 300), (1305, 100, 300), (1306, 103, 16), (1307, 100, 32), (1308, 100, 4000), (1309, 100, 68), (1310, 100, 4000), (1311, 100, 4000), (1312, 100, 100), (1313, 100, 100), (1314, 100, 100), (1315, 100, 100), (1316, 101, 1)]
def lyR : List (Nat × Nat × Nat) := [(0, 0, 1), (0, 1, 3), (0, 2, 5), (0, 3, 7), (0, 6, 1244), (0, 7, 1255), (1, 0, 2), (3, 0, 4), (5, 0, 6), (7, 0, 8), (7, 1, 9), (7, 2, 10), (7, 3, 11), (1244, 0, 1245), (1244, 3, 1247), (1244, 4, 1248), (1244, 5, 1249), (1244, 6, 1250), (1244, 8, 1251), (1244, 12, 1252), (1244, 13, 1253), (1244, 14, 1254), (1245, 0, 1246), (1255, 0, 1256), (1255, 1, 1258), (1255, 2, 1259), (1255, 3, 1260), (1255, 4, 1261), (1256, 0, 1257), (1262, 1, 1263), (1262, 3, 1264), (1262, 4, 1265), (1262, 8, 1266), (1262, 9, 1267), (1262, 10, 1268), (1262, 11, 1269), (1262, 17, 1270), (1262, 18, 1271), (1262, 19, 1272), (1262, 21, 1273), (1262, 22, 1274), (1262, 23, 1275), (1262, 24, 1276), (1262, 25, 1277), (1262, 26, 1278), (1262, 27, 1279), (1262, 28, 1280), (1262, 29, 1281), (1262, 30, 1282), (1262, 32, 1283), (1262, 33, 1284), (1262, 34, 1285), (1262, 35, 1286), (1262, 36, 1287), (1262, 37, 1288), (1262, 38, 1289), (1262, 39, 1290), (1262, 40, 1291), (1262, 42, 1292), (1262, 43, 1293), (1262, 44, 1294), (1262, 47, 1295), (1262, 48, 1296), (1262, 49, 1297), (1262, 54, 1298), (1262, 56, 1299), (1262, 60, 1300), (1262, 61, 1301), (1262, 62, 1302), (1262, 63, 1303), (1262, 65, 1304), (1262, 66, 1305), (1262, 69, 1306), (1262, 70, 1307), (1262, 71, 1308), (1262, 73, 1309), (1262, 74, 1310), (1262, 79, 1311), (1262, 83, 1312), (1262, 84, 1313), (1262, 85, 1314), (1262, 86, 1315)]
def LY (h : XH) : Prop := 1317 ≤ hz h ∧ hz h ≤ 1000000 ∧ (∀ t ∈ lyO, hk h t.1 = t.2) ∧ (∀ t ∈ lyA, hk h t.1 = t.2.1 ∧ hn h t.1 = t.2.2) ∧ (∀ t ∈ lyR, hr h t.1 t.2.1 = some t.2.2) ∧ SC h 12 ∧ SC h 628
theorem LY.lt {h : XH} (L : LY h) {a : Nat} (ha : a < 1317) : a < hz h := Nat.lt_of_lt_of_le ha L.1
theorem LY_si {h : XH} {a k : Nat} {v : Int32} : LY (hsi h a k v) = LY h := rfl
theorem LY_sj {h : XH} {a k : Nat} {v : Int64} : LY (hsj h a k v) = LY h := rfl
theorem LY_ri {h : XH} {a : Nat} {f : Nat → Int32} : LY (hri h a f) = LY h := rfl
theorem LY_rj {h : XH} {a : Nat} {f : Nat → Int64} : LY (hrj h a f) = LY h := rfl
theorem lyO_lt : ∀ t ∈ lyO, t.1 < 1317 := by decide
theorem lyA_lt : ∀ t ∈ lyA, t.1 < 1317 := by decide
theorem lyR_lt : ∀ t ∈ lyR, t.1 < 1317 := by decide
theorem LY.keep {h h2 : XH} (L : LY h) (K : KP h h2 1317) (hle : 1317 ≤ hz h2) (hm : hz h2 ≤ 1000000) : LY h2 := by
  obtain ⟨l1, l2, l3, l4, l5, l6, l7⟩ := L
  refine ⟨hle, hm, fun t ht => ?_, fun t ht => ?_, fun t ht => ?_, l6.keepR (K.kr (by omega)) (by omega) hm, l7.keepR (K.kr (by omega)) (by omega) hm⟩
  · exact ((K t.1 (lyO_lt t ht)).1).trans (l3 t ht)
  · exact ⟨((K t.1 (lyA_lt t ht)).1).trans (l4 t ht).1, ((K t.1 (lyA_lt t ht)).2.1).trans (l4 t ht).2⟩
  · exact ((K t.1 (lyR_lt t ht)).2.2.2.2 t.2.1).trans (l5 t ht)
theorem LY.k0 {h : XH} (L : LY h) : hk h 0 = 11 := L.2.2.1 _ (List.mem_of_getElem? (i := 0) (a := (0, 11)) rfl)
theorem LY.k1 {h : XH} (L : LY h) : hk h 1 = 1 := L.2.2.1 _ (List.mem_of_getElem? (i := 1) (a := (1, 1)) rfl)
theorem LY.k3 {h : XH} (L : LY h) : hk h 3 = 1 := L.2.2.1 _ (List.mem_of_getElem? (i := 2) (a := (3, 1)) rfl)
theorem LY.k5 {h : XH} (L : LY h) : hk h 5 = 10 := L.2.2.1 _ (List.mem_of_getElem? (i := 3) (a := (5, 10)) rfl)
theorem LY.k7 {h : XH} (L : LY h) : hk h 7 = 6 := L.2.2.1 _ (List.mem_of_getElem? (i := 4) (a := (7, 6)) rfl)
theorem LY.k1244 {h : XH} (L : LY h) : hk h 1244 = 0 := L.2.2.1 _ (List.mem_of_getElem? (i := 5) (a := (1244, 0)) rfl)
theorem LY.k1245 {h : XH} (L : LY h) : hk h 1245 = 1 := L.2.2.1 _ (List.mem_of_getElem? (i := 6) (a := (1245, 1)) rfl)
theorem LY.k1255 {h : XH} (L : LY h) : hk h 1255 = 8 := L.2.2.1 _ (List.mem_of_getElem? (i := 7) (a := (1255, 8)) rfl)
theorem LY.k1256 {h : XH} (L : LY h) : hk h 1256 = 1 := L.2.2.1 _ (List.mem_of_getElem? (i := 8) (a := (1256, 1)) rfl)
theorem LY.k1262 {h : XH} (L : LY h) : hk h 1262 = 12 := L.2.2.1 _ (List.mem_of_getElem? (i := 9) (a := (1262, 12)) rfl)
theorem LY.k2 {h : XH} (L : LY h) : hk h 2 = 102 := (L.2.2.2.1 _ (List.mem_of_getElem? (i := 0) (a := (2, 102, 4000)) rfl)).1
theorem LY.n2 {h : XH} (L : LY h) : hn h 2 = 4000 := (L.2.2.2.1 _ (List.mem_of_getElem? (i := 0) (a := (2, 102, 4000)) rfl)).2
theorem LY.k4 {h : XH} (L : LY h) : hk h 4 = 102 := (L.2.2.2.1 _ (List.mem_of_getElem? (i := 1) (a := (4, 102, 4000)) rfl)).1
theorem LY.n4 {h : XH} (L : LY h) : hn h 4 = 4000 := (L.2.2.2.1 _ (List.mem_of_getElem? (i := 1) (a := (4, 102, 4000)) rfl)).2
theorem LY.k6 {h : XH} (L : LY h) : hk h 6 = 101 := (L.2.2.2.1 _ (List.mem_of_getElem? (i := 2) (a := (6, 101, 600)) rfl)).1
theorem LY.n6 {h : XH} (L : LY h) : hn h 6 = 600 := (L.2.2.2.1 _ (List.mem_of_getElem? (i := 2) (a := (6, 101, 600)) rfl)).2
theorem LY.k8 {h : XH} (L : LY h) : hk h 8 = 100 := (L.2.2.2.1 _ (List.mem_of_getElem? (i := 3) (a := (8, 100, 4001)) rfl)).1
theorem LY.n8 {h : XH} (L : LY h) : hn h 8 = 4001 := (L.2.2.2.1 _ (List.mem_of_getElem? (i := 3) (a := (8, 100, 4001)) rfl)).2
theorem LY.k9 {h : XH} (L : LY h) : hk h 9 = 100 := (L.2.2.2.1 _ (List.mem_of_getElem? (i := 4) (a := (9, 100, 4001)) rfl)).1
theorem LY.n9 {h : XH} (L : LY h) : hn h 9 = 4001 := (L.2.2.2.1 _ (List.mem_of_getElem? (i := 4) (a := (9, 100, 4001)) rfl)).2
theorem LY.k10 {h : XH} (L : LY h) : hk h 10 = 101 := (L.2.2.2.1 _ (List.mem_of_getElem? (i := 5) (a := (10, 101, 4001)) rfl)).1
theorem LY.n10 {h : XH} (L : LY h) : hn h 10 = 4001 := (L.2.2.2.1 _ (List.mem_of_getElem? (i := 5) (a := (10, 101, 4001)) rfl)).2
theorem LY.k11 {h : XH} (L : LY h) : hk h 11 = 101 := (L.2.2.2.1 _ (List.mem_of_getElem? (i := 6) (a := (11, 101, 4001)) rfl)).1
theorem LY.n11 {h : XH} (L : LY h) : hn h 11 = 4001 := (L.2.2.2.1 _ (List.mem_of_getElem? (i := 6) (a := (11, 101, 4001)) rfl)).2
theorem LY.k1246 {h : XH} (L : LY h) : hk h 1246 = 102 := (L.2.2.2.1 _ (List.mem_of_getElem? (i := 7) (a := (1246, 102, 4000)) rfl)).1
theorem LY.n1246 {h : XH} (L : LY h) : hn h 1246 = 4000 := (L.2.2.2.1 _ (List.mem_of_getElem? (i := 7) (a := (1246, 102, 4000)) rfl)).2
theorem LY.k1247 {h : XH} (L : LY h) : hk h 1247 = 100 := (L.2.2.2.1 _ (List.mem_of_getElem? (i := 8) (a := (1247, 100, 300)) rfl)).1
theorem LY.n1247 {h : XH} (L : LY h) : hn h 1247 = 300 := (L.2.2.2.1 _ (List.mem_of_getElem? (i := 8) (a := (1247, 100, 300)) rfl)).2
theorem LY.k1248 {h : XH} (L : LY h) : hk h 1248 = 100 := (L.2.2.2.1 _ (List.mem_of_getElem? (i := 9) (a := (1248, 100, 300)) rfl)).1
theorem LY.n1248 {h : XH} (L : LY h) : hn h 1248 = 300 := (L.2.2.2.1 _ (List.mem_of_getElem? (i := 9) (a := (1248, 100, 300)) rfl)).2
theorem LY.k1249 {h : XH} (L : LY h) : hk h 1249 = 100 := (L.2.2.2.1 _ (List.mem_of_getElem? (i := 10) (a := (1249, 100, 300)) rfl)).1
theorem LY.n1249 {h : XH} (L : LY h) : hn h 1249 = 300 := (L.2.2.2.1 _ (List.mem_of_getElem? (i := 10) (a := (1249, 100, 300)) rfl)).2
theorem LY.k1250 {h : XH} (L : LY h) : hk h 1250 = 100 := (L.2.2.2.1 _ (List.mem_of_getElem? (i := 11) (a := (1250, 100, 300)) rfl)).1
theorem LY.n1250 {h : XH} (L : LY h) : hn h 1250 = 300 := (L.2.2.2.1 _ (List.mem_of_getElem? (i := 11) (a := (1250, 100, 300)) rfl)).2
theorem LY.k1251 {h : XH} (L : LY h) : hk h 1251 = 100 := (L.2.2.2.1 _ (List.mem_of_getElem? (i := 12) (a := (1251, 100, 300)) rfl)).1
theorem LY.n1251 {h : XH} (L : LY h) : hn h 1251 = 300 := (L.2.2.2.1 _ (List.mem_of_getElem? (i := 12) (a := (1251, 100, 300)) rfl)).2
theorem LY.k1252 {h : XH} (L : LY h) : hk h 1252 = 103 := (L.2.2.2.1 _ (List.mem_of_getElem? (i := 13) (a := (1252, 103, 16)) rfl)).1
theorem LY.n1252 {h : XH} (L : LY h) : hn h 1252 = 16 := (L.2.2.2.1 _ (List.mem_of_getElem? (i := 13) (a := (1252, 103, 16)) rfl)).2
theorem LY.k1253 {h : XH} (L : LY h) : hk h 1253 = 100 := (L.2.2.2.1 _ (List.mem_of_getElem? (i := 14) (a := (1253, 100, 32)) rfl)).1
theorem LY.n1253 {h : XH} (L : LY h) : hn h 1253 = 32 := (L.2.2.2.1 _ (List.mem_of_getElem? (i := 14) (a := (1253, 100, 32)) rfl)).2
theorem LY.k1254 {h : XH} (L : LY h) : hk h 1254 = 100 := (L.2.2.2.1 _ (List.mem_of_getElem? (i := 15) (a := (1254, 100, 34)) rfl)).1
theorem LY.n1254 {h : XH} (L : LY h) : hn h 1254 = 34 := (L.2.2.2.1 _ (List.mem_of_getElem? (i := 15) (a := (1254, 100, 34)) rfl)).2
theorem LY.k1257 {h : XH} (L : LY h) : hk h 1257 = 102 := (L.2.2.2.1 _ (List.mem_of_getElem? (i := 16) (a := (1257, 102, 4000)) rfl)).1
theorem LY.n1257 {h : XH} (L : LY h) : hn h 1257 = 4000 := (L.2.2.2.1 _ (List.mem_of_getElem? (i := 16) (a := (1257, 102, 4000)) rfl)).2
theorem LY.k1258 {h : XH} (L : LY h) : hk h 1258 = 100 := (L.2.2.2.1 _ (List.mem_of_getElem? (i := 17) (a := (1258, 100, 64)) rfl)).1
theorem LY.n1258 {h : XH} (L : LY h) : hn h 1258 = 64 := (L.2.2.2.1 _ (List.mem_of_getElem? (i := 17) (a := (1258, 100, 64)) rfl)).2
theorem LY.k1259 {h : XH} (L : LY h) : hk h 1259 = 100 := (L.2.2.2.1 _ (List.mem_of_getElem? (i := 18) (a := (1259, 100, 64)) rfl)).1
theorem LY.n1259 {h : XH} (L : LY h) : hn h 1259 = 64 := (L.2.2.2.1 _ (List.mem_of_getElem? (i := 18) (a := (1259, 100, 64)) rfl)).2
theorem LY.k1260 {h : XH} (L : LY h) : hk h 1260 = 100 := (L.2.2.2.1 _ (List.mem_of_getElem? (i := 19) (a := (1260, 100, 64)) rfl)).1
theorem LY.n1260 {h : XH} (L : LY h) : hn h 1260 = 64 := (L.2.2.2.1 _ (List.mem_of_getElem? (i := 19) (a := (1260, 100, 64)) rfl)).2
theorem LY.k1261 {h : XH} (L : LY h) : hk h 1261 = 100 := (L.2.2.2.1 _ (List.mem_of_getElem? (i := 20) (a := (1261, 100, 64)) rfl)).1
theorem LY.n1261 {h : XH} (L : LY h) : hn h 1261 = 64 := (L.2.2.2.1 _ (List.mem_of_getElem? (i := 20) (a := (1261, 100, 64)) rfl)).2
theorem LY.k1263 {h : XH} (L : LY h) : hk h 1263 = 100 := (L.2.2.2.1 _ (List.mem_of_getElem? (i := 21) (a := (1263, 100, 4000)) rfl)).1
theorem LY.n1263 {h : XH} (L : LY h) : hn h 1263 = 4000 := (L.2.2.2.1 _ (List.mem_of_getElem? (i := 21) (a := (1263, 100, 4000)) rfl)).2
theorem LY.k1264 {h : XH} (L : LY h) : hk h 1264 = 100 := (L.2.2.2.1 _ (List.mem_of_getElem? (i := 22) (a := (1264, 100, 4000)) rfl)).1
theorem LY.n1264 {h : XH} (L : LY h) : hn h 1264 = 4000 := (L.2.2.2.1 _ (List.mem_of_getElem? (i := 22) (a := (1264, 100, 4000)) rfl)).2
theorem LY.k1265 {h : XH} (L : LY h) : hk h 1265 = 100 := (L.2.2.2.1 _ (List.mem_of_getElem? (i := 23) (a := (1265, 100, 4000)) rfl)).1
theorem LY.n1265 {h : XH} (L : LY h) : hn h 1265 = 4000 := (L.2.2.2.1 _ (List.mem_of_getElem? (i := 23) (a := (1265, 100, 4000)) rfl)).2
theorem LY.k1266 {h : XH} (L : LY h) : hk h 1266 = 100 := (L.2.2.2.1 _ (List.mem_of_getElem? (i := 24) (a := (1266, 100, 4001)) rfl)).1
theorem LY.n1266 {h : XH} (L : LY h) : hn h 1266 = 4001 := (L.2.2.2.1 _ (List.mem_of_getElem? (i := 24) (a := (1266, 100, 4001)) rfl)).2
theorem LY.k1267 {h : XH} (L : LY h) : hk h 1267 = 100 := (L.2.2.2.1 _ (List.mem_of_getElem? (i := 25) (a := (1267, 100, 4001)) rfl)).1
theorem LY.n1267 {h : XH} (L : LY h) : hn h 1267 = 4001 := (L.2.2.2.1 _ (List.mem_of_getElem? (i := 25) (a := (1267, 100, 4001)) rfl)).2
theorem LY.k1268 {h : XH} (L : LY h) : hk h 1268 = 100 := (L.2.2.2.1 _ (List.mem_of_getElem? (i := 26) (a := (1268, 100, 4001)) rfl)).1
theorem LY.n1268 {h : XH} (L : LY h) : hn h 1268 = 4001 := (L.2.2.2.1 _ (List.mem_of_getElem? (i := 26) (a := (1268, 100, 4001)) rfl)).2
theorem LY.k1269 {h : XH} (L : LY h) : hk h 1269 = 100 := (L.2.2.2.1 _ (List.mem_of_getElem? (i := 27) (a := (1269, 100, 4001)) rfl)).1
theorem LY.n1269 {h : XH} (L : LY h) : hn h 1269 = 4001 := (L.2.2.2.1 _ (List.mem_of_getElem? (i := 27) (a := (1269, 100, 4001)) rfl)).2
theorem LY.k1270 {h : XH} (L : LY h) : hk h 1270 = 100 := (L.2.2.2.1 _ (List.mem_of_getElem? (i := 28) (a := (1270, 100, 40)) rfl)).1
theorem LY.n1270 {h : XH} (L : LY h) : hn h 1270 = 40 := (L.2.2.2.1 _ (List.mem_of_getElem? (i := 28) (a := (1270, 100, 40)) rfl)).2
theorem LY.k1271 {h : XH} (L : LY h) : hk h 1271 = 100 := (L.2.2.2.1 _ (List.mem_of_getElem? (i := 29) (a := (1271, 100, 40)) rfl)).1
theorem LY.n1271 {h : XH} (L : LY h) : hn h 1271 = 40 := (L.2.2.2.1 _ (List.mem_of_getElem? (i := 29) (a := (1271, 100, 40)) rfl)).2
theorem LY.k1272 {h : XH} (L : LY h) : hk h 1272 = 100 := (L.2.2.2.1 _ (List.mem_of_getElem? (i := 30) (a := (1272, 100, 40)) rfl)).1
theorem LY.n1272 {h : XH} (L : LY h) : hn h 1272 = 40 := (L.2.2.2.1 _ (List.mem_of_getElem? (i := 30) (a := (1272, 100, 40)) rfl)).2
theorem LY.k1273 {h : XH} (L : LY h) : hk h 1273 = 100 := (L.2.2.2.1 _ (List.mem_of_getElem? (i := 31) (a := (1273, 100, 12)) rfl)).1
theorem LY.n1273 {h : XH} (L : LY h) : hn h 1273 = 12 := (L.2.2.2.1 _ (List.mem_of_getElem? (i := 31) (a := (1273, 100, 12)) rfl)).2
theorem LY.k1274 {h : XH} (L : LY h) : hk h 1274 = 100 := (L.2.2.2.1 _ (List.mem_of_getElem? (i := 32) (a := (1274, 100, 12)) rfl)).1
theorem LY.n1274 {h : XH} (L : LY h) : hn h 1274 = 12 := (L.2.2.2.1 _ (List.mem_of_getElem? (i := 32) (a := (1274, 100, 12)) rfl)).2
theorem LY.k1275 {h : XH} (L : LY h) : hk h 1275 = 100 := (L.2.2.2.1 _ (List.mem_of_getElem? (i := 33) (a := (1275, 100, 12)) rfl)).1
theorem LY.n1275 {h : XH} (L : LY h) : hn h 1275 = 12 := (L.2.2.2.1 _ (List.mem_of_getElem? (i := 33) (a := (1275, 100, 12)) rfl)).2
theorem LY.k1276 {h : XH} (L : LY h) : hk h 1276 = 100 := (L.2.2.2.1 _ (List.mem_of_getElem? (i := 34) (a := (1276, 100, 144)) rfl)).1
theorem LY.n1276 {h : XH} (L : LY h) : hn h 1276 = 144 := (L.2.2.2.1 _ (List.mem_of_getElem? (i := 34) (a := (1276, 100, 144)) rfl)).2
theorem LY.k1277 {h : XH} (L : LY h) : hk h 1277 = 100 := (L.2.2.2.1 _ (List.mem_of_getElem? (i := 35) (a := (1277, 100, 144)) rfl)).1
theorem LY.n1277 {h : XH} (L : LY h) : hn h 1277 = 144 := (L.2.2.2.1 _ (List.mem_of_getElem? (i := 35) (a := (1277, 100, 144)) rfl)).2
theorem LY.k1278 {h : XH} (L : LY h) : hk h 1278 = 100 := (L.2.2.2.1 _ (List.mem_of_getElem? (i := 36) (a := (1278, 100, 144)) rfl)).1
theorem LY.n1278 {h : XH} (L : LY h) : hn h 1278 = 144 := (L.2.2.2.1 _ (List.mem_of_getElem? (i := 36) (a := (1278, 100, 144)) rfl)).2
theorem LY.k1279 {h : XH} (L : LY h) : hk h 1279 = 100 := (L.2.2.2.1 _ (List.mem_of_getElem? (i := 37) (a := (1279, 100, 144)) rfl)).1
theorem LY.n1279 {h : XH} (L : LY h) : hn h 1279 = 144 := (L.2.2.2.1 _ (List.mem_of_getElem? (i := 37) (a := (1279, 100, 144)) rfl)).2
theorem LY.k1280 {h : XH} (L : LY h) : hk h 1280 = 100 := (L.2.2.2.1 _ (List.mem_of_getElem? (i := 38) (a := (1280, 100, 12)) rfl)).1
theorem LY.n1280 {h : XH} (L : LY h) : hn h 1280 = 12 := (L.2.2.2.1 _ (List.mem_of_getElem? (i := 38) (a := (1280, 100, 12)) rfl)).2
theorem LY.k1281 {h : XH} (L : LY h) : hk h 1281 = 100 := (L.2.2.2.1 _ (List.mem_of_getElem? (i := 39) (a := (1281, 100, 1536)) rfl)).1
theorem LY.n1281 {h : XH} (L : LY h) : hn h 1281 = 1536 := (L.2.2.2.1 _ (List.mem_of_getElem? (i := 39) (a := (1281, 100, 1536)) rfl)).2
theorem LY.k1282 {h : XH} (L : LY h) : hk h 1282 = 100 := (L.2.2.2.1 _ (List.mem_of_getElem? (i := 40) (a := (1282, 100, 1536)) rfl)).1
theorem LY.n1282 {h : XH} (L : LY h) : hn h 1282 = 1536 := (L.2.2.2.1 _ (List.mem_of_getElem? (i := 40) (a := (1282, 100, 1536)) rfl)).2
theorem LY.k1283 {h : XH} (L : LY h) : hk h 1283 = 100 := (L.2.2.2.1 _ (List.mem_of_getElem? (i := 41) (a := (1283, 100, 16)) rfl)).1
theorem LY.n1283 {h : XH} (L : LY h) : hn h 1283 = 16 := (L.2.2.2.1 _ (List.mem_of_getElem? (i := 41) (a := (1283, 100, 16)) rfl)).2
theorem LY.k1284 {h : XH} (L : LY h) : hk h 1284 = 100 := (L.2.2.2.1 _ (List.mem_of_getElem? (i := 42) (a := (1284, 100, 16)) rfl)).1
theorem LY.n1284 {h : XH} (L : LY h) : hn h 1284 = 16 := (L.2.2.2.1 _ (List.mem_of_getElem? (i := 42) (a := (1284, 100, 16)) rfl)).2
theorem LY.k1285 {h : XH} (L : LY h) : hk h 1285 = 100 := (L.2.2.2.1 _ (List.mem_of_getElem? (i := 43) (a := (1285, 100, 256)) rfl)).1
theorem LY.n1285 {h : XH} (L : LY h) : hn h 1285 = 256 := (L.2.2.2.1 _ (List.mem_of_getElem? (i := 43) (a := (1285, 100, 256)) rfl)).2
theorem LY.k1286 {h : XH} (L : LY h) : hk h 1286 = 100 := (L.2.2.2.1 _ (List.mem_of_getElem? (i := 44) (a := (1286, 100, 256)) rfl)).1
theorem LY.n1286 {h : XH} (L : LY h) : hn h 1286 = 256 := (L.2.2.2.1 _ (List.mem_of_getElem? (i := 44) (a := (1286, 100, 256)) rfl)).2
theorem LY.k1287 {h : XH} (L : LY h) : hk h 1287 = 100 := (L.2.2.2.1 _ (List.mem_of_getElem? (i := 45) (a := (1287, 100, 256)) rfl)).1
theorem LY.n1287 {h : XH} (L : LY h) : hn h 1287 = 256 := (L.2.2.2.1 _ (List.mem_of_getElem? (i := 45) (a := (1287, 100, 256)) rfl)).2
theorem LY.k1288 {h : XH} (L : LY h) : hk h 1288 = 100 := (L.2.2.2.1 _ (List.mem_of_getElem? (i := 46) (a := (1288, 100, 256)) rfl)).1
theorem LY.n1288 {h : XH} (L : LY h) : hn h 1288 = 256 := (L.2.2.2.1 _ (List.mem_of_getElem? (i := 46) (a := (1288, 100, 256)) rfl)).2
theorem LY.k1289 {h : XH} (L : LY h) : hk h 1289 = 100 := (L.2.2.2.1 _ (List.mem_of_getElem? (i := 47) (a := (1289, 100, 256)) rfl)).1
theorem LY.n1289 {h : XH} (L : LY h) : hn h 1289 = 256 := (L.2.2.2.1 _ (List.mem_of_getElem? (i := 47) (a := (1289, 100, 256)) rfl)).2
theorem LY.k1290 {h : XH} (L : LY h) : hk h 1290 = 100 := (L.2.2.2.1 _ (List.mem_of_getElem? (i := 48) (a := (1290, 100, 256)) rfl)).1
theorem LY.n1290 {h : XH} (L : LY h) : hn h 1290 = 256 := (L.2.2.2.1 _ (List.mem_of_getElem? (i := 48) (a := (1290, 100, 256)) rfl)).2
theorem LY.k1291 {h : XH} (L : LY h) : hk h 1291 = 101 := (L.2.2.2.1 _ (List.mem_of_getElem? (i := 49) (a := (1291, 101, 256)) rfl)).1
theorem LY.n1291 {h : XH} (L : LY h) : hn h 1291 = 256 := (L.2.2.2.1 _ (List.mem_of_getElem? (i := 49) (a := (1291, 101, 256)) rfl)).2
theorem LY.k1292 {h : XH} (L : LY h) : hk h 1292 = 100 := (L.2.2.2.1 _ (List.mem_of_getElem? (i := 50) (a := (1292, 100, 8)) rfl)).1
theorem LY.n1292 {h : XH} (L : LY h) : hn h 1292 = 8 := (L.2.2.2.1 _ (List.mem_of_getElem? (i := 50) (a := (1292, 100, 8)) rfl)).2
theorem LY.k1293 {h : XH} (L : LY h) : hk h 1293 = 100 := (L.2.2.2.1 _ (List.mem_of_getElem? (i := 51) (a := (1293, 100, 64)) rfl)).1
theorem LY.n1293 {h : XH} (L : LY h) : hn h 1293 = 64 := (L.2.2.2.1 _ (List.mem_of_getElem? (i := 51) (a := (1293, 100, 64)) rfl)).2
theorem LY.k1294 {h : XH} (L : LY h) : hk h 1294 = 100 := (L.2.2.2.1 _ (List.mem_of_getElem? (i := 52) (a := (1294, 100, 64)) rfl)).1
theorem LY.n1294 {h : XH} (L : LY h) : hn h 1294 = 64 := (L.2.2.2.1 _ (List.mem_of_getElem? (i := 52) (a := (1294, 100, 64)) rfl)).2
theorem LY.k1295 {h : XH} (L : LY h) : hk h 1295 = 100 := (L.2.2.2.1 _ (List.mem_of_getElem? (i := 53) (a := (1295, 100, 400)) rfl)).1
theorem LY.n1295 {h : XH} (L : LY h) : hn h 1295 = 400 := (L.2.2.2.1 _ (List.mem_of_getElem? (i := 53) (a := (1295, 100, 400)) rfl)).2
theorem LY.k1296 {h : XH} (L : LY h) : hk h 1296 = 100 := (L.2.2.2.1 _ (List.mem_of_getElem? (i := 54) (a := (1296, 100, 400)) rfl)).1
theorem LY.n1296 {h : XH} (L : LY h) : hn h 1296 = 400 := (L.2.2.2.1 _ (List.mem_of_getElem? (i := 54) (a := (1296, 100, 400)) rfl)).2
theorem LY.k1297 {h : XH} (L : LY h) : hk h 1297 = 100 := (L.2.2.2.1 _ (List.mem_of_getElem? (i := 55) (a := (1297, 100, 400)) rfl)).1
theorem LY.n1297 {h : XH} (L : LY h) : hn h 1297 = 400 := (L.2.2.2.1 _ (List.mem_of_getElem? (i := 55) (a := (1297, 100, 400)) rfl)).2
theorem LY.k1298 {h : XH} (L : LY h) : hk h 1298 = 101 := (L.2.2.2.1 _ (List.mem_of_getElem? (i := 56) (a := (1298, 101, 600)) rfl)).1
theorem LY.n1298 {h : XH} (L : LY h) : hn h 1298 = 600 := (L.2.2.2.1 _ (List.mem_of_getElem? (i := 56) (a := (1298, 101, 600)) rfl)).2
theorem LY.k1299 {h : XH} (L : LY h) : hk h 1299 = 100 := (L.2.2.2.1 _ (List.mem_of_getElem? (i := 57) (a := (1299, 100, 4300)) rfl)).1
theorem LY.n1299 {h : XH} (L : LY h) : hn h 1299 = 4300 := (L.2.2.2.1 _ (List.mem_of_getElem? (i := 57) (a := (1299, 100, 4300)) rfl)).2
theorem LY.k1300 {h : XH} (L : LY h) : hk h 1300 = 100 := (L.2.2.2.1 _ (List.mem_of_getElem? (i := 58) (a := (1300, 100, 300)) rfl)).1
theorem LY.n1300 {h : XH} (L : LY h) : hn h 1300 = 300 := (L.2.2.2.1 _ (List.mem_of_getElem? (i := 58) (a := (1300, 100, 300)) rfl)).2
theorem LY.k1301 {h : XH} (L : LY h) : hk h 1301 = 100 := (L.2.2.2.1 _ (List.mem_of_getElem? (i := 59) (a := (1301, 100, 300)) rfl)).1
theorem LY.n1301 {h : XH} (L : LY h) : hn h 1301 = 300 := (L.2.2.2.1 _ (List.mem_of_getElem? (i := 59) (a := (1301, 100, 300)) rfl)).2
theorem LY.k1302 {h : XH} (L : LY h) : hk h 1302 = 100 := (L.2.2.2.1 _ (List.mem_of_getElem? (i := 60) (a := (1302, 100, 300)) rfl)).1
theorem LY.n1302 {h : XH} (L : LY h) : hn h 1302 = 300 := (L.2.2.2.1 _ (List.mem_of_getElem? (i := 60) (a := (1302, 100, 300)) rfl)).2
theorem LY.k1303 {h : XH} (L : LY h) : hk h 1303 = 100 := (L.2.2.2.1 _ (List.mem_of_getElem? (i := 61) (a := (1303, 100, 300)) rfl)).1
theorem LY.n1303 {h : XH} (L : LY h) : hn h 1303 = 300 := (L.2.2.2.1 _ (List.mem_of_getElem? (i := 61) (a := (1303, 100, 300)) rfl)).2
theorem LY.k1304 {h : XH} (L : LY h) : hk h 1304 = 100 := (L.2.2.2.1 _ (List.mem_of_getElem? (i := 62) (a := (1304, 100, 300)) rfl)).1
theorem LY.n1304 {h : XH} (L : LY h) : hn h 1304 = 300 := (L.2.2.2.1 _ (List.mem_of_getElem? (i := 62) (a := (1304, 100, 300)) rfl)).2
theorem LY.k1305 {h : XH} (L : LY h) : hk h 1305 = 100 := (L.2.2.2.1 _ (List.mem_of_getElem? (i := 63) (a := (1305, 100, 300)) rfl)).1
theorem LY.n1305 {h : XH} (L : LY h) : hn h 1305 = 300 := (L.2.2.2.1 _ (List.mem_of_getElem? (i := 63) (a := (1305, 100, 300)) rfl)).2
theorem LY.k1306 {h : XH} (L : LY h) : hk h 1306 = 103 := (L.2.2.2.1 _ (List.mem_of_getElem? (i := 64) (a := (1306, 103, 16)) rfl)).1
theorem LY.n1306 {h : XH} (L : LY h) : hn h 1306 = 16 := (L.2.2.2.1 _ (List.mem_of_getElem? (i := 64) (a := (1306, 103, 16)) rfl)).2
theorem LY.k1307 {h : XH} (L : LY h) : hk h 1307 = 100 := (L.2.2.2.1 _ (List.mem_of_getElem? (i := 65) (a := (1307, 100, 32)) rfl)).1
theorem LY.n1307 {h : XH} (L : LY h) : hn h 1307 = 32 := (L.2.2.2.1 _ (List.mem_of_getElem? (i := 65) (a := (1307, 100, 32)) rfl)).2
theorem LY.k1308 {h : XH} (L : LY h) : hk h 1308 = 100 := (L.2.2.2.1 _ (List.mem_of_getElem? (i := 66) (a := (1308, 100, 4000)) rfl)).1
theorem LY.n1308 {h : XH} (L : LY h) : hn h 1308 = 4000 := (L.2.2.2.1 _ (List.mem_of_getElem? (i := 66) (a := (1308, 100, 4000)) rfl)).2
theorem LY.k1309 {h : XH} (L : LY h) : hk h 1309 = 100 := (L.2.2.2.1 _ (List.mem_of_getElem? (i := 67) (a := (1309, 100, 68)) rfl)).1
theorem LY.n1309 {h : XH} (L : LY h) : hn h 1309 = 68 := (L.2.2.2.1 _ (List.mem_of_getElem? (i := 67) (a := (1309, 100, 68)) rfl)).2
theorem LY.k1310 {h : XH} (L : LY h) : hk h 1310 = 100 := (L.2.2.2.1 _ (List.mem_of_getElem? (i := 68) (a := (1310, 100, 4000)) rfl)).1
theorem LY.n1310 {h : XH} (L : LY h) : hn h 1310 = 4000 := (L.2.2.2.1 _ (List.mem_of_getElem? (i := 68) (a := (1310, 100, 4000)) rfl)).2
theorem LY.k1311 {h : XH} (L : LY h) : hk h 1311 = 100 := (L.2.2.2.1 _ (List.mem_of_getElem? (i := 69) (a := (1311, 100, 4000)) rfl)).1
theorem LY.n1311 {h : XH} (L : LY h) : hn h 1311 = 4000 := (L.2.2.2.1 _ (List.mem_of_getElem? (i := 69) (a := (1311, 100, 4000)) rfl)).2
theorem LY.k1312 {h : XH} (L : LY h) : hk h 1312 = 100 := (L.2.2.2.1 _ (List.mem_of_getElem? (i := 70) (a := (1312, 100, 100)) rfl)).1
theorem LY.n1312 {h : XH} (L : LY h) : hn h 1312 = 100 := (L.2.2.2.1 _ (List.mem_of_getElem? (i := 70) (a := (1312, 100, 100)) rfl)).2
theorem LY.k1313 {h : XH} (L : LY h) : hk h 1313 = 100 := (L.2.2.2.1 _ (List.mem_of_getElem? (i := 71) (a := (1313, 100, 100)) rfl)).1
theorem LY.n1313 {h : XH} (L : LY h) : hn h 1313 = 100 := (L.2.2.2.1 _ (List.mem_of_getElem? (i := 71) (a := (1313, 100, 100)) rfl)).2
theorem LY.k1314 {h : XH} (L : LY h) : hk h 1314 = 100 := (L.2.2.2.1 _ (List.mem_of_getElem? (i := 72) (a := (1314, 100, 100)) rfl)).1
theorem LY.n1314 {h : XH} (L : LY h) : hn h 1314 = 100 := (L.2.2.2.1 _ (List.mem_of_getElem? (i := 72) (a := (1314, 100, 100)) rfl)).2
theorem LY.k1315 {h : XH} (L : LY h) : hk h 1315 = 100 := (L.2.2.2.1 _ (List.mem_of_getElem? (i := 73) (a := (1315, 100, 100)) rfl)).1
theorem LY.n1315 {h : XH} (L : LY h) : hn h 1315 = 100 := (L.2.2.2.1 _ (List.mem_of_getElem? (i := 73) (a := (1315, 100, 100)) rfl)).2
theorem LY.k1316 {h : XH} (L : LY h) : hk h 1316 = 101 := (L.2.2.2.1 _ (List.mem_of_getElem? (i := 74) (a := (1316, 101, 1)) rfl)).1
theorem LY.n1316 {h : XH} (L : LY h) : hn h 1316 = 1 := (L.2.2.2.1 _ (List.mem_of_getElem? (i := 74) (a := (1316, 101, 1)) rfl)).2
theorem LY.r0_0 {h : XH} (L : LY h) : hr h 0 0 = some 1 := L.2.2.2.2.1 _ (List.mem_of_getElem? (i := 0) (a := (0, 0, 1)) rfl)
theorem LY.r0_1 {h : XH} (L : LY h) : hr h 0 1 = some 3 := L.2.2.2.2.1 _ (List.mem_of_getElem? (i := 1) (a := (0, 1, 3)) rfl)
theorem LY.r0_2 {h : XH} (L : LY h) : hr h 0 2 = some 5 := L.2.2.2.2.1 _ (List.mem_of_getElem? (i := 2) (a := (0, 2, 5)) rfl)
theorem LY.r0_3 {h : XH} (L : LY h) : hr h 0 3 = some 7 := L.2.2.2.2.1 _ (List.mem_of_getElem? (i := 3) (a := (0, 3, 7)) rfl)
theorem LY.r0_6 {h : XH} (L : LY h) : hr h 0 6 = some 1244 := L.2.2.2.2.1 _ (List.mem_of_getElem? (i := 4) (a := (0, 6, 1244)) rfl)
theorem LY.r0_7 {h : XH} (L : LY h) : hr h 0 7 = some 1255 := L.2.2.2.2.1 _ (List.mem_of_getElem? (i := 5) (a := (0, 7, 1255)) rfl)
theorem LY.r1_0 {h : XH} (L : LY h) : hr h 1 0 = some 2 := L.2.2.2.2.1 _ (List.mem_of_getElem? (i := 6) (a := (1, 0, 2)) rfl)
theorem LY.r3_0 {h : XH} (L : LY h) : hr h 3 0 = some 4 := L.2.2.2.2.1 _ (List.mem_of_getElem? (i := 7) (a := (3, 0, 4)) rfl)
theorem LY.r5_0 {h : XH} (L : LY h) : hr h 5 0 = some 6 := L.2.2.2.2.1 _ (List.mem_of_getElem? (i := 8) (a := (5, 0, 6)) rfl)
theorem LY.r7_0 {h : XH} (L : LY h) : hr h 7 0 = some 8 := L.2.2.2.2.1 _ (List.mem_of_getElem? (i := 9) (a := (7, 0, 8)) rfl)
theorem LY.r7_1 {h : XH} (L : LY h) : hr h 7 1 = some 9 := L.2.2.2.2.1 _ (List.mem_of_getElem? (i := 10) (a := (7, 1, 9)) rfl)
theorem LY.r7_2 {h : XH} (L : LY h) : hr h 7 2 = some 10 := L.2.2.2.2.1 _ (List.mem_of_getElem? (i := 11) (a := (7, 2, 10)) rfl)
theorem LY.r7_3 {h : XH} (L : LY h) : hr h 7 3 = some 11 := L.2.2.2.2.1 _ (List.mem_of_getElem? (i := 12) (a := (7, 3, 11)) rfl)
theorem LY.r1244_0 {h : XH} (L : LY h) : hr h 1244 0 = some 1245 := L.2.2.2.2.1 _ (List.mem_of_getElem? (i := 13) (a := (1244, 0, 1245)) rfl)
theorem LY.r1244_3 {h : XH} (L : LY h) : hr h 1244 3 = some 1247 := L.2.2.2.2.1 _ (List.mem_of_getElem? (i := 14) (a := (1244, 3, 1247)) rfl)
theorem LY.r1244_4 {h : XH} (L : LY h) : hr h 1244 4 = some 1248 := L.2.2.2.2.1 _ (List.mem_of_getElem? (i := 15) (a := (1244, 4, 1248)) rfl)
theorem LY.r1244_5 {h : XH} (L : LY h) : hr h 1244 5 = some 1249 := L.2.2.2.2.1 _ (List.mem_of_getElem? (i := 16) (a := (1244, 5, 1249)) rfl)
theorem LY.r1244_6 {h : XH} (L : LY h) : hr h 1244 6 = some 1250 := L.2.2.2.2.1 _ (List.mem_of_getElem? (i := 17) (a := (1244, 6, 1250)) rfl)
theorem LY.r1244_8 {h : XH} (L : LY h) : hr h 1244 8 = some 1251 := L.2.2.2.2.1 _ (List.mem_of_getElem? (i := 18) (a := (1244, 8, 1251)) rfl)
theorem LY.r1244_12 {h : XH} (L : LY h) : hr h 1244 12 = some 1252 := L.2.2.2.2.1 _ (List.mem_of_getElem? (i := 19) (a := (1244, 12, 1252)) rfl)
theorem LY.r1244_13 {h : XH} (L : LY h) : hr h 1244 13 = some 1253 := L.2.2.2.2.1 _ (List.mem_of_getElem? (i := 20) (a := (1244, 13, 1253)) rfl)
theorem LY.r1244_14 {h : XH} (L : LY h) : hr h 1244 14 = some 1254 := L.2.2.2.2.1 _ (List.mem_of_getElem? (i := 21) (a := (1244, 14, 1254)) rfl)
theorem LY.r1245_0 {h : XH} (L : LY h) : hr h 1245 0 = some 1246 := L.2.2.2.2.1 _ (List.mem_of_getElem? (i := 22) (a := (1245, 0, 1246)) rfl)
theorem LY.r1255_0 {h : XH} (L : LY h) : hr h 1255 0 = some 1256 := L.2.2.2.2.1 _ (List.mem_of_getElem? (i := 23) (a := (1255, 0, 1256)) rfl)
theorem LY.r1255_1 {h : XH} (L : LY h) : hr h 1255 1 = some 1258 := L.2.2.2.2.1 _ (List.mem_of_getElem? (i := 24) (a := (1255, 1, 1258)) rfl)
theorem LY.r1255_2 {h : XH} (L : LY h) : hr h 1255 2 = some 1259 := L.2.2.2.2.1 _ (List.mem_of_getElem? (i := 25) (a := (1255, 2, 1259)) rfl)
theorem LY.r1255_3 {h : XH} (L : LY h) : hr h 1255 3 = some 1260 := L.2.2.2.2.1 _ (List.mem_of_getElem? (i := 26) (a := (1255, 3, 1260)) rfl)
theorem LY.r1255_4 {h : XH} (L : LY h) : hr h 1255 4 = some 1261 := L.2.2.2.2.1 _ (List.mem_of_getElem? (i := 27) (a := (1255, 4, 1261)) rfl)
theorem LY.r1256_0 {h : XH} (L : LY h) : hr h 1256 0 = some 1257 := L.2.2.2.2.1 _ (List.mem_of_getElem? (i := 28) (a := (1256, 0, 1257)) rfl)
theorem LY.r1262_1 {h : XH} (L : LY h) : hr h 1262 1 = some 1263 := L.2.2.2.2.1 _ (List.mem_of_getElem? (i := 29) (a := (1262, 1, 1263)) rfl)
theorem LY.r1262_3 {h : XH} (L : LY h) : hr h 1262 3 = some 1264 := L.2.2.2.2.1 _ (List.mem_of_getElem? (i := 30) (a := (1262, 3, 1264)) rfl)
theorem LY.r1262_4 {h : XH} (L : LY h) : hr h 1262 4 = some 1265 := L.2.2.2.2.1 _ (List.mem_of_getElem? (i := 31) (a := (1262, 4, 1265)) rfl)
theorem LY.r1262_8 {h : XH} (L : LY h) : hr h 1262 8 = some 1266 := L.2.2.2.2.1 _ (List.mem_of_getElem? (i := 32) (a := (1262, 8, 1266)) rfl)
theorem LY.r1262_9 {h : XH} (L : LY h) : hr h 1262 9 = some 1267 := L.2.2.2.2.1 _ (List.mem_of_getElem? (i := 33) (a := (1262, 9, 1267)) rfl)
theorem LY.r1262_10 {h : XH} (L : LY h) : hr h 1262 10 = some 1268 := L.2.2.2.2.1 _ (List.mem_of_getElem? (i := 34) (a := (1262, 10, 1268)) rfl)
theorem LY.r1262_11 {h : XH} (L : LY h) : hr h 1262 11 = some 1269 := L.2.2.2.2.1 _ (List.mem_of_getElem? (i := 35) (a := (1262, 11, 1269)) rfl)
theorem LY.r1262_17 {h : XH} (L : LY h) : hr h 1262 17 = some 1270 := L.2.2.2.2.1 _ (List.mem_of_getElem? (i := 36) (a := (1262, 17, 1270)) rfl)
theorem LY.r1262_18 {h : XH} (L : LY h) : hr h 1262 18 = some 1271 := L.2.2.2.2.1 _ (List.mem_of_getElem? (i := 37) (a := (1262, 18, 1271)) rfl)
theorem LY.r1262_19 {h : XH} (L : LY h) : hr h 1262 19 = some 1272 := L.2.2.2.2.1 _ (List.mem_of_getElem? (i := 38) (a := (1262, 19, 1272)) rfl)
theorem LY.r1262_21 {h : XH} (L : LY h) : hr h 1262 21 = some 1273 := L.2.2.2.2.1 _ (List.mem_of_getElem? (i := 39) (a := (1262, 21, 1273)) rfl)
theorem LY.r1262_22 {h : XH} (L : LY h) : hr h 1262 22 = some 1274 := L.2.2.2.2.1 _ (List.mem_of_getElem? (i := 40) (a := (1262, 22, 1274)) rfl)
theorem LY.r1262_23 {h : XH} (L : LY h) : hr h 1262 23 = some 1275 := L.2.2.2.2.1 _ (List.mem_of_getElem? (i := 41) (a := (1262, 23, 1275)) rfl)
theorem LY.r1262_24 {h : XH} (L : LY h) : hr h 1262 24 = some 1276 := L.2.2.2.2.1 _ (List.mem_of_getElem? (i := 42) (a := (1262, 24, 1276)) rfl)
theorem LY.r1262_25 {h : XH} (L : LY h) : hr h 1262 25 = some 1277 := L.2.2.2.2.1 _ (List.mem_of_getElem? (i := 43) (a := (1262, 25, 1277)) rfl)
theorem LY.r1262_26 {h : XH} (L : LY h) : hr h 1262 26 = some 1278 := L.2.2.2.2.1 _ (List.mem_of_getElem? (i := 44) (a := (1262, 26, 1278)) rfl)
theorem LY.r1262_27 {h : XH} (L : LY h) : hr h 1262 27 = some 1279 := L.2.2.2.2.1 _ (List.mem_of_getElem? (i := 45) (a := (1262, 27, 1279)) rfl)
theorem LY.r1262_28 {h : XH} (L : LY h) : hr h 1262 28 = some 1280 := L.2.2.2.2.1 _ (List.mem_of_getElem? (i := 46) (a := (1262, 28, 1280)) rfl)
theorem LY.r1262_29 {h : XH} (L : LY h) : hr h 1262 29 = some 1281 := L.2.2.2.2.1 _ (List.mem_of_getElem? (i := 47) (a := (1262, 29, 1281)) rfl)
theorem LY.r1262_30 {h : XH} (L : LY h) : hr h 1262 30 = some 1282 := L.2.2.2.2.1 _ (List.mem_of_getElem? (i := 48) (a := (1262, 30, 1282)) rfl)
theorem LY.r1262_32 {h : XH} (L : LY h) : hr h 1262 32 = some 1283 := L.2.2.2.2.1 _ (List.mem_of_getElem? (i := 49) (a := (1262, 32, 1283)) rfl)
theorem LY.r1262_33 {h : XH} (L : LY h) : hr h 1262 33 = some 1284 := L.2.2.2.2.1 _ (List.mem_of_getElem? (i := 50) (a := (1262, 33, 1284)) rfl)
theorem LY.r1262_34 {h : XH} (L : LY h) : hr h 1262 34 = some 1285 := L.2.2.2.2.1 _ (List.mem_of_getElem? (i := 51) (a := (1262, 34, 1285)) rfl)
theorem LY.r1262_35 {h : XH} (L : LY h) : hr h 1262 35 = some 1286 := L.2.2.2.2.1 _ (List.mem_of_getElem? (i := 52) (a := (1262, 35, 1286)) rfl)
theorem LY.r1262_36 {h : XH} (L : LY h) : hr h 1262 36 = some 1287 := L.2.2.2.2.1 _ (List.mem_of_getElem? (i := 53) (a := (1262, 36, 1287)) rfl)
theorem LY.r1262_37 {h : XH} (L : LY h) : hr h 1262 37 = some 1288 := L.2.2.2.2.1 _ (List.mem_of_getElem? (i := 54) (a := (1262, 37, 1288)) rfl)
theorem LY.r1262_38 {h : XH} (L : LY h) : hr h 1262 38 = some 1289 := L.2.2.2.2.1 _ (List.mem_of_getElem? (i := 55) (a := (1262, 38, 1289)) rfl)
theorem LY.r1262_39 {h : XH} (L : LY h) : hr h 1262 39 = some 1290 := L.2.2.2.2.1 _ (List.mem_of_getElem? (i := 56) (a := (1262, 39, 1290)) rfl)
theorem LY.r1262_40 {h : XH} (L : LY h) : hr h 1262 40 = some 1291 := L.2.2.2.2.1 _ (List.mem_of_getElem? (i := 57) (a := (1262, 40, 1291)) rfl)
theorem LY.r1262_42 {h : XH} (L : LY h) : hr h 1262 42 = some 1292 := L.2.2.2.2.1 _ (List.mem_of_getElem? (i := 58) (a := (1262, 42, 1292)) rfl)
theorem LY.r1262_43 {h : XH} (L : LY h) : hr h 1262 43 = some 1293 := L.2.2.2.2.1 _ (List.mem_of_getElem? (i := 59) (a := (1262, 43, 1293)) rfl)
theorem LY.r1262_44 {h : XH} (L : LY h) : hr h 1262 44 = some 1294 := L.2.2.2.2.1 _ (List.mem_of_getElem? (i := 60) (a := (1262, 44, 1294)) rfl)
theorem LY.r1262_47 {h : XH} (L : LY h) : hr h 1262 47 = some 1295 := L.2.2.2.2.1 _ (List.mem_of_getElem? (i := 61) (a := (1262, 47, 1295)) rfl)
theorem LY.r1262_48 {h : XH} (L : LY h) : hr h 1262 48 = some 1296 := L.2.2.2.2.1 _ (List.mem_of_getElem? (i := 62) (a := (1262, 48, 1296)) rfl)
theorem LY.r1262_49 {h : XH} (L : LY h) : hr h 1262 49 = some 1297 := L.2.2.2.2.1 _ (List.mem_of_getElem? (i := 63) (a := (1262, 49, 1297)) rfl)
theorem LY.r1262_54 {h : XH} (L : LY h) : hr h 1262 54 = some 1298 := L.2.2.2.2.1 _ (List.mem_of_getElem? (i := 64) (a := (1262, 54, 1298)) rfl)
theorem LY.r1262_56 {h : XH} (L : LY h) : hr h 1262 56 = some 1299 := L.2.2.2.2.1 _ (List.mem_of_getElem? (i := 65) (a := (1262, 56, 1299)) rfl)
theorem LY.r1262_60 {h : XH} (L : LY h) : hr h 1262 60 = some 1300 := L.2.2.2.2.1 _ (List.mem_of_getElem? (i := 66) (a := (1262, 60, 1300)) rfl)
theorem LY.r1262_61 {h : XH} (L : LY h) : hr h 1262 61 = some 1301 := L.2.2.2.2.1 _ (List.mem_of_getElem? (i := 67) (a := (1262, 61, 1301)) rfl)
theorem LY.r1262_62 {h : XH} (L : LY h) : hr h 1262 62 = some 1302 := L.2.2.2.2.1 _ (List.mem_of_getElem? (i := 68) (a := (1262, 62, 1302)) rfl)
theorem LY.r1262_63 {h : XH} (L : LY h) : hr h 1262 63 = some 1303 := L.2.2.2.2.1 _ (List.mem_of_getElem? (i := 69) (a := (1262, 63, 1303)) rfl)
theorem LY.r1262_65 {h : XH} (L : LY h) : hr h 1262 65 = some 1304 := L.2.2.2.2.1 _ (List.mem_of_getElem? (i := 70) (a := (1262, 65, 1304)) rfl)
theorem LY.r1262_66 {h : XH} (L : LY h) : hr h 1262 66 = some 1305 := L.2.2.2.2.1 _ (List.mem_of_getElem? (i := 71) (a := (1262, 66, 1305)) rfl)
theorem LY.r1262_69 {h : XH} (L : LY h) : hr h 1262 69 = some 1306 := L.2.2.2.2.1 _ (List.mem_of_getElem? (i := 72) (a := (1262, 69, 1306)) rfl)
theorem LY.r1262_70 {h : XH} (L : LY h) : hr h 1262 70 = some 1307 := L.2.2.2.2.1 _ (List.mem_of_getElem? (i := 73) (a := (1262, 70, 1307)) rfl)
theorem LY.r1262_71 {h : XH} (L : LY h) : hr h 1262 71 = some 1308 := L.2.2.2.2.1 _ (List.mem_of_getElem? (i := 74) (a := (1262, 71, 1308)) rfl)
theorem LY.r1262_73 {h : XH} (L : LY h) : hr h 1262 73 = some 1309 := L.2.2.2.2.1 _ (List.mem_of_getElem? (i := 75) (a := (1262, 73, 1309)) rfl)
theorem LY.r1262_74 {h : XH} (L : LY h) : hr h 1262 74 = some 1310 := L.2.2.2.2.1 _ (List.mem_of_getElem? (i := 76) (a := (1262, 74, 1310)) rfl)
theorem LY.r1262_79 {h : XH} (L : LY h) : hr h 1262 79 = some 1311 := L.2.2.2.2.1 _ (List.mem_of_getElem? (i := 77) (a := (1262, 79, 1311)) rfl)
theorem LY.r1262_83 {h : XH} (L : LY h) : hr h 1262 83 = some 1312 := L.2.2.2.2.1 _ (List.mem_of_getElem? (i := 78) (a := (1262, 83, 1312)) rfl)
theorem LY.r1262_84 {h : XH} (L : LY h) : hr h 1262 84 = some 1313 := L.2.2.2.2.1 _ (List.mem_of_getElem? (i := 79) (a := (1262, 84, 1313)) rfl)
theorem LY.r1262_85 {h : XH} (L : LY h) : hr h 1262 85 = some 1314 := L.2.2.2.2.1 _ (List.mem_of_getElem? (i := 80) (a := (1262, 85, 1314)) rfl)
theorem LY.r1262_86 {h : XH} (L : LY h) : hr h 1262 86 = some 1315 := L.2.2.2.2.1 _ (List.mem_of_getElem? (i := 81) (a := (1262, 86, 1315)) rfl)
theorem LY.by1 {h : XH} (L : LY h) : BY h 1 2 := ⟨L.lt (by decide), L.k1, L.r1_0, L.lt (by decide), L.k2, L.n2, L.2.1⟩
theorem LY.by3 {h : XH} (L : LY h) : BY h 3 4 := ⟨L.lt (by decide), L.k3, L.r3_0, L.lt (by decide), L.k4, L.n4, L.2.1⟩
theorem LY.by1245 {h : XH} (L : LY h) : BY h 1245 1246 := ⟨L.lt (by decide), L.k1245, L.r1245_0, L.lt (by decide), L.k1246, L.n1246, L.2.1⟩
theorem LY.by1256 {h : XH} (L : LY h) : BY h 1256 1257 := ⟨L.lt (by decide), L.k1256, L.r1256_0, L.lt (by decide), L.k1257, L.n1257, L.2.1⟩
theorem LY.va {h : XH} (L : LY h) : VA h 5 6 := ⟨L.lt (by decide), L.k5, L.r5_0, L.lt (by decide), L.k6, L.n6, L.2.1⟩
theorem s_getie {l : Launch} {G : XG} {q : xEnt} {d pc a idx ci k : Nat} {L : List (Option Value)} {st : List Value} {h : XH} {x : Int32} (hc : xI q pc = some (.getfield idx, 3)) (hf : xLf (xCls q.1) idx ci k) (ha : xIn h a) (hk0 : hk h a = ci) (h13 : ci < 13) (ht : xft ci k = 0) (e : hi h a k = x) : XS l G q d (pc, L, .ref a :: st, h) (pc + 3, L, .int x :: st, h) := e ▸ s_geti hc hf ha hk0 h13 ht
theorem s_getze {l : Launch} {G : XG} {q : xEnt} {d pc a idx ci k : Nat} {L : List (Option Value)} {st : List Value} {h : XH} {x : Int32} (hc : xI q pc = some (.getfield idx, 3)) (hf : xLf (xCls q.1) idx ci k) (ha : xIn h a) (hk0 : hk h a = ci) (h13 : ci < 13) (ht : xft ci k = 3) (e : hi h a k = x) : XS l G q d (pc, L, .ref a :: st, h) (pc + 3, L, .int x :: st, h) := e ▸ s_getz hc hf ha hk0 h13 ht
theorem s_getje {l : Launch} {G : XG} {q : xEnt} {d pc a idx ci k : Nat} {L : List (Option Value)} {st : List Value} {h : XH} {x : Int64} (hc : xI q pc = some (.getfield idx, 3)) (hf : xLf (xCls q.1) idx ci k) (ha : xIn h a) (hk0 : hk h a = ci) (h13 : ci < 13) (ht : xft ci k = 1) (e : hj h a k = x) : XS l G q d (pc, L, .ref a :: st, h) (pc + 3, L, .long x :: st, h) := e ▸ s_getj hc hf ha hk0 h13 ht
theorem s_ialde {l : Launch} {G : XG} {q : xEnt} {d pc a : Nat} {L : List (Option Value)} {st : List Value} {h : XH} {i x : Int32} (hc : xI q pc = some (.iaload, 1)) (ha : a < hz h) (hk0 : hk h a = 100) (hin : vp_in i (hn h a)) (e : hi h a i.toNatClampNeg = x) : XS l G q d (pc, L, .int i :: .ref a :: st, h) (pc + 1, L, .int x :: st, h) := e ▸ s_iald hc ha hk0 hin
theorem s_zalde {l : Launch} {G : XG} {q : xEnt} {d pc a : Nat} {L : List (Option Value)} {st : List Value} {h : XH} {i x : Int32} (hc : xI q pc = some (.baload, 1)) (ha : a < hz h) (hk0 : hk h a = 103) (hin : vp_in i (hn h a)) (e : hi h a i.toNatClampNeg = x) : XS l G q d (pc, L, .int i :: .ref a :: st, h) (pc + 1, L, .int x :: st, h) := e ▸ s_zald hc ha hk0 hin
theorem s_balde {l : Launch} {G : XG} {q : xEnt} {d pc a : Nat} {L : List (Option Value)} {st : List Value} {h : XH} {i x : Int32} (hc : xI q pc = some (.baload, 1)) (ha : a < hz h) (hk0 : hk h a = 102) (hin : vp_in i (hn h a)) (e : hi h a i.toNatClampNeg = x) : XS l G q d (pc, L, .int i :: .ref a :: st, h) (pc + 1, L, .int x :: st, h) := e ▸ s_bald hc ha hk0 hin
theorem s_lalde {l : Launch} {G : XG} {q : xEnt} {d pc a : Nat} {L : List (Option Value)} {st : List Value} {h : XH} {i : Int32} {x : Int64} (hc : xI q pc = some (.laload, 1)) (ha : a < hz h) (hk0 : hk h a = 101) (hin : vp_in i (hn h a)) (e : hj h a i.toNatClampNeg = x) : XS l G q d (pc, L, .int i :: .ref a :: st, h) (pc + 1, L, .long x :: st, h) := e ▸ s_lald hc ha hk0 hin
theorem s_alene {l : Launch} {G : XG} {q : xEnt} {d pc a N K : Nat} {L : List (Option Value)} {st : List Value} {h : XH} (hc : xI q pc = some (.arraylength, 1)) (ha : a < hz h) (hk0 : hk h a = K) (e : hn h a = N) (hK : 100 ≤ K ∧ K ≤ 105) : XS l G q d (pc, L, .ref a :: st, h) (pc + 1, L, .int (nI N) :: st, h) := by
  subst hk0 e
  exact s_alen hc ha hK
theorem tsw_out {x : Int32} (lo hi' : Int) (hlo : -2147483648 ≤ lo ∧ hi' < 2147483648) (H : ∀ k : Int, lo ≤ k → k ≤ hi' → ¬ x = Int32.ofInt k) : x.toInt < lo ∨ hi' < x.toInt := by
  rcases Int.lt_or_le x.toInt lo with q | q
  · exact Or.inl q
  rcases Int.lt_or_le hi' x.toInt with r | r
  · exact Or.inr r
  exact absurd (Int32.ofInt_toInt x).symm (H x.toInt q r)
theorem cmp_lt {x y : Int64} : lg_cmp x y < 0 ↔ x < y := by
  unfold lg_cmp
  by_cases h1 : x > y
  · rw [if_pos h1]; exact ⟨fun z => absurd z (by decide), fun z => absurd (Int64.lt_trans z h1) (Int64.lt_irrefl)⟩
  · rw [if_neg h1]
    by_cases h2 : x = y
    · rw [if_pos h2]; exact ⟨fun z => absurd z (by decide), fun z => absurd (h2 ▸ z) (Int64.lt_irrefl)⟩
    · rw [if_neg h2]; exact ⟨fun _ => Int64.lt_of_le_of_ne (Int64.not_lt.mp h1) h2, fun _ => by decide⟩
theorem cmp_eq {x y : Int64} : lg_cmp x y = 0 ↔ x = y := by
  unfold lg_cmp
  by_cases h1 : x > y
  · rw [if_pos h1]; exact ⟨fun z => absurd z (by decide), fun z => absurd (z ▸ h1) (Int64.lt_irrefl)⟩
  · rw [if_neg h1]
    by_cases h2 : x = y
    · rw [if_pos h2]; exact ⟨fun _ => h2, fun _ => rfl⟩
    · rw [if_neg h2]; exact ⟨fun z => absurd z (by decide), fun z => absurd z h2⟩
theorem cmp_gt {x y : Int64} : 0 < lg_cmp x y ↔ y < x := by
  unfold lg_cmp
  by_cases h1 : x > y
  · rw [if_pos h1]; exact ⟨fun _ => h1, fun _ => by decide⟩
  · rw [if_neg h1]
    by_cases h2 : x = y
    · rw [if_pos h2]; exact ⟨fun z => absurd z (by decide), fun z => absurd z h1⟩
    · rw [if_neg h2]; exact ⟨fun z => absurd z (by decide), fun z => absurd z h1⟩
theorem in_long {v M : Int64} {n N : Nat} (e : n = N) (hN : N < 2 ^ 31) (hM : M.toInt = N) (h0 : ¬ lg_cmp v 0 < 0) (h1 : lg_cmp v M < 0) : vp_in v.toInt32 n := by
  subst e
  have a : ¬ v < 0 := fun z => h0 (cmp_lt.mpr z)
  have b : v < M := cmp_lt.mp h1
  have a1 : 0 ≤ v.toInt := by
    have := Int64.le_iff_toInt_le.mp (Int64.not_lt.mp a)
    simpa using this
  have b1 := Int64.lt_iff_toInt_lt.mp b
  rw [hM] at b1
  rw [vp_in_iff]
  have c1 : v.toInt32.toInt = v.toInt.bmod (2 ^ 32) := Int64.toInt_toInt32 v
  have c2 : v.toInt.bmod (2 ^ 32) = v.toInt := by
    rw [Int.bmod_eq_of_le] <;> omega
  rw [c1, c2]
  exact ⟨a1, b1⟩
theorem hi_hsi_eq {h : XH} {a k : Nat} {v : Int32} : hi (hsi h a k v) a k = v := if_pos ⟨rfl, rfl⟩
theorem hi_hsi_nk {h : XH} {a k b j : Nat} {v : Int32} (e : j ≠ k) : hi (hsi h a k v) b j = hi h b j := if_neg fun z => e z.2
theorem hi_hsi_na {h : XH} {a k b j : Nat} {v : Int32} (e : b ≠ a) : hi (hsi h a k v) b j = hi h b j := if_neg fun z => e z.1
theorem hi_hri_na {h : XH} {a b j : Nat} {f : Nat → Int32} (e : b ≠ a) : hi (hri h a f) b j = hi h b j := congrFun (hi_hri_ne e) j
theorem hi_hri_at {h : XH} {a j : Nat} {f : Nat → Int32} : hi (hri h a f) a j = f j := congrFun hi_hri_eq j
theorem hj_hsj_eq {h : XH} {a k : Nat} {v : Int64} : hj (hsj h a k v) a k = v := if_pos ⟨rfl, rfl⟩
theorem hj_hsj_nk {h : XH} {a k b j : Nat} {v : Int64} (e : j ≠ k) : hj (hsj h a k v) b j = hj h b j := if_neg fun z => e z.2
theorem hj_hsj_na {h : XH} {a k b j : Nat} {v : Int64} (e : b ≠ a) : hj (hsj h a k v) b j = hj h b j := if_neg fun z => e z.1
theorem hj_hrj_na {h : XH} {a b j : Nat} {f : Nat → Int64} (e : b ≠ a) : hj (hrj h a f) b j = hj h b j := congrFun (hj_hrj_ne e) j
theorem hj_hrj_at {h : XH} {a j : Nat} {f : Nat → Int64} : hj (hrj h a f) a j = f j := congrFun hj_hrj_eq j
theorem inLit {i : Int32} {n N : Nat} (e : n = N) (h0 : 0 ≤ i) (h1 : i < nI N) (hN : N < 2 ^ 31) : vp_in i n := in_of e hN (Int32.not_lt.mpr h0) (Int32.not_le.mpr h1)
/-- an index that is a natural number -/
theorem inN {i : Int32} {k n N : Nat} (e : n = N) (hi' : i = nI k) (hk' : k < N) (hN : N < 2 ^ 31) : vp_in i n := by subst hi'; exact in_nI e hk' hN
