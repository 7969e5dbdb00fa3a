/-! An abstract heap: cells 0 .. hz h - 1 (and constants from 10000000 on), each of a kind hk, a length hn, with ints, longs, references. The first cell that the law makes is 0. -/
abbrev XH : Type := Nat × Nat × (Nat → Nat) × (Nat → Nat) × (Nat → Nat → Int32) × (Nat → Nat → Int64) × (Nat → Nat → Option Nat)
def hz (h : XH) : Nat := h.1
def hw (h : XH) : Nat := h.2.1
def hk (h : XH) (a : Nat) : Nat := h.2.2.1 a
def hn (h : XH) (a : Nat) : Nat := h.2.2.2.1 a
def hi (h : XH) (a k : Nat) : Int32 := h.2.2.2.2.1 a k
def hj (h : XH) (a k : Nat) : Int64 := h.2.2.2.2.2.1 a k
def hr (h : XH) (a k : Nat) : Option Nat := h.2.2.2.2.2.2 a k
def x1 {α : Type} (f : Nat → α) (a : Nat) (v : α) : Nat → α := fun b => if b = a then v else f b
def x2 {α : Type} (f : Nat → Nat → α) (a k : Nat) (v : α) : Nat → Nat → α := fun b j => if b = a ∧ j = k then v else f b j
def hsi (h : XH) (a k : Nat) (v : Int32) : XH := (h.1, h.2.1, h.2.2.1, h.2.2.2.1, x2 h.2.2.2.2.1 a k v, h.2.2.2.2.2.1, h.2.2.2.2.2.2)
def hsj (h : XH) (a k : Nat) (v : Int64) : XH := (h.1, h.2.1, h.2.2.1, h.2.2.2.1, h.2.2.2.2.1, x2 h.2.2.2.2.2.1 a k v, h.2.2.2.2.2.2)
def hsr (h : XH) (a k : Nat) (v : Option Nat) : XH := (h.1, h.2.1, h.2.2.1, h.2.2.2.1, h.2.2.2.2.1, h.2.2.2.2.2.1, x2 h.2.2.2.2.2.2 a k v)
/-- a new cell of a kind, with n places; it takes n slots -/
def hnew (h : XH) (kind n : Nat) : XH := (h.1 + 1, h.2.1 + n, x1 h.2.2.1 h.1 kind, x1 h.2.2.2.1 h.1 n, x1 h.2.2.2.2.1 h.1 (fun _ => 0), x1 h.2.2.2.2.2.1 h.1 (fun _ => 0), x1 h.2.2.2.2.2.2 h.1 (fun _ => none))
theorem x2_eq {α : Type} {f : Nat → Nat → α} {a k : Nat} {v : α} : x2 f a k v a k = v := by simp [x2]
theorem x2_na {α : Type} {f : Nat → Nat → α} {a k b j : Nat} {v : α} (h : b ≠ a) : x2 f a k v b j = f b j := by simp [x2, h]
theorem x2_nk {α : Type} {f : Nat → Nat → α} {a k b j : Nat} {v : α} (h : j ≠ k) : x2 f a k v b j = f b j := by simp [x2, h]
/-- the sorts of fields, by classes: 0 an int, 1 a long, 2 a reference, 3 a boolean -/
def xftL : List (List Nat) := [[2, 0, 0, 2, 2, 2, 2, 0, 2, 0, 0, 0, 2, 2, 2, 0], [2, 0], [0, 0, 2, 0, 1, 1, 0, 0, 0, 2, 2, 0], [1, 1, 0, 0, 0, 0, 0, 3, 1], [2, 0], [2, 2, 0, 0, 0, 0], [2, 2, 2, 2, 0, 0], [2, 2, 2, 0, 2, 0, 0, 0, 0], [2, 2, 2, 2, 2, 0, 0, 0, 0, 0, 1, 0], [2, 2, 2, 2, 0, 0], [2, 0], [2, 2, 2, 2, 2, 2, 2, 2, 0, 0, 0, 0, 0], [0, 2, 0, 2, 2, 0, 0, 3, 2, 2, 2, 2, 0, 0, 0, 0, 0, 2, 2, 2, 0, 2, 2, 2, 2, 2, 2, 2, 2, 2, 2, 0, 2, 2, 2, 2, 2, 2, 2, 2, 2, 0, 2, 2, 2, 0, 0, 2, 2, 2, 0, 0, 0, 0, 2, 0, 2, 0, 0, 0, 2, 2, 2, 2, 0, 2, 2, 0, 0, 2, 2, 2, 0, 2, 2, 0, 0, 0, 0, 2, 0, 3, 0, 2, 2, 2, 2, 0]]
def xft (ci k : Nat) : Nat := (xftL.getD ci []).getD k 0
def fv (h : XH) (a k : Nat) : Value := match xft (hk h a) k with
  | 0 => .int (hi h a k)
  | 1 => .long (hj h a k)
  | 2 => va_rf (hr h a k)
  | _ => .int (hi h a k)
/-- where the cells lie: the base, the constants' places, the classes' numbers and slots, the heap ahead of the law -/
abbrev XG : Type := Nat × (Nat → Nat) × (Nat → ClassId) × (Nat → Nat → Nat) × Heap × Nat × (Nat → Int32)
def gB (G : XG) : Nat := G.1
def gA (G : XG) (a : Nat) : Nat := if a < 10000000 then G.1 + a else G.2.1 a
def gD (G : XG) : va_G := (G.2.2.1, G.2.2.2.1)
def gH (G : XG) : Heap := G.2.2.2.2.1
def gN (G : XG) : Nat := G.2.2.2.2.2.1
def gX (G : XG) : Nat → Int32 := G.2.2.2.2.2.2
def gO (G : XG) : Nat → Prop := fun z => gB G ≤ z
/-- texts of the constant pools: of the i-th the reference is 10000010 + i -/
def xStrs : List (String × Nat × String) := [("FlatTables$Lexer", 106, "bool"), ("FlatTables$Lexer", 108, "byte"), ("FlatTables$Lexer", 110, "ubyte"), ("FlatTables$Lexer", 112, "short"), ("FlatTables$Lexer", 114, "ushort"), ("FlatTables$Lexer", 116, "int"), ("FlatTables$Lexer", 118, "uint"), ("FlatTables$Lexer", 120, "long"), ("FlatTables$Lexer", 122, "ulong"), ("FlatTables$Lexer", 124, "float"), ("FlatTables$Lexer", 126, "double"), ("FlatTables$Lexer", 128, "text"), ("FlatTables$Lexer", 130, "struct"), ("FlatTables$Lexer", 132, "table"), ("FlatTables$Lexer", 134, "union"), ("FlatTables$Lexer", 136, "root"), ("FlatTables$Lexer", 138, "required"), ("FlatTables$Lexer", 63, "{}[]():;=,"), ("FlatTables", 105, "the schema has a fault"), ("FlatTables", 218, "a table is open"), ("FlatTables", 227, "no room for the text"), ("FlatTables", 241, "no elements of this sort"), ("FlatTables", 247, "no room for the vector"), ("FlatTables", 278, "no such table"), ("FlatTables", 284, "no table is open"), ("FlatTables", 289, "no such field"), ("FlatTables", 298, "set already, or not by these values"), ("FlatTables", 307, "no room for the field"), ("FlatTables", 316, "no table is open, or a required field was not set"), ("FlatTables", 321, "no room for the table"), ("FlatTables", 323, "no table of the root's number"), ("FlatTables", 329, "no room for the root's reference"), ("FlatTables", 345, "neither the tape nor the out"), ("FlatTables", 347, "there is no schema"), ("FlatTables", 378, "no part with a value"), ("FlatTablesModel", 209, "bool byte ubyte short ushort int uint long ulong float double struct table union root required text ")]
def xNest : List (String × Nat × MethodName × String) := [("FlatTables", 9, ({ cls := "FlatTables$Bytes", name := "<init>", desc := "()V" } : Jvm.MethodName), "FlatTables"), ("FlatTables", 21, ({ cls := "FlatTables$Values", name := "<init>", desc := "()V" } : Jvm.MethodName), "FlatTables"), ("FlatTables", 28, ({ cls := "FlatTables$Lexer", name := "<init>", desc := "()V" } : Jvm.MethodName), "FlatTables"), ("FlatTables", 35, ({ cls := "FlatTables$Schema", name := "<init>", desc := "()V" } : Jvm.MethodName), "FlatTables"), ("FlatTables$Definition", 46, ({ cls := "FlatTables$Field", name := "<init>", desc := "()V" } : Jvm.MethodName), "FlatTables"), ("FlatTables", 45, ({ cls := "FlatTables$Builder", name := "<init>", desc := "()V" } : Jvm.MethodName), "FlatTables"), ("FlatTables$Builder", 11, ({ cls := "FlatTables$Bytes", name := "<init>", desc := "()V" } : Jvm.MethodName), "FlatTables"), ("FlatTables", 52, ({ cls := "FlatTables$Reader", name := "<init>", desc := "()V" } : Jvm.MethodName), "FlatTables"), ("FlatTables$Reader", 11, ({ cls := "FlatTables$Bytes", name := "<init>", desc := "()V" } : Jvm.MethodName), "FlatTables"), ("FlatTables$Schema", 53, ({ cls := "FlatTables", name := "scalarBytes", desc := "(I)I" } : Jvm.MethodName), "FlatTables"), ("FlatTables$Reader", 121, ({ cls := "FlatTables", name := "fieldOf", desc := "(LFlatTables$Definition;I)LFlatTables$Field;" } : Jvm.MethodName), "FlatTables"), ("FlatTables$Judge", 136, ({ cls := "FlatTables", name := "isAligned", desc := "(II)Z" } : Jvm.MethodName), "FlatTables"), ("FlatTables$Parser", 21, ({ cls := "FlatTables$Field", name := "<init>", desc := "()V" } : Jvm.MethodName), "FlatTables"), ("FlatTables$Parser", 174, ({ cls := "FlatTables", name := "roundUp", desc := "(II)I" } : Jvm.MethodName), "FlatTables"), ("FlatTables$Parser", 229, ({ cls := "FlatTables", name := "isValue", desc := "(IJ)Z" } : Jvm.MethodName), "FlatTables"), ("FlatTables$Builder", 87, ({ cls := "FlatTables", name := "roundUp", desc := "(II)I" } : Jvm.MethodName), "FlatTables"), ("FlatTables$Builder", 130, ({ cls := "FlatTables", name := "scalarBytes", desc := "(I)I" } : Jvm.MethodName), "FlatTables"), ("FlatTables$Bytes", 27, ({ cls := "FlatTables", name := "scalarBytes", desc := "(I)I" } : Jvm.MethodName), "FlatTables"), ("FlatTables$Bytes", 34, ({ cls := "FlatTables", name := "hasSign", desc := "(I)Z" } : Jvm.MethodName), "FlatTables")]
def xSB (j : Nat) : Int32 := [1, 1, 1, 2, 2, 4, 4, 8, 8, 4, 8].getD j 0
def xLO (j : Nat) : Int64 := [0, -128, 0, -32768, 0, -2147483648, 0, -9223372036854775808, -9223372036854775808, -2147483648, -9223372036854775808].getD j 0
def xHI (j : Nat) : Int64 := [1, 127, 255, 32767, 65535, 2147483647, 4294967295, 9223372036854775807, 9223372036854775807, 2147483647, 9223372036854775807].getD j 0
/-- the texts: their bytes, their lengths -/
def xsB : List (List Int32) := [[98, 111, 111, 108], [98, 121, 116, 101], [117, 98, 121, 116, 101], [115, 104, 111, 114, 116], [117, 115, 104, 111, 114, 116], [105, 110, 116], [117, 105, 110, 116], [108, 111, 110, 103], [117, 108, 111, 110, 103], [102, 108, 111, 97, 116], [100, 111, 117, 98, 108, 101], [116, 101, 120, 116], [115, 116, 114, 117, 99, 116], [116, 97, 98, 108, 101], [117, 110, 105, 111, 110], [114, 111, 111, 116], [114, 101, 113, 117, 105, 114, 101, 100], [123, 125, 91, 93, 40, 41, 58, 59, 61, 44], [116, 104, 101, 32, 115, 99, 104, 101, 109, 97, 32, 104, 97, 115, 32, 97, 32, 102, 97, 117, 108, 116], [97, 32, 116, 97, 98, 108, 101, 32, 105, 115, 32, 111, 112, 101, 110], [110, 111, 32, 114, 111, 111, 109, 32, 102, 111, 114, 32, 116, 104, 101, 32, 116, 101, 120, 116], [110, 111, 32, 101, 108, 101, 109, 101, 110, 116, 115, 32, 111, 102, 32, 116, 104, 105, 115, 32, 115, 111, 114, 116], [110, 111, 32, 114, 111, 111, 109, 32, 102, 111, 114, 32, 116, 104, 101, 32, 118, 101, 99, 116, 111, 114], [110, 111, 32, 115, 117, 99, 104, 32, 116, 97, 98, 108, 101], [110, 111, 32, 116, 97, 98, 108, 101, 32, 105, 115, 32, 111, 112, 101, 110], [110, 111, 32, 115, 117, 99, 104, 32, 102, 105, 101, 108, 100], [115, 101, 116, 32, 97, 108, 114, 101, 97, 100, 121, 44, 32, 111, 114, 32, 110, 111, 116, 32, 98, 121, 32, 116, 104, 101, 115, 101, 32, 118, 97, 108, 117, 101, 115], [110, 111, 32, 114, 111, 111, 109, 32, 102, 111, 114, 32, 116, 104, 101, 32, 102, 105, 101, 108, 100], [110, 111, 32, 116, 97, 98, 108, 101, 32, 105, 115, 32, 111, 112, 101, 110, 44, 32, 111, 114, 32, 97, 32, 114, 101, 113, 117, 105, 114, 101, 100, 32, 102, 105, 101, 108, 100, 32, 119, 97, 115, 32, 110, 111, 116, 32, 115, 101, 116], [110, 111, 32, 114, 111, 111, 109, 32, 102, 111, 114, 32, 116, 104, 101, 32, 116, 97, 98, 108, 101], [110, 111, 32, 116, 97, 98, 108, 101, 32, 111, 102, 32, 116, 104, 101, 32, 114, 111, 111, 116, 39, 115, 32, 110, 117, 109, 98, 101, 114], [110, 111, 32, 114, 111, 111, 109, 32, 102, 111, 114, 32, 116, 104, 101, 32, 114, 111, 111, 116, 39, 115, 32, 114, 101, 102, 101, 114, 101, 110, 99, 101], [110, 101, 105, 116, 104, 101, 114, 32, 116, 104, 101, 32, 116, 97, 112, 101, 32, 110, 111, 114, 32, 116, 104, 101, 32, 111, 117, 116], [116, 104, 101, 114, 101, 32, 105, 115, 32, 110, 111, 32, 115, 99, 104, 101, 109, 97], [110, 111, 32, 112, 97, 114, 116, 32, 119, 105, 116, 104, 32, 97, 32, 118, 97, 108, 117, 101], [98, 111, 111, 108, 32, 98, 121, 116, 101, 32, 117, 98, 121, 116, 101, 32, 115, 104, 111, 114, 116, 32, 117, 115, 104, 111, 114, 116, 32, 105, 110, 116, 32, 117, 105, 110, 116, 32, 108, 111, 110, 103, 32, 117, 108, 111, 110, 103, 32, 102, 108, 111, 97, 116, 32, 100, 111, 117, 98, 108, 101, 32, 115, 116, 114, 117, 99, 116, 32, 116, 97, 98, 108, 101, 32, 117, 110, 105, 111, 110, 32, 114, 111, 111, 116, 32, 114, 101, 113, 117, 105, 114, 101, 100, 32, 116, 101, 120, 116, 32]]
def xsL : List Nat := [4, 4, 5, 5, 6, 3, 4, 4, 5, 5, 6, 4, 6, 5, 5, 4, 8, 10, 22, 15, 20, 24, 22, 13, 16, 13, 35, 21, 49, 21, 29, 32, 28, 18, 20, 100]
/-- the classes of what is thrown -/
def xXs : List String := ["java/lang/IllegalArgumentException", "java/lang/IllegalStateException", "java/lang/UnsupportedOperationException", "java/util/NoSuchElementException"]
def xDs : List String := ["java/lang/RuntimeException", "java/lang/Exception", "java/lang/Throwable"]
def xCast (C : String) (U : State) : Prop := ∃ c : ClassId, U.vm.findClass C = some c ∧ U.vm.assignable c c = true
theorem xCast.moved {C : String} {u U : State} (hvm : u.vm.Alike U.vm) (h : xCast C u) : xCast C U := by
  obtain ⟨c, h1, h3⟩ := h
  exact ⟨c, by rw [hvm.findClass]; exact h1, by rw [hvm.assignable]; exact h3⟩
/-- what else the start gives: arrays of own classes, nest mates' links, texts, static arrays (10000001 .. 3), the script (10000000) -/
def xEx (G : XG) (s : State) : Prop :=
  (va_AO RX3 s ∧ va_AO RX2 s) ∧ (∀ t ∈ xNest, va_Nw (.methodLinkNest t.1 t.2.1 t.2.2.1 t.2.2.2) s) ∧ (∀ (i : Nat) (t : String × Nat × String), xStrs[i]? = some t → vk_R t.1 t.2.1 t.2.2 (G.2.1 (10000010 + i)) s) ∧
  (va_Z "FlatTables" "SCALAR_BYTES" "[I" (.ref (G.2.1 10000001)) (gO G) s (gH G) ∧ va_Z "FlatTables" "LOWEST" "[J" (.ref (G.2.1 10000002)) (gO G) s (gH G) ∧ va_Z "FlatTables" "HIGHEST" "[J" (.ref (G.2.1 10000003)) (gO G) s (gH G)) ∧
  (va_T .int (G.2.1 10000001) 11 (fun j => .int (xSB j)) (gO G) s (gH G) ∧ va_T .long (G.2.1 10000002) 11 (fun j => .long (xLO j)) (gO G) s (gH G) ∧ va_T .long (G.2.1 10000003) 11 (fun j => .long (xHI j)) (gO G) s (gH G)) ∧
  va_T .int (G.2.1 10000000) (gN G) (fun j => .int (gX G j)) (gO G) s (gH G) ∧
  (vx_Zq Bundle.tN "UNASSIGNED_STACK" Bundle.steD (gO G) s (gH G) ∧ vx_Zq Bundle.tN "SUPPRESSED_SENTINEL" Bundle.listD (gO G) s (gH G)) ∧ (∀ C ∈ xXs, xCast C s) ∧ (∀ C ∈ xXs, ∀ T ∈ xXs, C ≠ T → va_Nc C T s) ∧ (∀ C ∈ xDs, va_Nw (.declares (Bundle.initS C)) s) ∧
  vk_S 36 xsL xsB (fun i => G.2.1 (10000010 + i)) (fun i => G.2.1 (10000100 + i)) (gO G) s (gH G) ∧ va_Z "java/lang/String" "COMPACT_STRINGS" "Z" (.int 1) (gO G) s (gH G) ∧
  (G.2.1 10000201 = 0 → va_Z "jdk/internal/util/Preconditions" "SIOOBE_FORMATTER" "Ljava/util/function/BiFunction;" .null (gO G) s (gH G)) ∧ (¬ G.2.1 10000201 = 0 → va_Z "jdk/internal/util/Preconditions" "SIOOBE_FORMATTER" "Ljava/util/function/BiFunction;" (.ref (G.2.1 10000200)) (gO G) s (gH G))
theorem xEx.warm {G : XG} {s U : State} (hW : s.WarmedH U.vm) (h : xEx G s) : xEx G U := by
  have hv := hW.alike
  obtain ⟨⟨a1, a2⟩, b, c, ⟨d1, d2, d3⟩, ⟨e1, e2, e3⟩, f, ⟨g1, g2⟩, g3, g4, g5, g6, g7, g8, g9⟩ := h
  exact ⟨⟨a1.moved hv, a2.moved hv⟩, fun t ht => (b t ht).warmM hW, fun i t ht => (c i t ht).warm hW, ⟨d1.moved hv, d2.moved hv, d3.moved hv⟩, ⟨e1.moved hv, e2.moved hv, e3.moved hv⟩, f.moved hv, ⟨g1.moved hv, g2.moved hv⟩, fun C hC => (g3 C hC).moved hv, fun C hC T hT hne => (g4 C hC T hT hne).moved hv, fun C hC => (g5 C hC).warmD hW, g6.moved hv, g7.moved hv, fun z => (g8 z).moved hv, fun z => (g9 z).moved hv⟩
theorem xEx.same {G : XG} {s U : State} (hv : s.vm = U.vm) (h : xEx G s) : xEx G U := by
  have hv' : s.vm.Alike U.vm := hv ▸ Vm.Alike.refl s.vm
  obtain ⟨⟨a1, a2⟩, b, c, ⟨d1, d2, d3⟩, ⟨e1, e2, e3⟩, f, ⟨g1, g2⟩, g3, g4, g5, g6, g7, g8, g9⟩ := h
  exact ⟨⟨a1.moved hv', a2.moved hv'⟩, fun t ht => (b t ht).same rfl hv, fun i t ht => (c i t ht).same hv.symm, ⟨d1.moved hv', d2.moved hv', d3.moved hv'⟩, ⟨e1.moved hv', e2.moved hv', e3.moved hv'⟩, f.moved hv', ⟨g1.moved hv', g2.moved hv'⟩, fun C hC => (g3 C hC).moved hv', fun C hC T hT hne => (g4 C hC T hT hne).moved hv', fun C hC => (g5 C hC).same rfl hv, g6.moved hv', g7.moved hv', fun z => (g8 z).moved hv', fun z => (g9 z).moved hv'⟩
def mv (G : XG) (v : Value) : Value := match v with
  | .ref a => .ref (gA G a)
  | w => w
theorem mv_cat (G : XG) (v : Value) : (mv G v).category = v.category := by cases v <;> rfl
def xO (G : XG) (h : XH) (a : Nat) (H : Heap) : Prop := ∃ r : vw_C, vwCl[hk h a]? = some r ∧ t_OB (gA G a) ((gD G).1 (hk h a)) r.2.2 ((gD G).2 (hk h a)) H (fun k => mv G (fv h a k))
def xArr (G : XG) (a n : Nat) (f : Nat → Value) (ty : FieldType) (H : Heap) (U : State) : Prop := ∃ cA : ClassId, H[gA G a]? = some (arrV cA n f) ∧ ArrOfT U cA ty
def xArq (G : XG) (a n : Nat) (f : Nat → Value) (ty : FieldType) (H : Heap) (U : State) : Prop := ∃ cA : ClassId, H[gA G a]? = some (arrV cA n f) ∧ ArrOfT U cA ty ∧ va_RA U cA ty
def xCell (G : XG) (h : XH) (a : Nat) (H : Heap) (U : State) : Prop :=
  (hk h a < 13 → xO G h a H) ∧
  (hk h a = 100 → xArr G a (hn h a) (fun j => .int (hi h a j)) .int H U) ∧
  (hk h a = 101 → xArr G a (hn h a) (fun j => .long (hj h a j)) .long H U) ∧
  (hk h a = 102 → xArr G a (hn h a) (fun j => .int (hi h a j)) .byte H U) ∧
  (hk h a = 103 → xArr G a (hn h a) (fun j => .int (hi h a j)) .boolean H U) ∧
  (hk h a = 104 → xArq G a (hn h a) (fun j => mv G (va_rf (hr h a j))) (.object RX3) H U) ∧
  (hk h a = 105 → xArq G a (hn h a) (fun j => mv G (va_rf (hr h a j))) (.object RX2) H U)
def xIn (h : XH) (a : Nat) : Prop := a < hz h
def XRel (G : XG) (h : XH) (H : Heap) (U : State) : Prop := H.size = gB G + hz h ∧ hz h ≤ 1000000 ∧ (∀ a, xIn h a → xCell G h a H U) ∧ ∀ q, q < gB G → H[q]? = (gH G)[q]?
theorem xArr.moved {G : XG} {a n : Nat} {f : Nat → Value} {ty : FieldType} {H : Heap} {u U : State} (hvm : u.vm.Alike U.vm) (h : xArr G a n f ty H u) : xArr G a n f ty H U := by
  obtain ⟨cA, h1, h2⟩ := h
  exact ⟨cA, h1, arrOfT_moved hvm h2⟩
theorem xArq.moved {G : XG} {a n : Nat} {f : Nat → Value} {ty : FieldType} {H : Heap} {u U : State} (hvm : u.vm.Alike U.vm) (h : xArq G a n f ty H u) : xArq G a n f ty H U := by
  obtain ⟨cA, h1, h2, h3⟩ := h
  exact ⟨cA, h1, arrOfT_moved hvm h2, h3.moved hvm⟩
theorem XRel.moved {G : XG} {h : XH} {H : Heap} {u U : State} (hvm : u.vm.Alike U.vm) (r : XRel G h H u) : XRel G h H U :=
  ⟨r.1, r.2.1, fun a ha => ⟨(r.2.2.1 a ha).1, fun k => ((r.2.2.1 a ha).2.1 k).moved hvm, fun k => ((r.2.2.1 a ha).2.2.1 k).moved hvm, fun k => ((r.2.2.1 a ha).2.2.2.1 k).moved hvm, fun k => ((r.2.2.1 a ha).2.2.2.2.1 k).moved hvm, fun k => ((r.2.2.1 a ha).2.2.2.2.2.1 k).moved hvm, fun k => ((r.2.2.1 a ha).2.2.2.2.2.2 k).moved hvm⟩, r.2.2.2⟩
/-- locals -/
def XL (G : XG) (ls : Array Slot) (nL : Nat) (L : List (Option Value)) : Prop := ls.size = nL ∧ lv_wf ls ∧ ∀ (i : Nat) (v : Value), L[i]? = some (some v) → ls[i]? = some (.val (mv G v))
def xlp (G : XG) (L : List (Option Value)) : List (Nat × Value) := (List.range L.length).filterMap fun i => (L[i]?.join).map fun v => (i, mv G v)
theorem xlp_mem {G : XG} {L : List (Option Value)} {i : Nat} {v : Value} : (i, v) ∈ xlp G L ↔ ∃ w, L[i]? = some (some w) ∧ v = mv G w := by
  simp only [xlp, List.mem_filterMap, List.mem_range, Option.map_eq_some_iff, Prod.mk.injEq]
  constructor
  · rintro ⟨j, -, w, hw, rfl, rfl⟩
    refine ⟨w, ?_, rfl⟩
    cases hj : L[j]? with
    | none => simp [hj] at hw
    | some o => cases o with
      | none => simp [hj] at hw
      | some z => simp [hj] at hw; rw [hw]
  · rintro ⟨w, hw, rfl⟩
    have hlt : i < L.length := by
      rcases Nat.lt_or_ge i L.length with h | h
      · exact h
      · rw [List.getElem?_eq_none h] at hw; cases hw
    exact ⟨i, hlt, w, by rw [hw]; rfl, rfl, rfl⟩
theorem XL.has {G : XG} {ls : Array Slot} {nL : Nat} {L : List (Option Value)} (h : XL G ls nL L) : lv_has ls nL (xlp G L) :=
  ⟨h.1, h.2.1, fun q hq => by obtain ⟨w, h1, h2⟩ := xlp_mem.mp (show (q.1, q.2) ∈ xlp G L from hq); rw [h2]; exact h.2.2 _ _ h1⟩
def xkill (L : List (Option Value)) (i : Nat) : List (Option Value) := match i with
  | 0 => L
  | j + 1 => match L[j]? with
    | some (some w) => match w.category with
      | 2 => L.set j none
      | _ => L
    | _ => L
def xset1 (L : List (Option Value)) (i : Nat) (v : Value) : List (Option Value) := (xkill L i).set i (some v)
def xset2 (L : List (Option Value)) (i : Nat) (v : Value) : List (Option Value) := ((xkill L i).set i (some v)).set (i + 1) none
theorem xkill_get {L : List (Option Value)} {i k : Nat} {w : Value} (h : (xkill L i)[k]? = some (some w)) : L[k]? = some (some w) ∧ ¬ (k + 1 = i ∧ w.category = 2) := by
  unfold xkill at h
  split at h
  · exact ⟨h, fun q => by omega⟩
  · rename_i i j
    split at h
    · rename_i w' hw'
      split at h
      · rw [List.getElem?_set] at h
        split at h
        · split at h <;> cases h
        · exact ⟨h, fun q => by omega⟩
      · rename_i hc
        refine ⟨h, fun q => ?_⟩
        have e : k = j := by omega
        subst e
        rw [h] at hw'
        cases hw'
        exact hc q.2
    · rename_i hno
      refine ⟨h, fun q => ?_⟩
      have e : k = j := by omega
      subst e
      exact hno _ h
theorem XL.set1 {G : XG} {ls : Array Slot} {nL : Nat} {L : List (Option Value)} {i : Nat} {v : Value} (hl : lv_has ls nL ((i, mv G v) :: (xlp G L).filter (fun q => !(q.1 == i) && !(q.1 + 1 == i && q.2.category == 2)))) : XL G ls nL (xset1 L i v) := by
  refine ⟨hl.1, hl.2.1, fun k w hk => ?_⟩
  unfold xset1 at hk
  rw [List.getElem?_set] at hk
  split at hk
  · split at hk
    · rename_i e _
      subst e
      cases hk
      exact hl.2.2 _ List.mem_cons_self
    · cases hk
  · rename_i hne
    obtain ⟨h1, h2⟩ := xkill_get hk
    refine hl.2.2 (k, mv G w) (List.mem_cons_of_mem _ (List.mem_filter.mpr ⟨xlp_mem.mpr ⟨w, h1, rfl⟩, ?_⟩))
    simp only [mv_cat, Bool.and_eq_true, Bool.not_eq_true', beq_eq_false_iff_ne, ne_eq, Bool.and_eq_false_iff]
    refine ⟨fun e => hne e.symm, ?_⟩
    rcases Nat.decEq (k + 1) i with e | e
    · exact Or.inl e
    · exact Or.inr fun c => h2 ⟨e, c⟩
theorem XL.set2 {G : XG} {ls : Array Slot} {nL : Nat} {L : List (Option Value)} {i : Nat} {v : Value} (hl : lv_has ls nL ((i, mv G v) :: (xlp G L).filter (fun q => !(q.1 == i) && (!(q.1 == i + 1) && !(q.1 + 1 == i && q.2.category == 2))))) : XL G ls nL (xset2 L i v) := by
  refine ⟨hl.1, hl.2.1, fun k w hk => ?_⟩
  unfold xset2 at hk
  rw [List.getElem?_set] at hk
  split at hk
  · split at hk <;> cases hk
  rename_i hne2
  rw [List.getElem?_set] at hk
  split at hk
  · split at hk
    · rename_i e _
      subst e
      cases hk
      exact hl.2.2 _ List.mem_cons_self
    · cases hk
  · rename_i hne
    obtain ⟨h1, h2⟩ := xkill_get hk
    refine hl.2.2 (k, mv G w) (List.mem_cons_of_mem _ (List.mem_filter.mpr ⟨xlp_mem.mpr ⟨w, h1, rfl⟩, ?_⟩))
    simp only [mv_cat, Bool.and_eq_true, Bool.not_eq_true', beq_eq_false_iff_ne, ne_eq, Bool.and_eq_false_iff]
    refine ⟨fun e => hne e.symm, fun e => hne2 e.symm, ?_⟩
    rcases Nat.decEq (k + 1) i with e | e
    · exact Or.inl e
    · exact Or.inr fun c => h2 ⟨e, c⟩
/-! A configuration: the place, the locals, the stack, the heap. 'XS C C2': from C the machine comes to C2. -/
abbrev XCfg : Type := Nat × List (Option Value) × List Value × XH
def XCtx (G : XG) (q : xEnt) (d : Nat) (p : Program) (Rm : Room) (s : State) (m : MethodId) (args : Array Value) (meth : Method) (c : Code) : Prop :=
  p.tables.exec = Jvm.exec ∧ c.code = q.2.2.1 ∧ c.maxLocals = q.2.2.2.1 ∧ meth.sig.returnType = q.2.2.2.2.1 ∧ meth.locks = false ∧ meth.name = q.2.1.name ∧ s.vm.findClass (xCls q.1) = some m.cls ∧ (∀ w ∈ lw_g, w.before args s = true) ∧ va_K (gD G) vwCl [] s ∧ xGood q ∧ d ≤ Rm.frames ∧ 40 * d ≤ Rm.locals ∧ xEx G s ∧ ∀ a, a ≠ 10000200 → G.2.1 a < G.1
def XS (l : Launch) (G : XG) (q : xEnt) (d : Nat) (C C2 : XCfg) : Prop :=
  (hz C.2.2.2 ≤ hz C2.2.2.2 ∧ hw C.2.2.2 ≤ hw C2.2.2.2) ∧ ∀ (p : Program) (e : Env) (Rm : Room) (s : State) (m : MethodId) (args : Array Value) (below : List Frame) (meth : Method) (c : Code), XCtx G q d p Rm s m args meth c →
    ∀ (Qf : State → Prop) (H : Heap) (locs : List Loc) (cells slots : Nat) (ls : Array Slot), XRel G C.2.2.2 H s → XL G ls q.2.2.2.1 C.2.1 → (∀ z ∈ locs, gB G ≤ z.base) → cells + (hz C2.2.2.2 - hz C.2.2.2) ≤ Rm.cells → slots + (hw C2.2.2.2 - hw C.2.2.2) ≤ Rm.slots →
    (∀ (H2 : Heap) (locs2 : List Loc) (ls2 : Array Slot), XRel G C2.2.2.2 H2 s → XL G ls2 q.2.2.2.1 C2.2.1 → (∀ z ∈ locs2, gB G ≤ z.base) → W p l e Rm s m args below meth c H2 locs2 (cells + (hz C2.2.2.2 - hz C.2.2.2)) (slots + (hw C2.2.2.2 - hw C.2.2.2)) Qf (F0 m C2.1 ls2 (C2.2.2.1.map (mv G)))) →
    W p l e Rm s m args below meth c H locs cells slots Qf (F0 m C.1 ls (C.2.2.1.map (mv G)))
theorem XS.rf {l : Launch} {G : XG} {q : xEnt} {d : Nat} {C : XCfg} : XS l G q d C C := by
  refine ⟨⟨Nat.le_refl _, Nat.le_refl _⟩, fun p e Rm s m args below meth c cx Qf H locs cells slots ls r hl hq hc hs k => ?_⟩
  have := k H locs ls r hl hq
  simpa using this
theorem XS.tr {l : Launch} {G : XG} {q : xEnt} {d : Nat} {C C2 C3 : XCfg} (a : XS l G q d C C2) (b : XS l G q d C2 C3) : XS l G q d C C3 := by
  obtain ⟨⟨a1, a2⟩, a3⟩ := a
  obtain ⟨⟨b1, b2⟩, b3⟩ := b
  refine ⟨⟨Nat.le_trans a1 b1, Nat.le_trans a2 b2⟩, fun p e Rm s m args below meth c cx Qf H locs cells slots ls r hl hq hc hs k => ?_⟩
  refine a3 p e Rm s m args below meth c cx Qf H locs cells slots ls r hl hq (by omega) (by omega) fun H2 locs2 ls2 r2 hl2 hq2 => ?_
  refine b3 p e Rm s m args below meth c cx Qf H2 locs2 _ _ ls2 r2 hl2 hq2 (by omega) (by omega) fun H3 locs3 ls3 r3 hl3 hq3 => ?_
  have k3 := k H3 locs3 ls3 r3 hl3 hq3
  have e1 : cells + (hz C2.2.2.2 - hz C.2.2.2) + (hz C3.2.2.2 - hz C2.2.2.2) = cells + (hz C3.2.2.2 - hz C.2.2.2) := by omega
  have e2 : slots + (hw C2.2.2.2 - hw C.2.2.2) + (hw C3.2.2.2 - hw C2.2.2.2) = slots + (hw C3.2.2.2 - hw C.2.2.2) := by omega
  rw [e1, e2]
  exact k3
/-- 'XR C P': from C the machine comes to a configuration with P -/
def XR (l : Launch) (G : XG) (q : xEnt) (d : Nat) (C : XCfg) (P : XCfg → Prop) : Prop := ∃ C2, P C2 ∧ XS l G q d C C2
theorem XS.go {l : Launch} {G : XG} {q : xEnt} {d : Nat} {C C2 : XCfg} {P : XCfg → Prop} (a : XS l G q d C C2) (b : XR l G q d C2 P) : XR l G q d C P := by
  obtain ⟨C3, h1, h2⟩ := b
  exact ⟨C3, h1, a.tr h2⟩
theorem XR.here {l : Launch} {G : XG} {q : xEnt} {d : Nat} {C : XCfg} {P : XCfg → Prop} (h : P C) : XR l G q d C P := ⟨C, h, XS.rf⟩
theorem XR.then {l : Launch} {G : XG} {q : xEnt} {d : Nat} {C : XCfg} {P Q : XCfg → Prop} (a : XR l G q d C P) (b : ∀ C2, P C2 → XR l G q d C2 Q) : XR l G q d C Q := by
  obtain ⟨C2, h1, h2⟩ := a
  exact h2.go (b C2 h1)
theorem XR.mono {l : Launch} {G : XG} {q : xEnt} {d : Nat} {C : XCfg} {P Q : XCfg → Prop} (a : XR l G q d C P) (b : ∀ C2, P C2 → Q C2) : XR l G q d C Q := a.then fun C2 h => XR.here (b C2 h)
/-- a step that leaves the heap alone -/
theorem XS.pure {l : Launch} {G : XG} {q : xEnt} {d pc pc2 : Nat} {L L2 : List (Option Value)} {st st2 : List Value} {h : XH}
    (w : ∀ (p : Program) (e : Env) (Rm : Room) (s : State) (m : MethodId) (args : Array Value) (below : List Frame) (meth : Method) (c : Code), XCtx G q d p Rm s m args meth c → ∀ (Qf : State → Prop) (H : Heap) (locs : List Loc) (cells slots : Nat) (ls : Array Slot), XL G ls q.2.2.2.1 L →
      (∀ ls2 : Array Slot, XL G ls2 q.2.2.2.1 L2 → W p l e Rm s m args below meth c H locs cells slots Qf (F0 m pc2 ls2 (st2.map (mv G)))) → W p l e Rm s m args below meth c H locs cells slots Qf (F0 m pc ls (st.map (mv G)))) :
    XS l G q d (pc, L, st, h) (pc2, L2, st2, h) := by
  refine ⟨⟨Nat.le_refl _, Nat.le_refl _⟩, fun p e Rm s m args below meth c cx Qf H locs cells slots ls r hl hq hc hs k => ?_⟩
  refine w p e Rm s m args below meth c cx Qf H locs cells slots ls hl fun ls2 hl2 => ?_
  have := k H locs ls2 r hl2 hq
  simpa using this
