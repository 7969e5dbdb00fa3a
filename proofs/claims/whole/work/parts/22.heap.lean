set_option maxRecDepth 20000 in
theorem xws0 : ∀ w ∈ u_ws RX0 TX0 16, w ∈ lw_g := List.forall_mem_cons.mpr ⟨lg_2 69 rfl rfl, List.forall_mem_cons.mpr ⟨lg_2 71 rfl rfl, List.forall_mem_cons.mpr ⟨lg_2 73 rfl rfl, List.forall_mem_cons.mpr ⟨lg_2 75 rfl rfl, List.forall_mem_cons.mpr ⟨lg_2 77 rfl rfl, List.forall_mem_cons.mpr ⟨lg_2 79 rfl rfl, List.forall_mem_cons.mpr ⟨lg_2 81 rfl rfl, List.forall_mem_cons.mpr ⟨lg_2 83 rfl rfl, List.forall_mem_cons.mpr ⟨lg_2 85 rfl rfl, List.forall_mem_cons.mpr ⟨lg_2 87 rfl rfl, List.forall_mem_cons.mpr ⟨lg_2 89 rfl rfl, List.forall_mem_cons.mpr ⟨lg_2 91 rfl rfl, List.forall_mem_cons.mpr ⟨lg_2 93 rfl rfl, List.forall_mem_cons.mpr ⟨lg_2 95 rfl rfl, List.forall_mem_cons.mpr ⟨lg_2 97 rfl rfl, List.forall_mem_cons.mpr ⟨lg_2 99 rfl rfl, fun _ h => absurd h List.not_mem_nil⟩⟩⟩⟩⟩⟩⟩⟩⟩⟩⟩⟩⟩⟩⟩⟩
set_option maxRecDepth 20000 in
theorem xws1 : ∀ w ∈ u_ws RX1 TX1 2, w ∈ lw_g := List.forall_mem_cons.mpr ⟨lg_1 47 rfl rfl, List.forall_mem_cons.mpr ⟨lg_1 49 rfl rfl, fun _ h => absurd h List.not_mem_nil⟩⟩
set_option maxRecDepth 20000 in
theorem xws2 : ∀ w ∈ u_ws RX2 TX2 12, w ∈ lw_g := List.forall_mem_cons.mpr ⟨lg_1 210 rfl rfl, List.forall_mem_cons.mpr ⟨lg_1 212 rfl rfl, List.forall_mem_cons.mpr ⟨lg_1 214 rfl rfl, List.forall_mem_cons.mpr ⟨lg_1 216 rfl rfl, List.forall_mem_cons.mpr ⟨lg_1 218 rfl rfl, List.forall_mem_cons.mpr ⟨lg_1 220 rfl rfl, List.forall_mem_cons.mpr ⟨lg_1 222 rfl rfl, List.forall_mem_cons.mpr ⟨lg_1 224 rfl rfl, List.forall_mem_cons.mpr ⟨lg_1 226 rfl rfl, List.forall_mem_cons.mpr ⟨lg_1 228 rfl rfl, List.forall_mem_cons.mpr ⟨lg_1 230 rfl rfl, List.forall_mem_cons.mpr ⟨lg_1 232 rfl rfl, fun _ h => absurd h List.not_mem_nil⟩⟩⟩⟩⟩⟩⟩⟩⟩⟩⟩⟩
set_option maxRecDepth 20000 in
theorem xws3 : ∀ w ∈ u_ws RX3 TX3 9, w ∈ lw_g := List.forall_mem_cons.mpr ⟨lg_1 160 rfl rfl, List.forall_mem_cons.mpr ⟨lg_1 162 rfl rfl, List.forall_mem_cons.mpr ⟨lg_1 164 rfl rfl, List.forall_mem_cons.mpr ⟨lg_1 166 rfl rfl, List.forall_mem_cons.mpr ⟨lg_1 168 rfl rfl, List.forall_mem_cons.mpr ⟨lg_1 170 rfl rfl, List.forall_mem_cons.mpr ⟨lg_1 172 rfl rfl, List.forall_mem_cons.mpr ⟨lg_1 174 rfl rfl, List.forall_mem_cons.mpr ⟨lg_1 176 rfl rfl, fun _ h => absurd h List.not_mem_nil⟩⟩⟩⟩⟩⟩⟩⟩⟩
set_option maxRecDepth 20000 in
theorem xws4 : ∀ w ∈ u_ws RX4 TX4 2, w ∈ lw_g := List.forall_mem_cons.mpr ⟨lg_2 0 rfl rfl, List.forall_mem_cons.mpr ⟨lg_2 2 rfl rfl, fun _ h => absurd h List.not_mem_nil⟩⟩
set_option maxRecDepth 20000 in
theorem xws5 : ∀ w ∈ u_ws RX5 TX5 6, w ∈ lw_g := List.forall_mem_cons.mpr ⟨lg_3 190 rfl rfl, List.forall_mem_cons.mpr ⟨lg_3 192 rfl rfl, List.forall_mem_cons.mpr ⟨lg_3 194 rfl rfl, List.forall_mem_cons.mpr ⟨lg_3 196 rfl rfl, List.forall_mem_cons.mpr ⟨lg_3 198 rfl rfl, List.forall_mem_cons.mpr ⟨lg_3 200 rfl rfl, fun _ h => absurd h List.not_mem_nil⟩⟩⟩⟩⟩⟩
set_option maxRecDepth 20000 in
theorem xws6 : ∀ w ∈ u_ws RX6 TX6 6, w ∈ lw_g := List.forall_mem_cons.mpr ⟨lg_1 80 rfl rfl, List.forall_mem_cons.mpr ⟨lg_1 82 rfl rfl, List.forall_mem_cons.mpr ⟨lg_1 84 rfl rfl, List.forall_mem_cons.mpr ⟨lg_1 86 rfl rfl, List.forall_mem_cons.mpr ⟨lg_1 88 rfl rfl, List.forall_mem_cons.mpr ⟨lg_1 90 rfl rfl, fun _ h => absurd h List.not_mem_nil⟩⟩⟩⟩⟩⟩
set_option maxRecDepth 20000 in
theorem xws7 : ∀ w ∈ u_ws RX7 TX7 9, w ∈ lw_g := List.forall_mem_cons.mpr ⟨lg_5 15 rfl rfl, List.forall_mem_cons.mpr ⟨lg_5 17 rfl rfl, List.forall_mem_cons.mpr ⟨lg_5 19 rfl rfl, List.forall_mem_cons.mpr ⟨lg_5 21 rfl rfl, List.forall_mem_cons.mpr ⟨lg_5 23 rfl rfl, List.forall_mem_cons.mpr ⟨lg_5 25 rfl rfl, List.forall_mem_cons.mpr ⟨lg_5 27 rfl rfl, List.forall_mem_cons.mpr ⟨lg_5 29 rfl rfl, List.forall_mem_cons.mpr ⟨lg_5 31 rfl rfl, fun _ h => absurd h List.not_mem_nil⟩⟩⟩⟩⟩⟩⟩⟩⟩
set_option maxRecDepth 20000 in
theorem xws8 : ∀ w ∈ u_ws RX8 TX8 12, w ∈ lw_g := List.forall_mem_cons.mpr ⟨lg_2 127 rfl rfl, List.forall_mem_cons.mpr ⟨lg_2 129 rfl rfl, List.forall_mem_cons.mpr ⟨lg_2 131 rfl rfl, List.forall_mem_cons.mpr ⟨lg_2 133 rfl rfl, List.forall_mem_cons.mpr ⟨lg_2 135 rfl rfl, List.forall_mem_cons.mpr ⟨lg_2 137 rfl rfl, List.forall_mem_cons.mpr ⟨lg_2 139 rfl rfl, List.forall_mem_cons.mpr ⟨lg_2 141 rfl rfl, List.forall_mem_cons.mpr ⟨lg_2 143 rfl rfl, List.forall_mem_cons.mpr ⟨lg_2 145 rfl rfl, List.forall_mem_cons.mpr ⟨lg_2 147 rfl rfl, List.forall_mem_cons.mpr ⟨lg_2 149 rfl rfl, fun _ h => absurd h List.not_mem_nil⟩⟩⟩⟩⟩⟩⟩⟩⟩⟩⟩⟩
set_option maxRecDepth 20000 in
theorem xws9 : ∀ w ∈ u_ws RX9 TX9 6, w ∈ lw_g := List.forall_mem_cons.mpr ⟨lg_2 28 rfl rfl, List.forall_mem_cons.mpr ⟨lg_2 30 rfl rfl, List.forall_mem_cons.mpr ⟨lg_2 32 rfl rfl, List.forall_mem_cons.mpr ⟨lg_2 34 rfl rfl, List.forall_mem_cons.mpr ⟨lg_2 36 rfl rfl, List.forall_mem_cons.mpr ⟨lg_2 38 rfl rfl, fun _ h => absurd h List.not_mem_nil⟩⟩⟩⟩⟩⟩
set_option maxRecDepth 20000 in
theorem xws10 : ∀ w ∈ u_ws RX10 TX10 2, w ∈ lw_g := List.forall_mem_cons.mpr ⟨lg_1 62 rfl rfl, List.forall_mem_cons.mpr ⟨lg_1 64 rfl rfl, fun _ h => absurd h List.not_mem_nil⟩⟩
set_option maxRecDepth 20000 in
theorem xws11 : ∀ w ∈ u_ws RX11 TX11 13, w ∈ lw_g := List.forall_mem_cons.mpr ⟨lg_2 165 rfl rfl, List.forall_mem_cons.mpr ⟨lg_2 167 rfl rfl, List.forall_mem_cons.mpr ⟨lg_2 169 rfl rfl, List.forall_mem_cons.mpr ⟨lg_2 171 rfl rfl, List.forall_mem_cons.mpr ⟨lg_2 173 rfl rfl, List.forall_mem_cons.mpr ⟨lg_2 175 rfl rfl, List.forall_mem_cons.mpr ⟨lg_2 177 rfl rfl, List.forall_mem_cons.mpr ⟨lg_2 179 rfl rfl, List.forall_mem_cons.mpr ⟨lg_2 181 rfl rfl, List.forall_mem_cons.mpr ⟨lg_2 183 rfl rfl, List.forall_mem_cons.mpr ⟨lg_2 185 rfl rfl, List.forall_mem_cons.mpr ⟨lg_2 187 rfl rfl, List.forall_mem_cons.mpr ⟨lg_2 189 rfl rfl, fun _ h => absurd h List.not_mem_nil⟩⟩⟩⟩⟩⟩⟩⟩⟩⟩⟩⟩⟩
set_option maxRecDepth 20000 in
theorem xws12 : ∀ w ∈ u_ws RX12 TX12 88, w ∈ lw_g := List.forall_mem_cons.mpr ⟨lg_7 174 rfl rfl, List.forall_mem_cons.mpr ⟨lg_7 176 rfl rfl, List.forall_mem_cons.mpr ⟨lg_7 178 rfl rfl, List.forall_mem_cons.mpr ⟨lg_7 180 rfl rfl, List.forall_mem_cons.mpr ⟨lg_7 182 rfl rfl, List.forall_mem_cons.mpr ⟨lg_7 184 rfl rfl, List.forall_mem_cons.mpr ⟨lg_7 186 rfl rfl, List.forall_mem_cons.mpr ⟨lg_7 188 rfl rfl, List.forall_mem_cons.mpr ⟨lg_7 190 rfl rfl, List.forall_mem_cons.mpr ⟨lg_7 192 rfl rfl, List.forall_mem_cons.mpr ⟨lg_7 194 rfl rfl, List.forall_mem_cons.mpr ⟨lg_7 196 rfl rfl, List.forall_mem_cons.mpr ⟨lg_7 198 rfl rfl, List.forall_mem_cons.mpr ⟨lg_7 200 rfl rfl, List.forall_mem_cons.mpr ⟨lg_7 202 rfl rfl, List.forall_mem_cons.mpr ⟨lg_7 204 rfl rfl, List.forall_mem_cons.mpr ⟨lg_7 206 rfl rfl, List.forall_mem_cons.mpr ⟨lg_7 208 rfl rfl, List.forall_mem_cons.mpr ⟨lg_7 210 rfl rfl, List.forall_mem_cons.mpr ⟨lg_7 212 rfl rfl, List.forall_mem_cons.mpr ⟨lg_7 214 rfl rfl, List.forall_mem_cons.mpr ⟨lg_7 216 rfl rfl, List.forall_mem_cons.mpr ⟨lg_7 218 rfl rfl, List.forall_mem_cons.mpr ⟨lg_7 220 rfl rfl, List.forall_mem_cons.mpr ⟨lg_7 222 rfl rfl, List.forall_mem_cons.mpr ⟨lg_7 224 rfl rfl, List.forall_mem_cons.mpr ⟨lg_7 226 rfl rfl, List.forall_mem_cons.mpr ⟨lg_7 228 rfl rfl, List.forall_mem_cons.mpr ⟨lg_7 230 rfl rfl, List.forall_mem_cons.mpr ⟨lg_7 232 rfl rfl, List.forall_mem_cons.mpr ⟨lg_7 234 rfl rfl, List.forall_mem_cons.mpr ⟨lg_7 236 rfl rfl, List.forall_mem_cons.mpr ⟨lg_7 238 rfl rfl, List.forall_mem_cons.mpr ⟨lg_8 0 rfl rfl, List.forall_mem_cons.mpr ⟨lg_8 2 rfl rfl, List.forall_mem_cons.mpr ⟨lg_8 4 rfl rfl, List.forall_mem_cons.mpr ⟨lg_8 6 rfl rfl, List.forall_mem_cons.mpr ⟨lg_8 8 rfl rfl, List.forall_mem_cons.mpr ⟨lg_8 10 rfl rfl, List.forall_mem_cons.mpr ⟨lg_8 12 rfl rfl, List.forall_mem_cons.mpr ⟨lg_8 14 rfl rfl, List.forall_mem_cons.mpr ⟨lg_8 16 rfl rfl, List.forall_mem_cons.mpr ⟨lg_8 18 rfl rfl, List.forall_mem_cons.mpr ⟨lg_8 20 rfl rfl, List.forall_mem_cons.mpr ⟨lg_8 22 rfl rfl, List.forall_mem_cons.mpr ⟨lg_8 24 rfl rfl, List.forall_mem_cons.mpr ⟨lg_8 26 rfl rfl, List.forall_mem_cons.mpr ⟨lg_8 28 rfl rfl, List.forall_mem_cons.mpr ⟨lg_8 30 rfl rfl, List.forall_mem_cons.mpr ⟨lg_8 32 rfl rfl, List.forall_mem_cons.mpr ⟨lg_8 34 rfl rfl, List.forall_mem_cons.mpr ⟨lg_8 36 rfl rfl, List.forall_mem_cons.mpr ⟨lg_8 38 rfl rfl, List.forall_mem_cons.mpr ⟨lg_8 40 rfl rfl, List.forall_mem_cons.mpr ⟨lg_8 42 rfl rfl, List.forall_mem_cons.mpr ⟨lg_8 44 rfl rfl, List.forall_mem_cons.mpr ⟨lg_8 46 rfl rfl, List.forall_mem_cons.mpr ⟨lg_8 48 rfl rfl, List.forall_mem_cons.mpr ⟨lg_8 50 rfl rfl, List.forall_mem_cons.mpr ⟨lg_8 52 rfl rfl, List.forall_mem_cons.mpr ⟨lg_8 54 rfl rfl, List.forall_mem_cons.mpr ⟨lg_8 56 rfl rfl, List.forall_mem_cons.mpr ⟨lg_8 58 rfl rfl, List.forall_mem_cons.mpr ⟨lg_8 60 rfl rfl, List.forall_mem_cons.mpr ⟨lg_8 62 rfl rfl, List.forall_mem_cons.mpr ⟨lg_8 64 rfl rfl, List.forall_mem_cons.mpr ⟨lg_8 66 rfl rfl, List.forall_mem_cons.mpr ⟨lg_8 68 rfl rfl, List.forall_mem_cons.mpr ⟨lg_8 70 rfl rfl, List.forall_mem_cons.mpr ⟨lg_8 72 rfl rfl, List.forall_mem_cons.mpr ⟨lg_8 74 rfl rfl, List.forall_mem_cons.mpr ⟨lg_8 76 rfl rfl, List.forall_mem_cons.mpr ⟨lg_8 78 rfl rfl, List.forall_mem_cons.mpr ⟨lg_8 80 rfl rfl, List.forall_mem_cons.mpr ⟨lg_8 82 rfl rfl, List.forall_mem_cons.mpr ⟨lg_8 84 rfl rfl, List.forall_mem_cons.mpr ⟨lg_8 86 rfl rfl, List.forall_mem_cons.mpr ⟨lg_8 88 rfl rfl, List.forall_mem_cons.mpr ⟨lg_8 90 rfl rfl, List.forall_mem_cons.mpr ⟨lg_8 92 rfl rfl, List.forall_mem_cons.mpr ⟨lg_8 94 rfl rfl, List.forall_mem_cons.mpr ⟨lg_8 96 rfl rfl, List.forall_mem_cons.mpr ⟨lg_8 98 rfl rfl, List.forall_mem_cons.mpr ⟨lg_8 100 rfl rfl, List.forall_mem_cons.mpr ⟨lg_8 102 rfl rfl, List.forall_mem_cons.mpr ⟨lg_8 104 rfl rfl, List.forall_mem_cons.mpr ⟨lg_8 106 rfl rfl, List.forall_mem_cons.mpr ⟨lg_8 108 rfl rfl, fun _ h => absurd h List.not_mem_nil⟩⟩⟩⟩⟩⟩⟩⟩⟩⟩⟩⟩⟩⟩⟩⟩⟩⟩⟩⟩⟩⟩⟩⟩⟩⟩⟩⟩⟩⟩⟩⟩⟩⟩⟩⟩⟩⟩⟩⟩⟩⟩⟩⟩⟩⟩⟩⟩⟩⟩⟩⟩⟩⟩⟩⟩⟩⟩⟩⟩⟩⟩⟩⟩⟩⟩⟩⟩⟩⟩⟩⟩⟩⟩⟩⟩⟩⟩⟩⟩⟩⟩⟩⟩⟩⟩⟩⟩
def xtc (ty : FieldType) : Nat := match ty with
  | .int => 0
  | .long => 1
  | .boolean => 3
  | .object _ => 2
  | .array _ => 2
  | _ => 9
theorem xcl {ci : Nat} {r : vw_C} (h : vwCl[ci]? = some r) : (∀ w ∈ u_ws r.1 r.2.1 r.2.2, w ∈ lw_g) ∧ (∃ ty : Nat → FieldType, (∀ k, k < r.2.2 → parseFieldDescriptor (r.2.1 k).2.2.1 = some (ty k)) ∧ ∀ k, k < r.2.2 → xtc (ty k) = xft ci k) ∧ (∀ a, a < r.2.2 → ∀ b, b < r.2.2 → a ≠ b → (r.2.1 a).2.1 ≠ (r.2.1 b).2.1) ∧ Cond.instantiable r.1 r.2.2 ∈ lw_g ∧ Cond.initialized r.1 ∈ lw_g ∧ (∀ k, k < r.2.2 → (r.2.1 k).1 = r.1) ∧ r.1 = xCls ci ∧ r.2.1 = xTy ci ∧ r.2.2 = xNf ci ∧ ci < 13 := by
  match ci, h with
  | 0, h => cases h; exact ⟨xws0, ⟨tyX0, tyX0_ok, by decide +kernel⟩, nmX0, lg_2 42 rfl rfl, lg_1 9 rfl rfl, by decide +kernel, rfl, rfl, rfl, by decide⟩
  | 1, h => cases h; exact ⟨xws1, ⟨tyX1, tyX1_ok, by decide +kernel⟩, nmX1, lg_1 36 rfl rfl, lg_1 2 rfl rfl, by decide +kernel, rfl, rfl, rfl, by decide⟩
  | 2, h => cases h; exact ⟨xws2, ⟨tyX2, tyX2_ok, by decide +kernel⟩, nmX2, lg_1 108 rfl rfl, lg_1 7 rfl rfl, by decide +kernel, rfl, rfl, rfl, by decide⟩
  | 3, h => cases h; exact ⟨xws3, ⟨tyX3, tyX3_ok, by decide +kernel⟩, nmX3, lg_1 115 rfl rfl, lg_1 8 rfl rfl, by decide +kernel, rfl, rfl, rfl, by decide⟩
  | 4, h => cases h; exact ⟨xws4, ⟨tyX4, tyX4_ok, by decide +kernel⟩, nmX4, lg_1 101 rfl rfl, lg_1 6 rfl rfl, by decide +kernel, rfl, rfl, rfl, by decide⟩
  | 5, h => cases h; exact ⟨xws5, ⟨tyX5, tyX5_ok, by decide +kernel⟩, nmX5, lg_3 176 rfl rfl, lg_1 26 rfl rfl, by decide +kernel, rfl, rfl, rfl, by decide⟩
  | 6, h => cases h; exact ⟨xws6, ⟨tyX6, tyX6_ok, by decide +kernel⟩, nmX6, lg_1 69 rfl rfl, lg_1 4 rfl rfl, by decide +kernel, rfl, rfl, rfl, by decide⟩
  | 7, h => cases h; exact ⟨xws7, ⟨tyX7, tyX7_ok, by decide +kernel⟩, nmX7, lg_4 237 rfl rfl, lg_1 18 rfl rfl, by decide +kernel, rfl, rfl, rfl, by decide⟩
  | 8, h => cases h; exact ⟨xws8, ⟨tyX8, tyX8_ok, by decide +kernel⟩, nmX8, lg_2 104 rfl rfl, lg_1 10 rfl rfl, by decide +kernel, rfl, rfl, rfl, by decide⟩
  | 9, h => cases h; exact ⟨xws9, ⟨tyX9, tyX9_ok, by decide +kernel⟩, nmX9, lg_1 95 rfl rfl, lg_1 5 rfl rfl, by decide +kernel, rfl, rfl, rfl, by decide⟩
  | 10, h => cases h; exact ⟨xws10, ⟨tyX10, tyX10_ok, by decide +kernel⟩, nmX10, lg_1 54 rfl rfl, lg_1 3 rfl rfl, by decide +kernel, rfl, rfl, rfl, by decide⟩
  | 11, h => cases h; exact ⟨xws11, ⟨tyX11, tyX11_ok, by decide +kernel⟩, nmX11, lg_1 28 rfl rfl, lg_1 1 rfl rfl, by decide +kernel, rfl, rfl, rfl, by decide⟩
  | 12, h => cases h; exact ⟨xws12, ⟨tyX12, tyX12_ok, by decide +kernel⟩, nmX12, lg_7 81 rfl rfl, lg_1 11 rfl rfl, by decide +kernel, rfl, rfl, rfl, by decide⟩
  | k + 13, h => exact absurd h (by simp [vwCl])
theorem xcl_at {ci : Nat} (h : ci < 13) : ∃ r : vw_C, vwCl[ci]? = some r := by
  refine ⟨vwCl[ci]'(by simpa [vwCl] using h), ?_⟩
  simp
/-- the same cell in another heap, with the same contents -/
theorem xCell.to {G : XG} {h h2 : XH} {a : Nat} {H H2 : Heap} {U : State} (c : xCell G h a H U) (ek : hk h2 a = hk h a) (en : hn h2 a = hn h a) (ei : ∀ j, hi h2 a j = hi h a j) (ej : ∀ j, hj h2 a j = hj h a j) (er : ∀ j, hr h2 a j = hr h a j) (eH : H2[gA G a]? = H[gA G a]?) : xCell G h2 a H2 U := by
  have e1 : (fun j => hi h2 a j) = fun j => hi h a j := funext ei
  have e2 : (fun j => hj h2 a j) = fun j => hj h a j := funext ej
  have e3 : (fun j => hr h2 a j) = fun j => hr h a j := funext er
  have e4 : (fun j => fv h2 a j) = fun j => fv h a j := funext fun j => by unfold fv; rw [ek, ei, ej, er]
  unfold xCell xO xArr xArq at *
  simp only [ek, en, ei, ej, er, eH]
  refine ⟨fun q => ?_, c.2.1, c.2.2.1, c.2.2.2.1, c.2.2.2.2.1, c.2.2.2.2.2.1, c.2.2.2.2.2.2⟩
  obtain ⟨r, h1, h2'⟩ := c.1 q
  refine ⟨r, h1, ?_⟩
  have h3 := h2'.kept eH
  exact h3.to fun k _ => by rw [show fv h a k = fv h2 a k from (congrFun e4 k).symm]
theorem gA_dyn {G : XG} {a : Nat} (h : a < 10000000) : gA G a = gB G + a := by simp [gA, gB, h]
theorem gA_ne {G : XG} {a b : Nat} (hs : ∀ a, a ≠ 10000200 → G.2.1 a < G.1) (hb2 : b ≠ 10000200) (ha : a < 10000000) (hne : b ≠ a) : gA G b ≠ gA G a := by
  rw [gA_dyn ha]
  unfold gA gB
  split
  · omega
  · have := hs b hb2; omega
theorem XRel.put {G : XG} {h h2 : XH} {a : Nat} {H H2 : Heap} {U : State} (r : XRel G h H U) (hs : ∀ a, a ≠ 10000200 → G.2.1 a < G.1) (ha : a < hz h) (e2 : H2.size = H.size) (e3 : ∀ q, q ≠ gA G a → H2[q]? = H[q]?) (ez : hz h2 = hz h)
    (ho : ∀ b, b ≠ a → hk h2 b = hk h b ∧ hn h2 b = hn h b ∧ (∀ j, hi h2 b j = hi h b j) ∧ (∀ j, hj h2 b j = hj h b j) ∧ ∀ j, hr h2 b j = hr h b j) (hc : xCell G h2 a H2 U) : XRel G h2 H2 U := by
  have hlt : a < 10000000 := Nat.lt_of_lt_of_le ha (Nat.le_trans r.2.1 (by omega))
  refine ⟨by rw [e2, ez]; exact r.1, by rw [ez]; exact r.2.1, fun b hb => ?_, fun q hq => ?_⟩
  · by_cases e : b = a
    · rw [e]; exact hc
    · obtain ⟨k1, k2, k3, k4, k5⟩ := ho b e
      have hb' : xIn h b := by unfold xIn at hb ⊢; rw [ez] at hb; exact hb
      exact (r.2.2.1 b hb').to k1 k2 k3 k4 k5 (e3 _ (gA_ne hs (by have h1 : b < hz h := hb'; have := r.2.1; omega) hlt e))
  · rw [e3 q (by rw [gA_dyn hlt]; omega)]
    exact r.2.2.2 q hq
theorem XRel.push {G : XG} {h h2 : XH} {H H2 : Heap} {U : State} (r : XRel G h H U) (hs : ∀ a, a ≠ 10000200 → G.2.1 a < G.1) (hm : hz h < 1000000) (e2 : H2.size = H.size + 1) (e3 : ∀ q, q < H.size → H2[q]? = H[q]?) (ez : hz h2 = hz h + 1)
    (ho : ∀ b, b ≠ hz h → hk h2 b = hk h b ∧ hn h2 b = hn h b ∧ (∀ j, hi h2 b j = hi h b j) ∧ (∀ j, hj h2 b j = hj h b j) ∧ ∀ j, hr h2 b j = hr h b j) (hc : xCell G h2 (hz h) H2 U) : XRel G h2 H2 U := by
  refine ⟨by rw [e2, ez, r.1]; omega, by rw [ez]; omega, fun b hb => ?_, fun q hq => ?_⟩
  · by_cases e : b = hz h
    · rw [e]; exact hc
    · obtain ⟨k1, k2, k3, k4, k5⟩ := ho b e
      have hb' : xIn h b := by unfold xIn at hb ⊢; rw [ez] at hb; omega
      refine (r.2.2.1 b hb').to k1 k2 k3 k4 k5 (e3 _ ?_)
      rw [r.1]
      unfold gA gB
      split
      · unfold xIn at hb'; omega
      · have h1 : b < hz h := hb'; have := hs b (by omega); omega
  · rw [e3 q (by rw [r.1]; omega)]
    exact r.2.2.2 q hq
/-- what stays of other cells under the three ways to write, and behind a new one -/
theorem ho_si {h : XH} {a k : Nat} {v : Int32} : ∀ b, b ≠ a → hk (hsi h a k v) b = hk h b ∧ hn (hsi h a k v) b = hn h b ∧ (∀ j, hi (hsi h a k v) b j = hi h b j) ∧ (∀ j, hj (hsi h a k v) b j = hj h b j) ∧ ∀ j, hr (hsi h a k v) b j = hr h b j := fun _ e => ⟨rfl, rfl, fun _ => x2_na e, fun _ => rfl, fun _ => rfl⟩
theorem ho_sj {h : XH} {a k : Nat} {v : Int64} : ∀ b, b ≠ a → hk (hsj h a k v) b = hk h b ∧ hn (hsj h a k v) b = hn h b ∧ (∀ j, hi (hsj h a k v) b j = hi h b j) ∧ (∀ j, hj (hsj h a k v) b j = hj h b j) ∧ ∀ j, hr (hsj h a k v) b j = hr h b j := fun _ e => ⟨rfl, rfl, fun _ => rfl, fun _ => x2_na e, fun _ => rfl⟩
theorem ho_sr {h : XH} {a k : Nat} {v : Option Nat} : ∀ b, b ≠ a → hk (hsr h a k v) b = hk h b ∧ hn (hsr h a k v) b = hn h b ∧ (∀ j, hi (hsr h a k v) b j = hi h b j) ∧ (∀ j, hj (hsr h a k v) b j = hj h b j) ∧ ∀ j, hr (hsr h a k v) b j = hr h b j := fun _ e => ⟨rfl, rfl, fun _ => rfl, fun _ => rfl, fun _ => x2_na e⟩
theorem ho_new {h : XH} {kind n : Nat} : ∀ b, b ≠ hz h → hk (hnew h kind n) b = hk h b ∧ hn (hnew h kind n) b = hn h b ∧ (∀ j, hi (hnew h kind n) b j = hi h b j) ∧ (∀ j, hj (hnew h kind n) b j = hj h b j) ∧ ∀ j, hr (hnew h kind n) b j = hr h b j := by
  intro b e
  have e' : ¬ b = h.1 := e
  simp [hk, hn, hi, hj, hr, hnew, x1, e']
section XHeapA
variable {l : Launch} {G : XG} {q : xEnt} {d pc : Nat} {L : List (Option Value)} {st : List Value} {h : XH}
/-- getfield -/
theorem s_get {a idx ci k : Nat} (hc : xI q pc = some (.getfield idx, 3)) (hf : xLf (xCls q.1) idx ci k) (ha : xIn h a) (hk0 : hk h a = ci) (h13 : ci < 13) : XS l G q d (pc, L, .ref a :: st, h) (pc + 3, L, fv h a k :: st, h) := by
  refine ⟨⟨Nat.le_refl _, Nat.le_refl _⟩, fun p e Rm s m args below meth c cx Qf H locs cells slots ls r hl hq _ _ kk => ?_⟩
  obtain ⟨hx, hb, -, -, -, -, hown, hts, hK, hg, -⟩ := cx
  have hO := (r.2.2.1 a ha).1 (by rw [hk0]; exact h13)
  unfold xO at hO
  rw [hk0] at hO
  obtain ⟨rr, h1, cell, q1, q2, q3, q4⟩ := hO
  obtain ⟨hin, -, -, -, -, -, hcl, hT, hN, -⟩ := xcl h1
  obtain ⟨hS, hfc, kC, hkC, hkind⟩ := hK.1 ci _ h1
  have hkN : k < rr.2.2 := by rw [hN]; exact hf.2
  obtain ⟨cf, kf, fi, f, hi', hsl⟩ := hS k hkN
  have hlink := hts _ hf.1
  rw [← hT] at hlink
  have w := kk H locs ls r hl hq
  simp only [Nat.sub_self, Nat.add_zero] at w
  exact W.getf hx hb hown hlink hi' (u_facts hfc hkC (u_lays hts hin hkN) hi').1 q1 (by rw [q3]; exact fun h => by cases h) (v := mv G (fv h a k)) (by rw [hsl, q4 k hkN]) rfl rfl (xI_dec hg hc) w
theorem s_geti {a idx ci k : Nat} (hc : xI q pc = some (.getfield idx, 3)) (hf : xLf (xCls q.1) idx ci k) (ha : xIn h a) (hk0 : hk h a = ci) (h13 : ci < 13) (ht : xft ci k = 0) : XS l G q d (pc, L, .ref a :: st, h) (pc + 3, L, .int (hi h a k) :: st, h) := by
  have := s_get (l := l) (G := G) (d := d) (L := L) (st := st) hc hf ha hk0 h13
  unfold fv at this; rw [hk0, ht] at this; exact this
theorem s_getz {a idx ci k : Nat} (hc : xI q pc = some (.getfield idx, 3)) (hf : xLf (xCls q.1) idx ci k) (ha : xIn h a) (hk0 : hk h a = ci) (h13 : ci < 13) (ht : xft ci k = 3) : XS l G q d (pc, L, .ref a :: st, h) (pc + 3, L, .int (hi h a k) :: st, h) := by
  have := s_get (l := l) (G := G) (d := d) (L := L) (st := st) hc hf ha hk0 h13
  unfold fv at this; rw [hk0, ht] at this; exact this
theorem s_getj {a idx ci k : Nat} (hc : xI q pc = some (.getfield idx, 3)) (hf : xLf (xCls q.1) idx ci k) (ha : xIn h a) (hk0 : hk h a = ci) (h13 : ci < 13) (ht : xft ci k = 1) : XS l G q d (pc, L, .ref a :: st, h) (pc + 3, L, .long (hj h a k) :: st, h) := by
  have := s_get (l := l) (G := G) (d := d) (L := L) (st := st) hc hf ha hk0 h13
  unfold fv at this; rw [hk0, ht] at this; exact this
theorem s_getr {a idx ci k b : Nat} (hc : xI q pc = some (.getfield idx, 3)) (hf : xLf (xCls q.1) idx ci k) (ha : xIn h a) (hk0 : hk h a = ci) (h13 : ci < 13) (ht : xft ci k = 2) (hb : hr h a k = some b) : XS l G q d (pc, L, .ref a :: st, h) (pc + 3, L, .ref b :: st, h) := by
  have := s_get (l := l) (G := G) (d := d) (L := L) (st := st) hc hf ha hk0 h13
  unfold fv at this; rw [hk0, ht] at this
  simp only [hb] at this; exact this
/-- putfield: a value v of the field's sort; 'up' is the heap behind it -/
theorem s_put {a idx ci k : Nat} {v : Value} {h2 : XH} (hc : xI q pc = some (.putfield idx, 3)) (hf : xLf (xCls q.1) idx ci k) (ha : a < hz h) (hk0 : hk h a = ci) (h13 : ci < 13)
    (hfin : (xTy ci k).2.2.2 = false ∨ ((xTy ci k).1 = xCls q.1 ∧ q.2.1.name = "<init>")) (hv : ∀ ty, xtc ty = xft ci k → narrow ty (mv G v) = mv G v ∧ fits ty (mv G v) = true)
    (ez : hz h2 = hz h) (ew : hw h2 = hw h) (ho : ∀ b, b ≠ a → hk h2 b = hk h b ∧ hn h2 b = hn h b ∧ (∀ j, hi h2 b j = hi h b j) ∧ (∀ j, hj h2 b j = hj h b j) ∧ ∀ j, hr h2 b j = hr h b j) (ek : hk h2 a = ci) (ev : fv h2 a k = v) (en : ∀ j, j ≠ k → j < xNf ci → fv h2 a j = fv h a j) :
    XS l G q d (pc, L, v :: .ref a :: st, h) (pc + 3, L, st, h2) := by
  refine ⟨⟨Nat.le_of_eq ez.symm, Nat.le_of_eq ew.symm⟩, fun p e Rm s m args below meth c cx Qf H locs cells slots ls r hl hq _ _ kk => ?_⟩
  obtain ⟨hx, hb, -, -, -, hname, hown, hts, hK, hg, -, -, -, hs⟩ := cx
  have hO := (r.2.2.1 a ha).1 (by rw [hk0]; exact h13)
  unfold xO at hO
  rw [hk0] at hO
  obtain ⟨rr, h1, cell, q1, q2, q3, q4⟩ := hO
  obtain ⟨hin, ⟨ty, hty, htc⟩, hnm, -, -, -, hcl, hT, hN, -⟩ := xcl h1
  have hap := va_apart (own := xCls q.1) hts hin ty hty hnm hK (show vwCl[ci]? = some (rr.1, rr.2.1, rr.2.2) from h1)
  obtain ⟨hS, hfc, kC, hkC, hkind⟩ := hK.1 ci _ h1
  have hkN : k < rr.2.2 := by rw [hN]; exact hf.2
  obtain ⟨cf, kf, fi, f, hi', hsl⟩ := hS k hkN
  have hlink := hts _ hf.1
  rw [← hT] at hlink hfin
  have hst := (u_facts hfc hkC (u_lays hts hin hkN) hi').1
  obtain ⟨v1, v2⟩ := hv (ty k) (htc k hkN)
  have hlay := hts _ (hin _ (u_in_lay hkN))
  have fin : ∀ H' : Heap, H'[gA G a]? = some (cell.setSlot f.slot (mv G v)) → H'.size = H.size → (∀ z, z ≠ gA G a → H'[z]? = H[z]?) → W p l e Rm s m args below meth c H' (locs ++ [⟨gA G a, f.slot⟩]) cells slots Qf (F0 m (pc + 3) ls (st.map (mv G))) := by
    intro H' e1 e2 e3
    have w := kk H' (locs ++ [⟨gA G a, f.slot⟩]) ls ?_ hl ?_
    · simp only [ez, ew, Nat.sub_self, Nat.add_zero] at w
      exact w
    · refine r.put hs ha e2 e3 ez ho ⟨fun _ => ?_, fun z => ?_, fun z => ?_, fun z => ?_, fun z => ?_, fun z => ?_, fun z => ?_⟩
      · unfold xO
        rw [ek]
        rw [hsl] at e1
        refine ⟨rr, h1, t_OB.to (V := updV (fun j => mv G (fv h a j)) k (mv G v)) ⟨_, e1, q2, q3, t_set q4 hap hkN (mv G v)⟩ fun j hj => ?_⟩
        unfold updV
        split
        · rename_i e; rw [e, ev]
        · rename_i e; rw [en j e (by rw [← hN]; exact hj)]
      all_goals (rw [ek] at z; omega)
    · intro z hz'
      rcases List.mem_append.mp hz' with h9 | h9
      · exact hq z h9
      · rw [List.mem_singleton.mp h9]
        show gB G ≤ gA G a
        rw [gA_dyn (Nat.lt_of_lt_of_le ha (Nat.le_trans r.2.1 (by omega)))]
        omega
  have hlt : f.slot < cell.slots.size := by rw [hsl]; exact k2_hasslot (q4 k hkN)
  unfold u_lay at hlay
  by_cases hff : (rr.2.1 k).2.2.2 = true
  · rw [if_pos hff] at hlay
    rcases hfin with h9 | ⟨hdecl, hin2⟩
    · rw [hff] at h9; cases h9
    have hcf : m.cls = cf := by
      obtain ⟨_, _, c', _, _, _, -, -, hf', -, -, -, hown2, -⟩ := Cond.laysFinal_spec hlay
      have e1 : c' = cf := by have := hi'.symm.trans hf'; simp at this; exact this.1.symm
      rw [hdecl] at hown2
      rw [← e1]; exact Option.some.inj (hown.symm.trans hown2)
    have h6 := u_fits hfc hkC hkind (Or.inr hlay) hi' (hty k hkN) v1 v2
    exact W.putFinK hx hb hown hlink hi' hst hcf (hname.trans hin2) (by rw [q2]; exact h6) q1 q3 hlt rfl rfl (xI_dec hg hc) fin
  · rw [if_neg hff] at hlay
    have h6 := u_store hfc hkC hkind hlay hi' (hty k hkN) v1 v2
    exact W.putK hx hb (f := f) ⟨hown, hlink, ⟨_, _, _, hi'⟩, hst⟩ (by rw [q2]; exact h6) q1 q3 hlt rfl rfl (xI_dec hg hc) fin
end XHeapA

