set_option maxRecDepth 20000 in
theorem inX0 : ∀ w ∈ u_ws RX0 TX0 4, w ∈ zWT := show ∀ w ∈ [u_lay RX0 TX0 0, u_lay RX0 TX0 1, u_lay RX0 TX0 2, u_lay RX0 TX0 3], w ∈ zWT from List.forall_mem_cons.mpr ⟨z_i2 30 (by decide +kernel) rfl, List.forall_mem_cons.mpr ⟨z_i2 32 (by decide +kernel) rfl, List.forall_mem_cons.mpr ⟨z_i2 34 (by decide +kernel) rfl, List.forall_mem_cons.mpr ⟨z_i2 36 (by decide +kernel) rfl, fun _ h => absurd h List.not_mem_nil⟩⟩⟩⟩
set_option maxRecDepth 20000 in
theorem inX1 : ∀ w ∈ u_ws RX1 TX1 6, w ∈ zWT := show ∀ w ∈ [u_lay RX1 TX1 0, u_lay RX1 TX1 1, u_lay RX1 TX1 2, u_lay RX1 TX1 3, u_lay RX1 TX1 4, u_lay RX1 TX1 5], w ∈ zWT from List.forall_mem_cons.mpr ⟨z_i1 215 (by decide +kernel) rfl, List.forall_mem_cons.mpr ⟨z_i1 217 (by decide +kernel) rfl, List.forall_mem_cons.mpr ⟨z_i1 219 (by decide +kernel) rfl, List.forall_mem_cons.mpr ⟨z_i1 221 (by decide +kernel) rfl, List.forall_mem_cons.mpr ⟨z_i1 223 (by decide +kernel) rfl, List.forall_mem_cons.mpr ⟨z_i1 225 (by decide +kernel) rfl, fun _ h => absurd h List.not_mem_nil⟩⟩⟩⟩⟩⟩
set_option maxRecDepth 20000 in
theorem inX2 : ∀ w ∈ u_ws RX2 TX2 6, w ∈ zWT := show ∀ w ∈ [u_lay RX2 TX2 0, u_lay RX2 TX2 1, u_lay RX2 TX2 2, u_lay RX2 TX2 3, u_lay RX2 TX2 4, u_lay RX2 TX2 5], w ∈ zWT from List.forall_mem_cons.mpr ⟨z_i1 115 (by decide +kernel) rfl, List.forall_mem_cons.mpr ⟨z_i1 117 (by decide +kernel) rfl, List.forall_mem_cons.mpr ⟨z_i1 119 (by decide +kernel) rfl, List.forall_mem_cons.mpr ⟨z_i1 121 (by decide +kernel) rfl, List.forall_mem_cons.mpr ⟨z_i1 123 (by decide +kernel) rfl, List.forall_mem_cons.mpr ⟨z_i1 125 (by decide +kernel) rfl, fun _ h => absurd h List.not_mem_nil⟩⟩⟩⟩⟩⟩
set_option maxRecDepth 20000 in
theorem inX3 : ∀ w ∈ u_ws RX3 TX3 4, w ∈ zWT := show ∀ w ∈ [u_lay RX3 TX3 0, u_lay RX3 TX3 1, u_lay RX3 TX3 2, u_lay RX3 TX3 3], w ∈ zWT from List.forall_mem_cons.mpr ⟨z_i1 140 (by decide +kernel) rfl, List.forall_mem_cons.mpr ⟨z_i1 142 (by decide +kernel) rfl, List.forall_mem_cons.mpr ⟨z_i1 144 (by decide +kernel) rfl, List.forall_mem_cons.mpr ⟨z_i1 146 (by decide +kernel) rfl, fun _ h => absurd h List.not_mem_nil⟩⟩⟩⟩
set_option maxRecDepth 20000 in
theorem inX4 : ∀ w ∈ u_ws RX4 TX4 9, w ∈ zWT := show ∀ w ∈ [u_lay RX4 TX4 0, u_lay RX4 TX4 1, u_lay RX4 TX4 2, u_lay RX4 TX4 3, u_lay RX4 TX4 4, u_lay RX4 TX4 5, u_lay RX4 TX4 6, u_lay RX4 TX4 7, u_lay RX4 TX4 8], w ∈ zWT from List.forall_mem_cons.mpr ⟨z_i1 82 (by decide +kernel) rfl, List.forall_mem_cons.mpr ⟨z_i1 84 (by decide +kernel) rfl, List.forall_mem_cons.mpr ⟨z_i1 86 (by decide +kernel) rfl, List.forall_mem_cons.mpr ⟨z_i1 88 (by decide +kernel) rfl, List.forall_mem_cons.mpr ⟨z_i1 90 (by decide +kernel) rfl, List.forall_mem_cons.mpr ⟨z_i1 92 (by decide +kernel) rfl, List.forall_mem_cons.mpr ⟨z_i1 94 (by decide +kernel) rfl, List.forall_mem_cons.mpr ⟨z_i1 96 (by decide +kernel) rfl, List.forall_mem_cons.mpr ⟨z_i1 98 (by decide +kernel) rfl, fun _ h => absurd h List.not_mem_nil⟩⟩⟩⟩⟩⟩⟩⟩⟩
set_option maxRecDepth 20000 in
theorem inX5 : ∀ w ∈ u_ws RX5 TX5 7, w ∈ zWT := show ∀ w ∈ [u_lay RX5 TX5 0, u_lay RX5 TX5 1, u_lay RX5 TX5 2, u_lay RX5 TX5 3, u_lay RX5 TX5 4, u_lay RX5 TX5 5, u_lay RX5 TX5 6], w ∈ zWT from List.forall_mem_cons.mpr ⟨z_i2 2 (by decide +kernel) rfl, List.forall_mem_cons.mpr ⟨z_i2 4 (by decide +kernel) rfl, List.forall_mem_cons.mpr ⟨z_i2 6 (by decide +kernel) rfl, List.forall_mem_cons.mpr ⟨z_i2 8 (by decide +kernel) rfl, List.forall_mem_cons.mpr ⟨z_i2 10 (by decide +kernel) rfl, List.forall_mem_cons.mpr ⟨z_i2 12 (by decide +kernel) rfl, List.forall_mem_cons.mpr ⟨z_i2 14 (by decide +kernel) rfl, fun _ h => absurd h List.not_mem_nil⟩⟩⟩⟩⟩⟩⟩
set_option maxRecDepth 20000 in
theorem inX6 : ∀ w ∈ u_ws RX6 TX6 5, w ∈ zWT := show ∀ w ∈ [u_lay RX6 TX6 0, u_lay RX6 TX6 1, u_lay RX6 TX6 2, u_lay RX6 TX6 3, u_lay RX6 TX6 4], w ∈ zWT from List.forall_mem_cons.mpr ⟨z_i2 75 (by decide +kernel) rfl, List.forall_mem_cons.mpr ⟨z_i2 77 (by decide +kernel) rfl, List.forall_mem_cons.mpr ⟨z_i2 79 (by decide +kernel) rfl, List.forall_mem_cons.mpr ⟨z_i2 81 (by decide +kernel) rfl, List.forall_mem_cons.mpr ⟨z_i2 83 (by decide +kernel) rfl, fun _ h => absurd h List.not_mem_nil⟩⟩⟩⟩⟩
set_option maxRecDepth 20000 in
theorem inX7 : ∀ w ∈ u_ws RX7 TX7 7, w ∈ zWT := show ∀ w ∈ [u_lay RX7 TX7 0, u_lay RX7 TX7 1, u_lay RX7 TX7 2, u_lay RX7 TX7 3, u_lay RX7 TX7 4, u_lay RX7 TX7 5, u_lay RX7 TX7 6], w ∈ zWT from List.forall_mem_cons.mpr ⟨z_i1 167 (by decide +kernel) rfl, List.forall_mem_cons.mpr ⟨z_i1 169 (by decide +kernel) rfl, List.forall_mem_cons.mpr ⟨z_i1 171 (by decide +kernel) rfl, List.forall_mem_cons.mpr ⟨z_i1 173 (by decide +kernel) rfl, List.forall_mem_cons.mpr ⟨z_i1 175 (by decide +kernel) rfl, List.forall_mem_cons.mpr ⟨z_i1 177 (by decide +kernel) rfl, List.forall_mem_cons.mpr ⟨z_i1 179 (by decide +kernel) rfl, fun _ h => absurd h List.not_mem_nil⟩⟩⟩⟩⟩⟩⟩
set_option maxRecDepth 20000 in
theorem inX8 : ∀ w ∈ u_ws RX8 TX8 4, w ∈ zWT := show ∀ w ∈ [u_lay RX8 TX8 0, u_lay RX8 TX8 1, u_lay RX8 TX8 2, u_lay RX8 TX8 3], w ∈ zWT from List.forall_mem_cons.mpr ⟨z_i2 53 (by decide +kernel) rfl, List.forall_mem_cons.mpr ⟨z_i2 55 (by decide +kernel) rfl, List.forall_mem_cons.mpr ⟨z_i2 57 (by decide +kernel) rfl, List.forall_mem_cons.mpr ⟨z_i2 59 (by decide +kernel) rfl, fun _ h => absurd h List.not_mem_nil⟩⟩⟩⟩
set_option maxRecDepth 20000 in
theorem inX9 : ∀ w ∈ u_ws RX9 TX9 6, w ∈ zWT := show ∀ w ∈ [u_lay RX9 TX9 0, u_lay RX9 TX9 1, u_lay RX9 TX9 2, u_lay RX9 TX9 3, u_lay RX9 TX9 4, u_lay RX9 TX9 5], w ∈ zWT from List.forall_mem_cons.mpr ⟨z_i1 49 (by decide +kernel) rfl, List.forall_mem_cons.mpr ⟨z_i1 51 (by decide +kernel) rfl, List.forall_mem_cons.mpr ⟨z_i1 53 (by decide +kernel) rfl, List.forall_mem_cons.mpr ⟨z_i1 55 (by decide +kernel) rfl, List.forall_mem_cons.mpr ⟨z_i1 57 (by decide +kernel) rfl, List.forall_mem_cons.mpr ⟨z_i1 59 (by decide +kernel) rfl, fun _ h => absurd h List.not_mem_nil⟩⟩⟩⟩⟩⟩
set_option maxRecDepth 20000 in
theorem inX10 : ∀ w ∈ u_ws RX10 TX10 4, w ∈ zWT := show ∀ w ∈ [u_lay RX10 TX10 0, u_lay RX10 TX10 1, u_lay RX10 TX10 2, u_lay RX10 TX10 3], w ∈ zWT from List.forall_mem_cons.mpr ⟨z_i1 193 (by decide +kernel) rfl, List.forall_mem_cons.mpr ⟨z_i1 195 (by decide +kernel) rfl, List.forall_mem_cons.mpr ⟨z_i1 197 (by decide +kernel) rfl, List.forall_mem_cons.mpr ⟨z_i1 199 (by decide +kernel) rfl, fun _ h => absurd h List.not_mem_nil⟩⟩⟩⟩
set_option maxRecDepth 20000 in
theorem inX11 : ∀ w ∈ u_ws RX11 TX11 12, w ∈ zWT := show ∀ w ∈ [u_lay RX11 TX11 0, u_lay RX11 TX11 1, u_lay RX11 TX11 2, u_lay RX11 TX11 3, u_lay RX11 TX11 4, u_lay RX11 TX11 5, u_lay RX11 TX11 6, u_lay RX11 TX11 7, u_lay RX11 TX11 8, u_lay RX11 TX11 9, u_lay RX11 TX11 10, u_lay RX11 TX11 11], w ∈ zWT from List.forall_mem_cons.mpr ⟨z_i2 98 (by decide +kernel) rfl, List.forall_mem_cons.mpr ⟨z_i2 100 (by decide +kernel) rfl, List.forall_mem_cons.mpr ⟨z_i2 102 (by decide +kernel) rfl, List.forall_mem_cons.mpr ⟨z_i2 104 (by decide +kernel) rfl, List.forall_mem_cons.mpr ⟨z_i2 106 (by decide +kernel) rfl, List.forall_mem_cons.mpr ⟨z_i2 108 (by decide +kernel) rfl, List.forall_mem_cons.mpr ⟨z_i2 110 (by decide +kernel) rfl, List.forall_mem_cons.mpr ⟨z_i2 112 (by decide +kernel) rfl, List.forall_mem_cons.mpr ⟨z_i2 114 (by decide +kernel) rfl, List.forall_mem_cons.mpr ⟨z_i2 116 (by decide +kernel) rfl, List.forall_mem_cons.mpr ⟨z_i2 118 (by decide +kernel) rfl, List.forall_mem_cons.mpr ⟨z_i2 120 (by decide +kernel) rfl, fun _ h => absurd h List.not_mem_nil⟩⟩⟩⟩⟩⟩⟩⟩⟩⟩⟩⟩
set_option maxRecDepth 20000 in
theorem inX12 : ∀ w ∈ u_ws RX12 TX12 57, w ∈ zWT := show ∀ w ∈ [u_lay RX12 TX12 0, u_lay RX12 TX12 1, u_lay RX12 TX12 2, u_lay RX12 TX12 3, u_lay RX12 TX12 4, u_lay RX12 TX12 5, u_lay RX12 TX12 6, u_lay RX12 TX12 7, u_lay RX12 TX12 8, u_lay RX12 TX12 9, u_lay RX12 TX12 10, u_lay RX12 TX12 11, u_lay RX12 TX12 12, u_lay RX12 TX12 13, u_lay RX12 TX12 14, u_lay RX12 TX12 15, u_lay RX12 TX12 16, u_lay RX12 TX12 17, u_lay RX12 TX12 18, u_lay RX12 TX12 19, u_lay RX12 TX12 20, u_lay RX12 TX12 21, u_lay RX12 TX12 22, u_lay RX12 TX12 23, u_lay RX12 TX12 24, u_lay RX12 TX12 25, u_lay RX12 TX12 26, u_lay RX12 TX12 27, u_lay RX12 TX12 28, u_lay RX12 TX12 29, u_lay RX12 TX12 30, u_lay RX12 TX12 31, u_lay RX12 TX12 32, u_lay RX12 TX12 33, u_lay RX12 TX12 34, u_lay RX12 TX12 35, u_lay RX12 TX12 36, u_lay RX12 TX12 37, u_lay RX12 TX12 38, u_lay RX12 TX12 39, u_lay RX12 TX12 40, u_lay RX12 TX12 41, u_lay RX12 TX12 42, u_lay RX12 TX12 43, u_lay RX12 TX12 44, u_lay RX12 TX12 45, u_lay RX12 TX12 46, u_lay RX12 TX12 47, u_lay RX12 TX12 48, u_lay RX12 TX12 49, u_lay RX12 TX12 50, u_lay RX12 TX12 51, u_lay RX12 TX12 52, u_lay RX12 TX12 53, u_lay RX12 TX12 54, u_lay RX12 TX12 55, u_lay RX12 TX12 56], w ∈ zWT from List.forall_mem_cons.mpr ⟨z_i5 100 (by decide +kernel) rfl, List.forall_mem_cons.mpr ⟨z_i5 102 (by decide +kernel) rfl, List.forall_mem_cons.mpr ⟨z_i5 104 (by decide +kernel) rfl, List.forall_mem_cons.mpr ⟨z_i5 106 (by decide +kernel) rfl, List.forall_mem_cons.mpr ⟨z_i5 108 (by decide +kernel) rfl, List.forall_mem_cons.mpr ⟨z_i5 110 (by decide +kernel) rfl, List.forall_mem_cons.mpr ⟨z_i5 112 (by decide +kernel) rfl, List.forall_mem_cons.mpr ⟨z_i5 114 (by decide +kernel) rfl, List.forall_mem_cons.mpr ⟨z_i5 116 (by decide +kernel) rfl, List.forall_mem_cons.mpr ⟨z_i5 118 (by decide +kernel) rfl, List.forall_mem_cons.mpr ⟨z_i5 120 (by decide +kernel) rfl, List.forall_mem_cons.mpr ⟨z_i5 122 (by decide +kernel) rfl, List.forall_mem_cons.mpr ⟨z_i5 124 (by decide +kernel) rfl, List.forall_mem_cons.mpr ⟨z_i5 126 (by decide +kernel) rfl, List.forall_mem_cons.mpr ⟨z_i5 128 (by decide +kernel) rfl, List.forall_mem_cons.mpr ⟨z_i5 130 (by decide +kernel) rfl, List.forall_mem_cons.mpr ⟨z_i5 132 (by decide +kernel) rfl, List.forall_mem_cons.mpr ⟨z_i5 134 (by decide +kernel) rfl, List.forall_mem_cons.mpr ⟨z_i5 136 (by decide +kernel) rfl, List.forall_mem_cons.mpr ⟨z_i5 138 (by decide +kernel) rfl, List.forall_mem_cons.mpr ⟨z_i5 140 (by decide +kernel) rfl, List.forall_mem_cons.mpr ⟨z_i5 142 (by decide +kernel) rfl, List.forall_mem_cons.mpr ⟨z_i5 144 (by decide +kernel) rfl, List.forall_mem_cons.mpr ⟨z_i5 146 (by decide +kernel) rfl, List.forall_mem_cons.mpr ⟨z_i5 148 (by decide +kernel) rfl, List.forall_mem_cons.mpr ⟨z_i5 150 (by decide +kernel) rfl, List.forall_mem_cons.mpr ⟨z_i5 152 (by decide +kernel) rfl, List.forall_mem_cons.mpr ⟨z_i5 154 (by decide +kernel) rfl, List.forall_mem_cons.mpr ⟨z_i5 156 (by decide +kernel) rfl, List.forall_mem_cons.mpr ⟨z_i5 158 (by decide +kernel) rfl, List.forall_mem_cons.mpr ⟨z_i5 160 (by decide +kernel) rfl, List.forall_mem_cons.mpr ⟨z_i5 162 (by decide +kernel) rfl, List.forall_mem_cons.mpr ⟨z_i5 164 (by decide +kernel) rfl, List.forall_mem_cons.mpr ⟨z_i5 166 (by decide +kernel) rfl, List.forall_mem_cons.mpr ⟨z_i5 168 (by decide +kernel) rfl, List.forall_mem_cons.mpr ⟨z_i5 170 (by decide +kernel) rfl, List.forall_mem_cons.mpr ⟨z_i5 172 (by decide +kernel) rfl, List.forall_mem_cons.mpr ⟨z_i5 174 (by decide +kernel) rfl, List.forall_mem_cons.mpr ⟨z_i5 176 (by decide +kernel) rfl, List.forall_mem_cons.mpr ⟨z_i5 178 (by decide +kernel) rfl, List.forall_mem_cons.mpr ⟨z_i5 180 (by decide +kernel) rfl, List.forall_mem_cons.mpr ⟨z_i5 182 (by decide +kernel) rfl, List.forall_mem_cons.mpr ⟨z_i5 184 (by decide +kernel) rfl, List.forall_mem_cons.mpr ⟨z_i5 186 (by decide +kernel) rfl, List.forall_mem_cons.mpr ⟨z_i5 188 (by decide +kernel) rfl, List.forall_mem_cons.mpr ⟨z_i5 190 (by decide +kernel) rfl, List.forall_mem_cons.mpr ⟨z_i5 192 (by decide +kernel) rfl, List.forall_mem_cons.mpr ⟨z_i5 194 (by decide +kernel) rfl, List.forall_mem_cons.mpr ⟨z_i5 196 (by decide +kernel) rfl, List.forall_mem_cons.mpr ⟨z_i5 198 (by decide +kernel) rfl, List.forall_mem_cons.mpr ⟨z_i5 200 (by decide +kernel) rfl, List.forall_mem_cons.mpr ⟨z_i5 202 (by decide +kernel) rfl, List.forall_mem_cons.mpr ⟨z_i5 204 (by decide +kernel) rfl, List.forall_mem_cons.mpr ⟨z_i5 206 (by decide +kernel) rfl, List.forall_mem_cons.mpr ⟨z_i5 208 (by decide +kernel) rfl, List.forall_mem_cons.mpr ⟨z_i5 210 (by decide +kernel) rfl, List.forall_mem_cons.mpr ⟨z_i5 212 (by decide +kernel) rfl, fun _ h => absurd h List.not_mem_nil⟩⟩⟩⟩⟩⟩⟩⟩⟩⟩⟩⟩⟩⟩⟩⟩⟩⟩⟩⟩⟩⟩⟩⟩⟩⟩⟩⟩⟩⟩⟩⟩⟩⟩⟩⟩⟩⟩⟩⟩⟩⟩⟩⟩⟩⟩⟩⟩⟩⟩⟩⟩⟩⟩⟩⟩⟩
def zshL : List (Nat × Nat) := [(11, 12), (9, 6), (24, 12), (20, 10), (20, 10), (20, 10), (20, 10), (20, 10), (20, 10), (20, 10), (20, 10), (20, 10), (20, 10), (20, 10), (20, 10), (20, 5), (4, 9), (20, 12), (20, 12), (2, 6), (20, 8), (20, 8), (3, 4), (20, 24), (7, 7), (20, 10), (20, 10), (20, 10), (20, 4), (10, 4), (20, 120), (1, 6), (20, 40), (20, 40), (20, 40), (20, 40), (5, 7), (20, 5), (0, 4), (20, 50), (20, 24), (25, 6), (8, 4), (21, 60), (8, 4), (21, 60), (8, 4), (21, 60), (8, 4), (21, 60), (8, 4), (21, 60), (8, 4), (21, 60), (6, 5), (20, 128), (20, 128), (20, 128), (20, 6), (6, 5), (20, 128), (20, 128), (20, 128), (20, 6), (12, 57), (20, 10), (20, 10), (20, 10), (20, 10), (20, 10), (20, 10), (20, 4), (20, 4), (20, 6), (20, 3), (20, 40), (20, 40), (20, 40), (20, 40), (22, 120), (22, 260), (20, 260), (20, 2), (23, 122), (23, 122), (20, 6), (20, 130), (20, 10), (20, 10), (20, 10), (20, 4), (20, 4), (20, 5), (20, 5), (20, 50), (20, 24), (20, 6), (20, 6), (21, 360), (21, 60)]
def zstL : List (List Int32) := [[0, 1, 0, 0, 0, 0, 0, 1, 1, 0, 0, -2147483648], [47, 9, 9, 9, 1, 1, 9, 9, 1023, 999, 999, 2147483647], [-1, 0, 0, 2, 1, 3, 0, 6], [1, 10, 11, 2, 20, 0, 0, 0, 0, 30, 0, 0, 0, 41, 40, 0, 0, 0, 0, 50, 0, 0, 60, 61, 70, 0, 0, 0, 81, 80, 0, 0]]
/-! THE WORLD AS NUMBERS: cells 0, 1, .. in the order in which they are made; ints, longs, references (by number), how many are made -/
abbrev zW : Type := (Nat → Nat → Int32) × (Nat → Nat → Int64) × (Nat → Nat → Option Nat) × Nat
abbrev zG : Type := Nat × Heap × (Nat → ClassId) × (Nat → Nat → Nat) × (Nat → ClassId) × (Nat → Nat) × (Nat → Int32) × Nat
abbrev zgB (g : zG) : Nat := g.1
abbrev zgH (g : zG) : Heap := g.2.1
abbrev zgC (g : zG) : Nat → ClassId := g.2.2.1
abbrev zgI (g : zG) : Nat → Nat → Nat := g.2.2.2.1
abbrev zgA (g : zG) : Nat → ClassId := g.2.2.2.2.1
abbrev zgS (g : zG) : Nat → Nat := g.2.2.2.2.2.1
abbrev zgX (g : zG) : Nat → Int32 := g.2.2.2.2.2.2.1
abbrev zgL (g : zG) : Nat := g.2.2.2.2.2.2.2
def zad (g : zG) (a : Nat) : Nat := if a < 1000 then zgB g + a else zgS g (a - 1000)
def zrv (g : zG) : Value → Value
  | .ref a => .ref (zad g a)
  | .null => .null
  | .int x => .int x
  | .long x => .long x
  | v => v
theorem zrv_cat (g : zG) (v : Value) : (zrv g v).category = v.category := by cases v <;> rfl
abbrev zcl : List vw_C := [(RX0, TX0, 4), (RX1, TX1, 6), (RX2, TX2, 6), (RX3, TX3, 4), (RX4, TX4, 9), (RX5, TX5, 7), (RX6, TX6, 5), (RX7, TX7, 7), (RX8, TX8, 4), (RX9, TX9, 6), (RX10, TX10, 4), (RX11, TX11, 12), (RX12, TX12, 57)]
def zcR (k : Nat) : String := match k with
  | 0 => RX0 | 1 => RX1 | 2 => RX2 | 3 => RX3 | 4 => RX4 | 5 => RX5 | 6 => RX6 | 7 => RX7 | 8 => RX8 | 9 => RX9 | 10 => RX10 | 11 => RX11 | _ => RX12
def zcT (k : Nat) : u_T := match k with
  | 0 => TX0 | 1 => TX1 | 2 => TX2 | 3 => TX3 | 4 => TX4 | 5 => TX5 | 6 => TX6 | 7 => TX7 | 8 => TX8 | 9 => TX9 | 10 => TX10 | 11 => TX11 | _ => TX12
def zcY (k : Nat) : Nat → FieldType := match k with
  | 0 => tyX0 | 1 => tyX1 | 2 => tyX2 | 3 => tyX3 | 4 => tyX4 | 5 => tyX5 | 6 => tyX6 | 7 => tyX7 | 8 => tyX8 | 9 => tyX9 | 10 => tyX10 | 11 => tyX11 | _ => tyX12
def zcN (k : Nat) : Nat := match k with
  | 0 => 4 | 1 => 6 | 2 => 6 | 3 => 4 | 4 => 9 | 5 => 7 | 6 => 5 | 7 => 7 | 8 => 4 | 9 => 6 | 10 => 4 | 11 => 12 | _ => 57
theorem zk13 {P : Nat → Prop} (h0 : P 0) (h1 : P 1) (h2 : P 2) (h3 : P 3) (h4 : P 4) (h5 : P 5) (h6 : P 6) (h7 : P 7) (h8 : P 8) (h9 : P 9) (h10 : P 10) (h11 : P 11) (h12 : P 12) {k : Nat} (hk : k < 13) : P k := by
  match k, hk with
  | 0, _ => exact h0
  | 1, _ => exact h1
  | 2, _ => exact h2
  | 3, _ => exact h3
  | 4, _ => exact h4
  | 5, _ => exact h5
  | 6, _ => exact h6
  | 7, _ => exact h7
  | 8, _ => exact h8
  | 9, _ => exact h9
  | 10, _ => exact h10
  | 11, _ => exact h11
  | 12, _ => exact h12
theorem zc_at {k : Nat} (hk : k < 13) : zcl[k]? = some (zcR k, zcT k, zcN k) := zk13 (P := fun k => zcl[k]? = some (zcR k, zcT k, zcN k)) rfl rfl rfl rfl rfl rfl rfl rfl rfl rfl rfl rfl rfl hk
theorem zc_ty {k : Nat} (hk : k < 13) : ∀ j, j < zcN k → parseFieldDescriptor (zcT k j).2.2.1 = some (zcY k j) := zk13 (P := fun k => ∀ j, j < zcN k → parseFieldDescriptor (zcT k j).2.2.1 = some (zcY k j)) tyX0_ok tyX1_ok tyX2_ok tyX3_ok tyX4_ok tyX5_ok tyX6_ok tyX7_ok tyX8_ok tyX9_ok tyX10_ok tyX11_ok tyX12_ok hk
theorem zc_nm {k : Nat} (hk : k < 13) : ∀ a, a < zcN k → ∀ b, b < zcN k → a ≠ b → (zcT k a).2.1 ≠ (zcT k b).2.1 := zk13 (P := fun k => ∀ a, a < zcN k → ∀ b, b < zcN k → a ≠ b → (zcT k a).2.1 ≠ (zcT k b).2.1) nmX0 nmX1 nmX2 nmX3 nmX4 nmX5 nmX6 nmX7 nmX8 nmX9 nmX10 nmX11 nmX12 hk
theorem zc_in {k : Nat} (hk : k < 13) : ∀ w ∈ u_ws (zcR k) (zcT k) (zcN k), w ∈ zWT := zk13 (P := fun k => ∀ w ∈ u_ws (zcR k) (zcT k) (zcN k), w ∈ zWT) inX0 inX1 inX2 inX3 inX4 inX5 inX6 inX7 inX8 inX9 inX10 inX11 inX12 hk
theorem zc_own {k : Nat} (hk : k < 13) : ∀ j, j < zcN k → (zcT k j).1 = zcR k := zk13 (P := fun k => ∀ j, j < zcN k → (zcT k j).1 = zcR k) (by decide +kernel) (by decide +kernel) (by decide +kernel) (by decide +kernel) (by decide +kernel) (by decide +kernel) (by decide +kernel) (by decide +kernel) (by decide +kernel) (by decide +kernel) (by decide +kernel) (by decide +kernel) (by decide +kernel) hk
def zsh (a : Nat) : Nat × Nat := if a < 1000 then zshL.getD a (99, 0) else (99, 0)
def zS : Nat → Nat
  | 0 => 0
  | n + 1 => zS n + (zsh n).2
theorem zS_le {a b : Nat} (h : a ≤ b) : zS a ≤ zS b := by
  induction h with
  | refl => exact Nat.le_refl _
  | step _ ih => exact Nat.le_trans ih (Nat.le_add_right _ _)
def zrf (kd k : Nat) : Bool := match zcY kd k with
  | .object _ => true
  | .array _ => true
  | _ => false
def zfv (g : zG) (i : Nat → Int32) (r : Nat → Option Nat) (kd k : Nat) : Value := if zrf kd k = true then va_rf ((r k).map (zad g)) else .int (i k)
def zel (g : zG) (i : Nat → Int32) (l : Nat → Int64) (r : Nat → Option Nat) (kd k : Nat) : Value := if kd = 21 then .long (l k) else if kd < 24 then .int (i k) else va_rf ((r k).map (zad g))
def zcell (g : zG) (i : Nat → Int32) (l : Nat → Int64) (r : Nat → Option Nat) (a : Nat) (H : Heap) : Prop :=
  if (zsh a).1 < 13 then t_OB (zgB g + a) (zgC g (zsh a).1) (zcN (zsh a).1) (zgI g (zsh a).1) H (zfv g i r (zsh a).1)
  else H[zgB g + a]? = some (arrV (zgA g (zsh a).1) (zsh a).2 (zel g i l r (zsh a).1))
theorem zcell_o {g : zG} {i : Nat → Int32} {l : Nat → Int64} {r : Nat → Option Nat} {a kd len : Nat} {H : Heap} (h : zcell g i l r a H) (hs : zsh a = (kd, len)) (hk : kd < 13) : t_OB (zgB g + a) (zgC g kd) (zcN kd) (zgI g kd) H (zfv g i r kd) := by
  unfold zcell at h
  rw [hs] at h
  rwa [if_pos hk] at h
theorem zcell_a {g : zG} {i : Nat → Int32} {l : Nat → Int64} {r : Nat → Option Nat} {a kd len : Nat} {H : Heap} (h : zcell g i l r a H) (hs : zsh a = (kd, len)) (hk : ¬ kd < 13) : H[zgB g + a]? = some (arrV (zgA g kd) len (zel g i l r kd)) := by
  unfold zcell at h
  rw [hs] at h
  rwa [if_neg hk] at h
theorem zcell_oi {g : zG} {i : Nat → Int32} {l : Nat → Int64} {r : Nat → Option Nat} {a kd len : Nat} {H : Heap} (hs : zsh a = (kd, len)) (hk : kd < 13) (h : t_OB (zgB g + a) (zgC g kd) (zcN kd) (zgI g kd) H (zfv g i r kd)) : zcell g i l r a H := by
  unfold zcell
  rw [hs]
  rwa [if_pos hk]
theorem zcell_ai {g : zG} {i : Nat → Int32} {l : Nat → Int64} {r : Nat → Option Nat} {a kd len : Nat} {H : Heap} (hs : zsh a = (kd, len)) (hk : ¬ kd < 13) (h : H[zgB g + a]? = some (arrV (zgA g kd) len (zel g i l r kd))) : zcell g i l r a H := by
  unfold zcell
  rw [hs]
  rwa [if_neg hk]
theorem zcell_kept {g : zG} {i : Nat → Int32} {l : Nat → Int64} {r : Nat → Option Nat} {a : Nat} {H H1 : Heap} (h : zcell g i l r a H) (hq : H1[zgB g + a]? = H[zgB g + a]?) : zcell g i l r a H1 := by
  unfold zcell at h ⊢
  split
  next hk => rw [if_pos hk] at h; exact h.kept hq
  next hk => rw [if_neg hk] at h; rw [hq]; exact h
def zRep (g : zG) (w : zW) (H : Heap) : Prop := H.size = zgB g + w.2.2.2 ∧ (∀ a : Nat, a < w.2.2.2 → zcell g (w.1 a) (w.2.1 a) (w.2.2.1 a) a H) ∧ ∀ q : Nat, q < zgB g → H[q]? = (zgH g)[q]?
theorem zRep_set {g : zG} {w w' : zW} {a : Nat} {H H1 : Heap} (h : zRep g w H) (ha : a < w.2.2.2) (hn : w'.2.2.2 = w.2.2.2) (z : H1.size = H.size) (oq : ∀ q : Nat, q ≠ zgB g + a → H1[q]? = H[q]?)
    (hI : ∀ b, b ≠ a → w'.1 b = w.1 b) (hL : ∀ b, b ≠ a → w'.2.1 b = w.2.1 b) (hR : ∀ b, b ≠ a → w'.2.2.1 b = w.2.2.1 b) (hc : zcell g (w'.1 a) (w'.2.1 a) (w'.2.2.1 a) a H1) : zRep g w' H1 := by
  refine ⟨by rw [z, hn]; exact h.1, fun b hb => ?_, fun q hq => ?_⟩
  · by_cases e : b = a
    · subst e; exact hc
    · rw [hI b e, hL b e, hR b e]
      rw [hn] at hb
      exact zcell_kept (h.2.1 b hb) (oq _ (by omega))
  · rw [oq q (by omega)]
    exact h.2.2 q hq
/-- f, but x at k -/
def zup {α : Type} (f : Nat → α) (k : Nat) (x : α) : Nat → α := fun j => if j = k then x else f j
theorem zup_eq {α : Type} {f : Nat → α} {k : Nat} {x : α} : zup f k x k = x := if_pos rfl
theorem zup_ne {α : Type} {f : Nat → α} {k j : Nat} {x : α} (h : j ≠ k) : zup f k x j = f j := if_neg h
/-- what a state's tables say, wherever the law has come -/
def ztys (g : zG) : List (ClassId × FieldType) := [(zgA g 20, .int), (zgA g 21, .long), (zgA g 22, .byte), (zgA g 23, .short), (zgA g 24, .array .int), (zgA g 25, .object RX8)]
def zstv (j k : Nat) : Int32 := (zstL.getD j []).getD k 0
def zTT (g : zG) (U : State) : Prop :=
  (va_Z RX9 "LEAST" "[I" (.ref (zgS g 0)) (fun q => zgB g ≤ q) U (zgH g) ∧ va_Z RX9 "MOST" "[I" (.ref (zgS g 1)) (fun q => zgB g ≤ q) U (zgH g) ∧ va_Z RX0 "ABOVE" "[I" (.ref (zgS g 2)) (fun q => zgB g ≤ q) U (zgH g) ∧ va_Z RX0 "OWN" "[I" (.ref (zgS g 3)) (fun q => zgB g ≤ q) U (zgH g)) ∧
  (va_T .int (zgS g 0) 12 (fun k => .int (zstv 0 k)) (fun q => zgB g ≤ q) U (zgH g) ∧ va_T .int (zgS g 1) 12 (fun k => .int (zstv 1 k)) (fun q => zgB g ≤ q) U (zgH g) ∧ va_T .int (zgS g 2) 8 (fun k => .int (zstv 2 k)) (fun q => zgB g ≤ q) U (zgH g) ∧ va_T .int (zgS g 3) 32 (fun k => .int (zstv 3 k)) (fun q => zgB g ≤ q) U (zgH g)) ∧
  va_X (zgS g 4) (zgL g) (zgX g) U (zgH g) ∧ zgS g 4 < zgB g
theorem zTT_moved {g : zG} {u U : State} (hvm : u.vm.Alike U.vm) (h : zTT g u) : zTT g U := by
  obtain ⟨⟨a1, a2, a3, a4⟩, ⟨b1, b2, b3, b4⟩, c1, c2⟩ := h
  exact ⟨⟨a1.moved hvm, a2.moved hvm, a3.moved hvm, a4.moved hvm⟩, ⟨b1.moved hvm, b2.moved hvm, b3.moved hvm, b4.moved hvm⟩, c1.moved hvm, c2⟩
def zAOA (U : State) : Prop := (Cond.arrayOver (.array .int)).before #[] U = true
theorem zAOA_moved {u U : State} (hvm : u.vm.Alike U.vm) (h : zAOA u) : zAOA U := by
  obtain ⟨comp, c, k, h1, h2, h3, h4, h5⟩ := arrayOverA_spec h
  obtain ⟨k', hk', he⟩ := hvm.2.2 _ _ h3
  have hi : (U.vm.classes.findIdx? fun (x : Class) => match x.kind with | .array component _ => component == comp | _ => false) = some c := by
    rw [hvm.findIdx?_eq _ (fun _ => rfl)]
    exact h2
  have hkind : k'.kind = .array comp (.array .int) := by rw [he]; exact h4
  have f1 : U.vm.findClass (FieldType.array .int).toString = some comp := by rw [hvm.findClass]; exact h1
  have f2 : U.vm.findClass ("[" ++ (FieldType.array .int).toString) = some c := by rw [hvm.findClass]; exact h5
  unfold zAOA Cond.before Cond.holds
  simp only [Cond.value]
  rw [f1, Option.bind_some]
  refine (congrArg (fun o : Option Nat => (o.bind (fun c => (U.vm.classes[c]?).map fun (k : Class) => match k.kind with | .array _ ty => decide (ty = FieldType.array .int) && decide (U.vm.findClass ("[" ++ (FieldType.array .int).toString) = some c) | _ => false) == some true)) hi).trans ?_
  simp [hk', hkind, f2]
abbrev zNW : List (Nat × MethodName) := [(41, zmy m_X7_init), (48, zmy m_X10_init), (55, zmy m_X1_init), (62, zmy m_X5_init), (69, zmy m_X0_init), (80, zmy m_X8_init), (83, zmy m_X6_init)]
def zSt (g : zG) (U : State) : Prop := va_K (zgC g, zgI g) zcl (ztys g) U ∧ (∀ q ∈ zNW, va_Nw (.methodLinkNest RX11 q.1 q.2 RX11) U) ∧ va_AO RX8 U ∧ zAOA U ∧ zTT g U
theorem zSt_warm {g : zG} {s U : State} (hW : s.WarmedH U.vm) (h : zSt g s) : zSt g U :=
  ⟨h.1.moved hW.alike, fun q hq => va_Nw.warmM hW (h.2.1 q hq), h.2.2.1.moved hW.alike, zAOA_moved hW.alike h.2.2.2.1, zTT_moved hW.alike h.2.2.2.2⟩

