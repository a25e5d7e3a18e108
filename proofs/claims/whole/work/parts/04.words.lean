set_option maxRecDepth 20000 in
theorem jinX0 : ∀ w ∈ u_ws RX0 TX0 6, w ∈ jtbl := by
  show ∀ w ∈ (List.range 6).map (u_lay RX0 TX0), w ∈ jtbl
  rw [show (List.range 6).map (u_lay RX0 TX0) = [u_lay RX0 TX0 0, u_lay RX0 TX0 1, u_lay RX0 TX0 2, u_lay RX0 TX0 3, u_lay RX0 TX0 4, u_lay RX0 TX0 5] from rfl]
  exact List.forall_mem_cons.mpr ⟨jtb2 103 rfl rfl, List.forall_mem_cons.mpr ⟨jtb2 105 rfl rfl, List.forall_mem_cons.mpr ⟨jtb2 107 rfl rfl, List.forall_mem_cons.mpr ⟨jtb2 109 rfl rfl, List.forall_mem_cons.mpr ⟨jtb2 111 rfl rfl, List.forall_mem_cons.mpr ⟨jtb2 113 rfl rfl, fun _ h => absurd h List.not_mem_nil⟩⟩⟩⟩⟩⟩
set_option maxRecDepth 20000 in
theorem jinX1 : ∀ w ∈ u_ws RX1 TX1 5, w ∈ jtbl := by
  show ∀ w ∈ (List.range 5).map (u_lay RX1 TX1), w ∈ jtbl
  rw [show (List.range 5).map (u_lay RX1 TX1) = [u_lay RX1 TX1 0, u_lay RX1 TX1 1, u_lay RX1 TX1 2, u_lay RX1 TX1 3, u_lay RX1 TX1 4] from rfl]
  exact List.forall_mem_cons.mpr ⟨jtb1 236 rfl rfl, List.forall_mem_cons.mpr ⟨jtb1 238 rfl rfl, List.forall_mem_cons.mpr ⟨jtb2 0 rfl rfl, List.forall_mem_cons.mpr ⟨jtb2 2 rfl rfl, List.forall_mem_cons.mpr ⟨jtb2 4 rfl rfl, fun _ h => absurd h List.not_mem_nil⟩⟩⟩⟩⟩
set_option maxRecDepth 20000 in
theorem jinX2 : ∀ w ∈ u_ws RX2 TX2 5, w ∈ jtbl := by
  show ∀ w ∈ (List.range 5).map (u_lay RX2 TX2), w ∈ jtbl
  rw [show (List.range 5).map (u_lay RX2 TX2) = [u_lay RX2 TX2 0, u_lay RX2 TX2 1, u_lay RX2 TX2 2, u_lay RX2 TX2 3, u_lay RX2 TX2 4] from rfl]
  exact List.forall_mem_cons.mpr ⟨jtb2 79 rfl rfl, List.forall_mem_cons.mpr ⟨jtb2 81 rfl rfl, List.forall_mem_cons.mpr ⟨jtb2 83 rfl rfl, List.forall_mem_cons.mpr ⟨jtb2 85 rfl rfl, List.forall_mem_cons.mpr ⟨jtb2 87 rfl rfl, fun _ h => absurd h List.not_mem_nil⟩⟩⟩⟩⟩
set_option maxRecDepth 20000 in
theorem jinX3 : ∀ w ∈ u_ws RX3 TX3 3, w ∈ jtbl := by
  show ∀ w ∈ (List.range 3).map (u_lay RX3 TX3), w ∈ jtbl
  rw [show (List.range 3).map (u_lay RX3 TX3) = [u_lay RX3 TX3 0, u_lay RX3 TX3 1, u_lay RX3 TX3 2] from rfl]
  exact List.forall_mem_cons.mpr ⟨jtb2 18 rfl rfl, List.forall_mem_cons.mpr ⟨jtb2 20 rfl rfl, List.forall_mem_cons.mpr ⟨jtb2 22 rfl rfl, fun _ h => absurd h List.not_mem_nil⟩⟩⟩
set_option maxRecDepth 20000 in
theorem jinX4 : ∀ w ∈ u_ws RX4 TX4 12, w ∈ jtbl := by
  show ∀ w ∈ (List.range 12).map (u_lay RX4 TX4), w ∈ jtbl
  rw [show (List.range 12).map (u_lay RX4 TX4) = [u_lay RX4 TX4 0, u_lay RX4 TX4 1, u_lay RX4 TX4 2, u_lay RX4 TX4 3, u_lay RX4 TX4 4, u_lay RX4 TX4 5, u_lay RX4 TX4 6, u_lay RX4 TX4 7, u_lay RX4 TX4 8, u_lay RX4 TX4 9, u_lay RX4 TX4 10, u_lay RX4 TX4 11] from rfl]
  exact List.forall_mem_cons.mpr ⟨jtb1 66 rfl rfl, List.forall_mem_cons.mpr ⟨jtb1 68 rfl rfl, List.forall_mem_cons.mpr ⟨jtb1 70 rfl rfl, List.forall_mem_cons.mpr ⟨jtb1 72 rfl rfl, List.forall_mem_cons.mpr ⟨jtb1 74 rfl rfl, List.forall_mem_cons.mpr ⟨jtb1 76 rfl rfl, List.forall_mem_cons.mpr ⟨jtb1 78 rfl rfl, List.forall_mem_cons.mpr ⟨jtb1 80 rfl rfl, List.forall_mem_cons.mpr ⟨jtb1 82 rfl rfl, List.forall_mem_cons.mpr ⟨jtb1 84 rfl rfl, List.forall_mem_cons.mpr ⟨jtb1 86 rfl rfl, List.forall_mem_cons.mpr ⟨jtb1 88 rfl rfl, fun _ h => absurd h List.not_mem_nil⟩⟩⟩⟩⟩⟩⟩⟩⟩⟩⟩⟩
set_option maxRecDepth 20000 in
theorem jinX5 : ∀ w ∈ u_ws RX5 TX5 10, w ∈ jtbl := by
  show ∀ w ∈ (List.range 10).map (u_lay RX5 TX5), w ∈ jtbl
  rw [show (List.range 10).map (u_lay RX5 TX5) = [u_lay RX5 TX5 0, u_lay RX5 TX5 1, u_lay RX5 TX5 2, u_lay RX5 TX5 3, u_lay RX5 TX5 4, u_lay RX5 TX5 5, u_lay RX5 TX5 6, u_lay RX5 TX5 7, u_lay RX5 TX5 8, u_lay RX5 TX5 9] from rfl]
  exact List.forall_mem_cons.mpr ⟨jtb2 45 rfl rfl, List.forall_mem_cons.mpr ⟨jtb2 47 rfl rfl, List.forall_mem_cons.mpr ⟨jtb2 49 rfl rfl, List.forall_mem_cons.mpr ⟨jtb2 51 rfl rfl, List.forall_mem_cons.mpr ⟨jtb2 53 rfl rfl, List.forall_mem_cons.mpr ⟨jtb2 55 rfl rfl, List.forall_mem_cons.mpr ⟨jtb2 57 rfl rfl, List.forall_mem_cons.mpr ⟨jtb2 59 rfl rfl, List.forall_mem_cons.mpr ⟨jtb2 61 rfl rfl, List.forall_mem_cons.mpr ⟨jtb2 63 rfl rfl, fun _ h => absurd h List.not_mem_nil⟩⟩⟩⟩⟩⟩⟩⟩⟩⟩
set_option maxRecDepth 20000 in
theorem jinX6 : ∀ w ∈ u_ws RX6 TX6 16, w ∈ jtbl := by
  show ∀ w ∈ (List.range 16).map (u_lay RX6 TX6), w ∈ jtbl
  rw [show (List.range 16).map (u_lay RX6 TX6) = [u_lay RX6 TX6 0, u_lay RX6 TX6 1, u_lay RX6 TX6 2, u_lay RX6 TX6 3, u_lay RX6 TX6 4, u_lay RX6 TX6 5, u_lay RX6 TX6 6, u_lay RX6 TX6 7, u_lay RX6 TX6 8, u_lay RX6 TX6 9, u_lay RX6 TX6 10, u_lay RX6 TX6 11, u_lay RX6 TX6 12, u_lay RX6 TX6 13, u_lay RX6 TX6 14, u_lay RX6 TX6 15] from rfl]
  exact List.forall_mem_cons.mpr ⟨jtb1 123 rfl rfl, List.forall_mem_cons.mpr ⟨jtb1 125 rfl rfl, List.forall_mem_cons.mpr ⟨jtb1 127 rfl rfl, List.forall_mem_cons.mpr ⟨jtb1 129 rfl rfl, List.forall_mem_cons.mpr ⟨jtb1 131 rfl rfl, List.forall_mem_cons.mpr ⟨jtb1 133 rfl rfl, List.forall_mem_cons.mpr ⟨jtb1 135 rfl rfl, List.forall_mem_cons.mpr ⟨jtb1 137 rfl rfl, List.forall_mem_cons.mpr ⟨jtb1 139 rfl rfl, List.forall_mem_cons.mpr ⟨jtb1 141 rfl rfl, List.forall_mem_cons.mpr ⟨jtb1 143 rfl rfl, List.forall_mem_cons.mpr ⟨jtb1 145 rfl rfl, List.forall_mem_cons.mpr ⟨jtb1 147 rfl rfl, List.forall_mem_cons.mpr ⟨jtb1 149 rfl rfl, List.forall_mem_cons.mpr ⟨jtb1 151 rfl rfl, List.forall_mem_cons.mpr ⟨jtb1 153 rfl rfl, fun _ h => absurd h List.not_mem_nil⟩⟩⟩⟩⟩⟩⟩⟩⟩⟩⟩⟩⟩⟩⟩⟩
set_option maxRecDepth 20000 in
theorem jinX7 : ∀ w ∈ u_ws RX7 TX7 3, w ∈ jtbl := by
  show ∀ w ∈ (List.range 3).map (u_lay RX7 TX7), w ∈ jtbl
  rw [show (List.range 3).map (u_lay RX7 TX7) = [u_lay RX7 TX7 0, u_lay RX7 TX7 1, u_lay RX7 TX7 2] from rfl]
  exact List.forall_mem_cons.mpr ⟨jtb1 36 rfl rfl, List.forall_mem_cons.mpr ⟨jtb1 38 rfl rfl, List.forall_mem_cons.mpr ⟨jtb1 40 rfl rfl, fun _ h => absurd h List.not_mem_nil⟩⟩⟩
set_option maxRecDepth 20000 in
theorem jinX8 : ∀ w ∈ u_ws RX8 TX8 6, w ∈ jtbl := by
  show ∀ w ∈ (List.range 6).map (u_lay RX8 TX8), w ∈ jtbl
  rw [show (List.range 6).map (u_lay RX8 TX8) = [u_lay RX8 TX8 0, u_lay RX8 TX8 1, u_lay RX8 TX8 2, u_lay RX8 TX8 3, u_lay RX8 TX8 4, u_lay RX8 TX8 5] from rfl]
  exact List.forall_mem_cons.mpr ⟨jtb1 212 rfl rfl, List.forall_mem_cons.mpr ⟨jtb1 214 rfl rfl, List.forall_mem_cons.mpr ⟨jtb1 216 rfl rfl, List.forall_mem_cons.mpr ⟨jtb1 218 rfl rfl, List.forall_mem_cons.mpr ⟨jtb1 220 rfl rfl, List.forall_mem_cons.mpr ⟨jtb1 222 rfl rfl, fun _ h => absurd h List.not_mem_nil⟩⟩⟩⟩⟩⟩
set_option maxRecDepth 20000 in
theorem jinX9 : ∀ w ∈ u_ws RX9 TX9 4, w ∈ jtbl := by
  show ∀ w ∈ (List.range 4).map (u_lay RX9 TX9), w ∈ jtbl
  rw [show (List.range 4).map (u_lay RX9 TX9) = [u_lay RX9 TX9 0, u_lay RX9 TX9 1, u_lay RX9 TX9 2, u_lay RX9 TX9 3] from rfl]
  exact List.forall_mem_cons.mpr ⟨jtb1 195 rfl rfl, List.forall_mem_cons.mpr ⟨jtb1 197 rfl rfl, List.forall_mem_cons.mpr ⟨jtb1 199 rfl rfl, List.forall_mem_cons.mpr ⟨jtb1 201 rfl rfl, fun _ h => absurd h List.not_mem_nil⟩⟩⟩⟩
set_option maxRecDepth 20000 in
theorem jinX10 : ∀ w ∈ u_ws RX10 TX10 4, w ∈ jtbl := by
  show ∀ w ∈ (List.range 4).map (u_lay RX10 TX10), w ∈ jtbl
  rw [show (List.range 4).map (u_lay RX10 TX10) = [u_lay RX10 TX10 0, u_lay RX10 TX10 1, u_lay RX10 TX10 2, u_lay RX10 TX10 3] from rfl]
  exact List.forall_mem_cons.mpr ⟨jtb1 168 rfl rfl, List.forall_mem_cons.mpr ⟨jtb1 170 rfl rfl, List.forall_mem_cons.mpr ⟨jtb1 172 rfl rfl, List.forall_mem_cons.mpr ⟨jtb1 174 rfl rfl, fun _ h => absurd h List.not_mem_nil⟩⟩⟩⟩
set_option maxRecDepth 20000 in
theorem jinX11 : ∀ w ∈ u_ws RX11 TX11 14, w ∈ jtbl := by
  show ∀ w ∈ (List.range 14).map (u_lay RX11 TX11), w ∈ jtbl
  rw [show (List.range 14).map (u_lay RX11 TX11) = [u_lay RX11 TX11 0, u_lay RX11 TX11 1, u_lay RX11 TX11 2, u_lay RX11 TX11 3, u_lay RX11 TX11 4, u_lay RX11 TX11 5, u_lay RX11 TX11 6, u_lay RX11 TX11 7, u_lay RX11 TX11 8, u_lay RX11 TX11 9, u_lay RX11 TX11 10, u_lay RX11 TX11 11, u_lay RX11 TX11 12, u_lay RX11 TX11 13] from rfl]
  exact List.forall_mem_cons.mpr ⟨jtb2 130 rfl rfl, List.forall_mem_cons.mpr ⟨jtb2 132 rfl rfl, List.forall_mem_cons.mpr ⟨jtb2 134 rfl rfl, List.forall_mem_cons.mpr ⟨jtb2 136 rfl rfl, List.forall_mem_cons.mpr ⟨jtb2 138 rfl rfl, List.forall_mem_cons.mpr ⟨jtb2 140 rfl rfl, List.forall_mem_cons.mpr ⟨jtb2 142 rfl rfl, List.forall_mem_cons.mpr ⟨jtb2 144 rfl rfl, List.forall_mem_cons.mpr ⟨jtb2 146 rfl rfl, List.forall_mem_cons.mpr ⟨jtb2 148 rfl rfl, List.forall_mem_cons.mpr ⟨jtb2 150 rfl rfl, List.forall_mem_cons.mpr ⟨jtb2 152 rfl rfl, List.forall_mem_cons.mpr ⟨jtb2 154 rfl rfl, List.forall_mem_cons.mpr ⟨jtb2 156 rfl rfl, fun _ h => absurd h List.not_mem_nil⟩⟩⟩⟩⟩⟩⟩⟩⟩⟩⟩⟩⟩⟩
set_option maxRecDepth 20000 in
theorem jinX12 : ∀ w ∈ u_ws RX12 TX12 79, w ∈ jtbl := by
  show ∀ w ∈ (List.range 79).map (u_lay RX12 TX12), w ∈ jtbl
  rw [show (List.range 79).map (u_lay RX12 TX12) = [u_lay RX12 TX12 0, u_lay RX12 TX12 1, u_lay RX12 TX12 2, u_lay RX12 TX12 3, u_lay RX12 TX12 4, u_lay RX12 TX12 5, u_lay RX12 TX12 6, u_lay RX12 TX12 7, u_lay RX12 TX12 8, u_lay RX12 TX12 9, u_lay RX12 TX12 10, u_lay RX12 TX12 11, u_lay RX12 TX12 12, u_lay RX12 TX12 13, u_lay RX12 TX12 14, u_lay RX12 TX12 15, u_lay RX12 TX12 16, u_lay RX12 TX12 17, u_lay RX12 TX12 18, u_lay RX12 TX12 19, u_lay RX12 TX12 20, u_lay RX12 TX12 21, u_lay RX12 TX12 22, u_lay RX12 TX12 23, u_lay RX12 TX12 24, u_lay RX12 TX12 25, u_lay RX12 TX12 26, u_lay RX12 TX12 27, u_lay RX12 TX12 28, u_lay RX12 TX12 29, u_lay RX12 TX12 30, u_lay RX12 TX12 31, u_lay RX12 TX12 32, u_lay RX12 TX12 33, u_lay RX12 TX12 34, u_lay RX12 TX12 35, u_lay RX12 TX12 36, u_lay RX12 TX12 37, u_lay RX12 TX12 38, u_lay RX12 TX12 39, u_lay RX12 TX12 40, u_lay RX12 TX12 41, u_lay RX12 TX12 42, u_lay RX12 TX12 43, u_lay RX12 TX12 44, u_lay RX12 TX12 45, u_lay RX12 TX12 46, u_lay RX12 TX12 47, u_lay RX12 TX12 48, u_lay RX12 TX12 49, u_lay RX12 TX12 50, u_lay RX12 TX12 51, u_lay RX12 TX12 52, u_lay RX12 TX12 53, u_lay RX12 TX12 54, u_lay RX12 TX12 55, u_lay RX12 TX12 56, u_lay RX12 TX12 57, u_lay RX12 TX12 58, u_lay RX12 TX12 59, u_lay RX12 TX12 60, u_lay RX12 TX12 61, u_lay RX12 TX12 62, u_lay RX12 TX12 63, u_lay RX12 TX12 64, u_lay RX12 TX12 65, u_lay RX12 TX12 66, u_lay RX12 TX12 67, u_lay RX12 TX12 68, u_lay RX12 TX12 69, u_lay RX12 TX12 70, u_lay RX12 TX12 71, u_lay RX12 TX12 72, u_lay RX12 TX12 73, u_lay RX12 TX12 74, u_lay RX12 TX12 75, u_lay RX12 TX12 76, u_lay RX12 TX12 77, u_lay RX12 TX12 78] from rfl]
  exact List.forall_mem_cons.mpr ⟨jtb6 34 rfl rfl, List.forall_mem_cons.mpr ⟨jtb6 36 rfl rfl, List.forall_mem_cons.mpr ⟨jtb6 38 rfl rfl, List.forall_mem_cons.mpr ⟨jtb6 40 rfl rfl, List.forall_mem_cons.mpr ⟨jtb6 42 rfl rfl, List.forall_mem_cons.mpr ⟨jtb6 44 rfl rfl, List.forall_mem_cons.mpr ⟨jtb6 46 rfl rfl, List.forall_mem_cons.mpr ⟨jtb6 48 rfl rfl, List.forall_mem_cons.mpr ⟨jtb6 50 rfl rfl, List.forall_mem_cons.mpr ⟨jtb6 52 rfl rfl, List.forall_mem_cons.mpr ⟨jtb6 54 rfl rfl, List.forall_mem_cons.mpr ⟨jtb6 56 rfl rfl, List.forall_mem_cons.mpr ⟨jtb6 58 rfl rfl, List.forall_mem_cons.mpr ⟨jtb6 60 rfl rfl, List.forall_mem_cons.mpr ⟨jtb6 62 rfl rfl, List.forall_mem_cons.mpr ⟨jtb6 64 rfl rfl, List.forall_mem_cons.mpr ⟨jtb6 66 rfl rfl, List.forall_mem_cons.mpr ⟨jtb6 68 rfl rfl, List.forall_mem_cons.mpr ⟨jtb6 70 rfl rfl, List.forall_mem_cons.mpr ⟨jtb6 72 rfl rfl, List.forall_mem_cons.mpr ⟨jtb6 74 rfl rfl, List.forall_mem_cons.mpr ⟨jtb6 76 rfl rfl, List.forall_mem_cons.mpr ⟨jtb6 78 rfl rfl, List.forall_mem_cons.mpr ⟨jtb6 80 rfl rfl, List.forall_mem_cons.mpr ⟨jtb6 82 rfl rfl, List.forall_mem_cons.mpr ⟨jtb6 84 rfl rfl, List.forall_mem_cons.mpr ⟨jtb6 86 rfl rfl, List.forall_mem_cons.mpr ⟨jtb6 88 rfl rfl, List.forall_mem_cons.mpr ⟨jtb6 90 rfl rfl, List.forall_mem_cons.mpr ⟨jtb6 92 rfl rfl, List.forall_mem_cons.mpr ⟨jtb6 94 rfl rfl, List.forall_mem_cons.mpr ⟨jtb6 96 rfl rfl, List.forall_mem_cons.mpr ⟨jtb6 98 rfl rfl, List.forall_mem_cons.mpr ⟨jtb6 100 rfl rfl, List.forall_mem_cons.mpr ⟨jtb6 102 rfl rfl, List.forall_mem_cons.mpr ⟨jtb6 104 rfl rfl, List.forall_mem_cons.mpr ⟨jtb6 106 rfl rfl, List.forall_mem_cons.mpr ⟨jtb6 108 rfl rfl, List.forall_mem_cons.mpr ⟨jtb6 110 rfl rfl, List.forall_mem_cons.mpr ⟨jtb6 112 rfl rfl, List.forall_mem_cons.mpr ⟨jtb6 114 rfl rfl, List.forall_mem_cons.mpr ⟨jtb6 116 rfl rfl, List.forall_mem_cons.mpr ⟨jtb6 118 rfl rfl, List.forall_mem_cons.mpr ⟨jtb6 120 rfl rfl, List.forall_mem_cons.mpr ⟨jtb6 122 rfl rfl, List.forall_mem_cons.mpr ⟨jtb6 124 rfl rfl, List.forall_mem_cons.mpr ⟨jtb6 126 rfl rfl, List.forall_mem_cons.mpr ⟨jtb6 128 rfl rfl, List.forall_mem_cons.mpr ⟨jtb6 130 rfl rfl, List.forall_mem_cons.mpr ⟨jtb6 132 rfl rfl, List.forall_mem_cons.mpr ⟨jtb6 134 rfl rfl, List.forall_mem_cons.mpr ⟨jtb6 136 rfl rfl, List.forall_mem_cons.mpr ⟨jtb6 138 rfl rfl, List.forall_mem_cons.mpr ⟨jtb6 140 rfl rfl, List.forall_mem_cons.mpr ⟨jtb6 142 rfl rfl, List.forall_mem_cons.mpr ⟨jtb6 144 rfl rfl, List.forall_mem_cons.mpr ⟨jtb6 146 rfl rfl, List.forall_mem_cons.mpr ⟨jtb6 148 rfl rfl, List.forall_mem_cons.mpr ⟨jtb6 150 rfl rfl, List.forall_mem_cons.mpr ⟨jtb6 152 rfl rfl, List.forall_mem_cons.mpr ⟨jtb6 154 rfl rfl, List.forall_mem_cons.mpr ⟨jtb6 156 rfl rfl, List.forall_mem_cons.mpr ⟨jtb6 158 rfl rfl, List.forall_mem_cons.mpr ⟨jtb6 160 rfl rfl, List.forall_mem_cons.mpr ⟨jtb6 162 rfl rfl, List.forall_mem_cons.mpr ⟨jtb6 164 rfl rfl, List.forall_mem_cons.mpr ⟨jtb6 166 rfl rfl, List.forall_mem_cons.mpr ⟨jtb6 168 rfl rfl, List.forall_mem_cons.mpr ⟨jtb6 170 rfl rfl, List.forall_mem_cons.mpr ⟨jtb6 172 rfl rfl, List.forall_mem_cons.mpr ⟨jtb6 174 rfl rfl, List.forall_mem_cons.mpr ⟨jtb6 176 rfl rfl, List.forall_mem_cons.mpr ⟨jtb6 178 rfl rfl, List.forall_mem_cons.mpr ⟨jtb6 180 rfl rfl, List.forall_mem_cons.mpr ⟨jtb6 182 rfl rfl, List.forall_mem_cons.mpr ⟨jtb6 184 rfl rfl, List.forall_mem_cons.mpr ⟨jtb6 186 rfl rfl, List.forall_mem_cons.mpr ⟨jtb6 188 rfl rfl, List.forall_mem_cons.mpr ⟨jtb6 190 rfl rfl, fun _ h => absurd h List.not_mem_nil⟩⟩⟩⟩⟩⟩⟩⟩⟩⟩⟩⟩⟩⟩⟩⟩⟩⟩⟩⟩⟩⟩⟩⟩⟩⟩⟩⟩⟩⟩⟩⟩⟩⟩⟩⟩⟩⟩⟩⟩⟩⟩⟩⟩⟩⟩⟩⟩⟩⟩⟩⟩⟩⟩⟩⟩⟩⟩⟩⟩⟩⟩⟩⟩⟩⟩⟩⟩⟩⟩⟩⟩⟩⟩⟩⟩⟩⟩⟩
/-- a class of ours: its words, its types, its names apart -/
def jcok (ci : Nat) (q : vw_C) : Prop := (∀ w ∈ u_ws q.1 q.2.1 q.2.2, w ∈ jtbl) ∧ (∀ k, k < q.2.2 → parseFieldDescriptor (q.2.1 k).2.2.1 = some (jty ci k)) ∧ (∀ a, a < q.2.2 → ∀ b, b < q.2.2 → a ≠ b → (q.2.1 a).2.1 ≠ (q.2.1 b).2.1) ∧ q.2.2 = jnf ci ∧ ci < 13
theorem jcls (ci : Nat) (q : vw_C) (h : vwCl[ci]? = some q) : jcok ci q := by
  match ci, h with
  | 0, h => cases h; exact ⟨jinX0, tyX0_ok, nmX0, rfl, by decide⟩
  | 1, h => cases h; exact ⟨jinX1, tyX1_ok, nmX1, rfl, by decide⟩
  | 2, h => cases h; exact ⟨jinX2, tyX2_ok, nmX2, rfl, by decide⟩
  | 3, h => cases h; exact ⟨jinX3, tyX3_ok, nmX3, rfl, by decide⟩
  | 4, h => cases h; exact ⟨jinX4, tyX4_ok, nmX4, rfl, by decide⟩
  | 5, h => cases h; exact ⟨jinX5, tyX5_ok, nmX5, rfl, by decide⟩
  | 6, h => cases h; exact ⟨jinX6, tyX6_ok, nmX6, rfl, by decide⟩
  | 7, h => cases h; exact ⟨jinX7, tyX7_ok, nmX7, rfl, by decide⟩
  | 8, h => cases h; exact ⟨jinX8, tyX8_ok, nmX8, rfl, by decide⟩
  | 9, h => cases h; exact ⟨jinX9, tyX9_ok, nmX9, rfl, by decide⟩
  | 10, h => cases h; exact ⟨jinX10, tyX10_ok, nmX10, rfl, by decide⟩
  | 11, h => cases h; exact ⟨jinX11, tyX11_ok, nmX11, rfl, by decide⟩
  | 12, h => cases h; exact ⟨jinX12, tyX12_ok, nmX12, rfl, by decide⟩
  | k + 13, h => simp [vwCl] at h
def jfl (own : String) (i ci k : Nat) : Prop := ∃ q : vw_C, vwCl[ci]? = some q ∧ k < q.2.2 ∧ (q.2.1 k).1 = q.1 ∧ ((Cond.fieldLink own i q.1 (q.2.1 k).2.1 (q.2.1 k).2.2.1) ∈ jtbl ∨ ∃ host, Cond.fieldLinkNest own i q.1 (q.2.1 k).2.1 (q.2.1 k).2.2.1 host ∈ jnest)
/-- a method of ours, as a callee with so many arguments (without the receiver) -/
def jcal (n k : Nat) : Prop := plainName (jmY n).cls = true ∧ ((jmY n).cls ≠ "java/lang/invoke/MethodHandle" ∧ (jmY n).cls ≠ "java/lang/invoke/VarHandle" ∧ (parseMethodDescriptor (jmY n).desc).map (fun d => d.parameters.length) = some k) ∧ Cond.code (jmY n) (jmB n) (jmX n) (jmR n) ∈ jtbl ∧ Cond.initialized (jmY n).cls ∈ jtbl ∧ jmX n ≤ 45
def jcalV (n k : Nat) : Prop := jcal n k ∧ Cond.instanceMethod (jmY n) ∈ jtbl ∧ Cond.selects (jmY n).cls (jmY n) (jmY n) ∈ jtbl
def jcalS (n k : Nat) : Prop := jcal n k ∧ Cond.static (jmY n) ∈ jtbl
def jcalI (n k : Nat) : Prop := jcal n k ∧ Cond.instanceMethod (jmY n) ∈ jtbl ∧ (jmY n).name = "<init>"
def jml (own : String) (i n : Nat) : Prop := Cond.methodLink own i (jmY n) ∈ jtbl
def jmlN (own : String) (i n : Nat) : Prop := ∃ host, Cond.methodLinkNest own i (jmY n) host ∈ jnest
set_option maxRecDepth 100000 in
theorem jc_0 : jcalI 0 0 := ⟨⟨by decide +kernel, ⟨by decide +kernel, by decide +kernel, by decide +kernel⟩, jtb2 94 rfl rfl, jtb1 12 rfl rfl, by decide +kernel⟩, jtb2 93 rfl rfl, rfl⟩
set_option maxRecDepth 100000 in
theorem jc_1 : jcalV 1 2 := ⟨⟨by decide +kernel, ⟨by decide +kernel, by decide +kernel, by decide +kernel⟩, jtb5 95 rfl rfl, jtb1 12 rfl rfl, by decide +kernel⟩, jtb5 93 rfl rfl, jtb5 94 rfl rfl⟩
set_option maxRecDepth 100000 in
theorem jc_2 : jcalV 2 3 := ⟨⟨by decide +kernel, ⟨by decide +kernel, by decide +kernel, by decide +kernel⟩, jtb5 100 rfl rfl, jtb1 12 rfl rfl, by decide +kernel⟩, jtb5 98 rfl rfl, jtb5 99 rfl rfl⟩
set_option maxRecDepth 100000 in
theorem jc_3 : jcalV 3 0 := ⟨⟨by decide +kernel, ⟨by decide +kernel, by decide +kernel, by decide +kernel⟩, jtb5 153 rfl rfl, jtb1 12 rfl rfl, by decide +kernel⟩, jtb5 151 rfl rfl, jtb5 152 rfl rfl⟩
set_option maxRecDepth 100000 in
theorem jc_4 : jcalV 4 0 := ⟨⟨by decide +kernel, ⟨by decide +kernel, by decide +kernel, by decide +kernel⟩, jtb5 157 rfl rfl, jtb1 12 rfl rfl, by decide +kernel⟩, jtb5 155 rfl rfl, jtb5 156 rfl rfl⟩
set_option maxRecDepth 100000 in
theorem jc_5 : jcalV 5 1 := ⟨⟨by decide +kernel, ⟨by decide +kernel, by decide +kernel, by decide +kernel⟩, jtb5 165 rfl rfl, jtb1 12 rfl rfl, by decide +kernel⟩, jtb5 163 rfl rfl, jtb5 164 rfl rfl⟩
set_option maxRecDepth 100000 in
theorem jc_6 : jcalS 6 1 := ⟨⟨by decide +kernel, ⟨by decide +kernel, by decide +kernel, by decide +kernel⟩, jtb5 138 rfl rfl, jtb1 12 rfl rfl, by decide +kernel⟩, jtb5 137 rfl rfl⟩
set_option maxRecDepth 100000 in
theorem jc_7 : jcalV 7 0 := ⟨⟨by decide +kernel, ⟨by decide +kernel, by decide +kernel, by decide +kernel⟩, jtb5 104 rfl rfl, jtb1 12 rfl rfl, by decide +kernel⟩, jtb5 102 rfl rfl, jtb5 103 rfl rfl⟩
set_option maxRecDepth 100000 in
theorem jc_8 : jcalV 8 1 := ⟨⟨by decide +kernel, ⟨by decide +kernel, by decide +kernel, by decide +kernel⟩, jtb5 108 rfl rfl, jtb1 12 rfl rfl, by decide +kernel⟩, jtb5 107 rfl rfl, jtp 49 rfl rfl⟩
set_option maxRecDepth 100000 in
theorem jc_9 : jcalV 9 2 := ⟨⟨by decide +kernel, ⟨by decide +kernel, by decide +kernel, by decide +kernel⟩, jtb5 118 rfl rfl, jtb1 12 rfl rfl, by decide +kernel⟩, jtb5 117 rfl rfl, jtp 50 rfl rfl⟩
set_option maxRecDepth 100000 in
theorem jc_10 : jcalV 10 2 := ⟨⟨by decide +kernel, ⟨by decide +kernel, by decide +kernel, by decide +kernel⟩, jtb5 123 rfl rfl, jtb1 12 rfl rfl, by decide +kernel⟩, jtb5 122 rfl rfl, jtp 51 rfl rfl⟩
set_option maxRecDepth 100000 in
theorem jc_11 : jcalV 11 0 := ⟨⟨by decide +kernel, ⟨by decide +kernel, by decide +kernel, by decide +kernel⟩, jtb5 127 rfl rfl, jtb1 12 rfl rfl, by decide +kernel⟩, jtb5 126 rfl rfl, jtp 52 rfl rfl⟩
set_option maxRecDepth 100000 in
theorem jc_12 : jcalV 12 3 := ⟨⟨by decide +kernel, ⟨by decide +kernel, by decide +kernel, by decide +kernel⟩, jtb5 131 rfl rfl, jtb1 12 rfl rfl, by decide +kernel⟩, jtb5 130 rfl rfl, jtp 53 rfl rfl⟩
set_option maxRecDepth 100000 in
theorem jc_13 : jcalV 13 2 := ⟨⟨by decide +kernel, ⟨by decide +kernel, by decide +kernel, by decide +kernel⟩, jtb5 135 rfl rfl, jtb1 12 rfl rfl, by decide +kernel⟩, jtb5 134 rfl rfl, jtp 54 rfl rfl⟩
set_option maxRecDepth 100000 in
theorem jc_14 : jcalV 14 0 := ⟨⟨by decide +kernel, ⟨by decide +kernel, by decide +kernel, by decide +kernel⟩, jtb5 142 rfl rfl, jtb1 12 rfl rfl, by decide +kernel⟩, jtb5 141 rfl rfl, jtp 55 rfl rfl⟩
set_option maxRecDepth 100000 in
theorem jc_15 : jcalV 15 0 := ⟨⟨by decide +kernel, ⟨by decide +kernel, by decide +kernel, by decide +kernel⟩, jtb5 146 rfl rfl, jtb1 12 rfl rfl, by decide +kernel⟩, jtb5 145 rfl rfl, jtp 56 rfl rfl⟩
set_option maxRecDepth 100000 in
theorem jc_16 : jcalI 16 0 := ⟨⟨by decide +kernel, ⟨by decide +kernel, by decide +kernel, by decide +kernel⟩, jtb1 229 rfl rfl, jtb1 8 rfl rfl, by decide +kernel⟩, jtb1 228 rfl rfl, rfl⟩
set_option maxRecDepth 100000 in
theorem jc_17 : jcalV 17 3 := ⟨⟨by decide +kernel, ⟨by decide +kernel, by decide +kernel, by decide +kernel⟩, jtb4 137 rfl rfl, jtb1 8 rfl rfl, by decide +kernel⟩, jtb4 135 rfl rfl, jtb4 136 rfl rfl⟩
set_option maxRecDepth 100000 in
theorem jc_18 : jcalV 18 1 := ⟨⟨by decide +kernel, ⟨by decide +kernel, by decide +kernel, by decide +kernel⟩, jtb4 143 rfl rfl, jtb1 8 rfl rfl, by decide +kernel⟩, jtb4 142 rfl rfl, jtp 31 rfl rfl⟩
set_option maxRecDepth 100000 in
theorem jc_19 : jcalV 19 3 := ⟨⟨by decide +kernel, ⟨by decide +kernel, by decide +kernel, by decide +kernel⟩, jtb4 147 rfl rfl, jtb1 8 rfl rfl, by decide +kernel⟩, jtb4 146 rfl rfl, jtp 32 rfl rfl⟩
set_option maxRecDepth 100000 in
theorem jc_20 : jcalS 20 3 := ⟨⟨by decide +kernel, ⟨by decide +kernel, by decide +kernel, by decide +kernel⟩, jtb4 151 rfl rfl, jtb1 8 rfl rfl, by decide +kernel⟩, jtb4 150 rfl rfl⟩
set_option maxRecDepth 100000 in
theorem jc_21 : jcalV 21 3 := ⟨⟨by decide +kernel, ⟨by decide +kernel, by decide +kernel, by decide +kernel⟩, jtb5 2 rfl rfl, jtb1 8 rfl rfl, by decide +kernel⟩, jtb5 0 rfl rfl, jtb5 1 rfl rfl⟩
set_option maxRecDepth 100000 in
theorem jc_22 : jcalV 22 2 := ⟨⟨by decide +kernel, ⟨by decide +kernel, by decide +kernel, by decide +kernel⟩, jtb5 6 rfl rfl, jtb1 8 rfl rfl, by decide +kernel⟩, jtb5 5 rfl rfl, jtp 41 rfl rfl⟩
set_option maxRecDepth 100000 in
theorem jc_23 : jcalV 23 3 := ⟨⟨by decide +kernel, ⟨by decide +kernel, by decide +kernel, by decide +kernel⟩, jtb5 12 rfl rfl, jtb1 8 rfl rfl, by decide +kernel⟩, jtb5 10 rfl rfl, jtb5 11 rfl rfl⟩
set_option maxRecDepth 100000 in
theorem jc_24 : jcalV 24 2 := ⟨⟨by decide +kernel, ⟨by decide +kernel, by decide +kernel, by decide +kernel⟩, jtb5 21 rfl rfl, jtb1 8 rfl rfl, by decide +kernel⟩, jtb5 20 rfl rfl, jtp 43 rfl rfl⟩
set_option maxRecDepth 100000 in
theorem jc_25 : jcalV 25 2 := ⟨⟨by decide +kernel, ⟨by decide +kernel, by decide +kernel, by decide +kernel⟩, jtb5 16 rfl rfl, jtb1 8 rfl rfl, by decide +kernel⟩, jtb5 15 rfl rfl, jtp 42 rfl rfl⟩
set_option maxRecDepth 100000 in
theorem jc_26 : jcalI 26 1 := ⟨⟨by decide +kernel, ⟨by decide +kernel, by decide +kernel, by decide +kernel⟩, jtb2 70 rfl rfl, jtb1 11 rfl rfl, by decide +kernel⟩, jtb2 69 rfl rfl, rfl⟩
set_option maxRecDepth 100000 in
theorem jc_27 : jcalS 27 2 := ⟨⟨by decide +kernel, ⟨by decide +kernel, by decide +kernel, by decide +kernel⟩, jtb5 28 rfl rfl, jtb1 11 rfl rfl, by decide +kernel⟩, jtb5 27 rfl rfl⟩
set_option maxRecDepth 100000 in
theorem jc_28 : jcalV 28 4 := ⟨⟨by decide +kernel, ⟨by decide +kernel, by decide +kernel, by decide +kernel⟩, jtb5 32 rfl rfl, jtb1 11 rfl rfl, by decide +kernel⟩, jtb5 30 rfl rfl, jtb5 31 rfl rfl⟩
set_option maxRecDepth 100000 in
theorem jc_29 : jcalV 29 2 := ⟨⟨by decide +kernel, ⟨by decide +kernel, by decide +kernel, by decide +kernel⟩, jtb5 38 rfl rfl, jtb1 11 rfl rfl, by decide +kernel⟩, jtb5 37 rfl rfl, jtp 44 rfl rfl⟩
set_option maxRecDepth 100000 in
theorem jc_30 : jcalV 30 2 := ⟨⟨by decide +kernel, ⟨by decide +kernel, by decide +kernel, by decide +kernel⟩, jtb5 54 rfl rfl, jtb1 11 rfl rfl, by decide +kernel⟩, jtb5 52 rfl rfl, jtb5 53 rfl rfl⟩
set_option maxRecDepth 100000 in
theorem jc_31 : jcalV 31 3 := ⟨⟨by decide +kernel, ⟨by decide +kernel, by decide +kernel, by decide +kernel⟩, jtb5 44 rfl rfl, jtb1 11 rfl rfl, by decide +kernel⟩, jtb5 42 rfl rfl, jtb5 43 rfl rfl⟩
set_option maxRecDepth 100000 in
theorem jc_32 : jcalV 32 1 := ⟨⟨by decide +kernel, ⟨by decide +kernel, by decide +kernel, by decide +kernel⟩, jtb5 50 rfl rfl, jtb1 11 rfl rfl, by decide +kernel⟩, jtb5 49 rfl rfl, jtp 45 rfl rfl⟩
set_option maxRecDepth 100000 in
theorem jc_33 : jcalI 33 0 := ⟨⟨by decide +kernel, ⟨by decide +kernel, by decide +kernel, by decide +kernel⟩, jtb2 11 rfl rfl, jtb1 9 rfl rfl, by decide +kernel⟩, jtb2 10 rfl rfl, rfl⟩
set_option maxRecDepth 100000 in
theorem jc_34 : jcalV 34 1 := ⟨⟨by decide +kernel, ⟨by decide +kernel, by decide +kernel, by decide +kernel⟩, jtb4 171 rfl rfl, jtb1 9 rfl rfl, by decide +kernel⟩, jtb4 169 rfl rfl, jtb4 170 rfl rfl⟩
set_option maxRecDepth 100000 in
theorem jc_35 : jcalV 35 4 := ⟨⟨by decide +kernel, ⟨by decide +kernel, by decide +kernel, by decide +kernel⟩, jtb4 175 rfl rfl, jtb1 9 rfl rfl, by decide +kernel⟩, jtb4 174 rfl rfl, jtp 35 rfl rfl⟩
set_option maxRecDepth 100000 in
theorem jc_36 : jcalS 36 2 := ⟨⟨by decide +kernel, ⟨by decide +kernel, by decide +kernel, by decide +kernel⟩, jtb4 178 rfl rfl, jtb1 9 rfl rfl, by decide +kernel⟩, jtb4 177 rfl rfl⟩
set_option maxRecDepth 100000 in
theorem jc_37 : jcalV 37 2 := ⟨⟨by decide +kernel, ⟨by decide +kernel, by decide +kernel, by decide +kernel⟩, jtb4 214 rfl rfl, jtb1 9 rfl rfl, by decide +kernel⟩, jtb4 212 rfl rfl, jtb4 213 rfl rfl⟩
set_option maxRecDepth 100000 in
theorem jc_38 : jcalV 38 2 := ⟨⟨by decide +kernel, ⟨by decide +kernel, by decide +kernel, by decide +kernel⟩, jtb4 202 rfl rfl, jtb1 9 rfl rfl, by decide +kernel⟩, jtb4 200 rfl rfl, jtb4 201 rfl rfl⟩
set_option maxRecDepth 100000 in
theorem jc_39 : jcalI 39 0 := ⟨⟨by decide +kernel, ⟨by decide +kernel, by decide +kernel, by decide +kernel⟩, jtb1 49 rfl rfl, jtb1 3 rfl rfl, by decide +kernel⟩, jtb1 48 rfl rfl, rfl⟩
set_option maxRecDepth 100000 in
theorem jc_40 : jcalV 40 1 := ⟨⟨by decide +kernel, ⟨by decide +kernel, by decide +kernel, by decide +kernel⟩, jtb3 21 rfl rfl, jtb1 3 rfl rfl, by decide +kernel⟩, jtb3 19 rfl rfl, jtb3 20 rfl rfl⟩
set_option maxRecDepth 100000 in
theorem jc_41 : jcalV 41 1 := ⟨⟨by decide +kernel, ⟨by decide +kernel, by decide +kernel, by decide +kernel⟩, jtb3 25 rfl rfl, jtb1 3 rfl rfl, by decide +kernel⟩, jtb3 23 rfl rfl, jtb3 24 rfl rfl⟩
set_option maxRecDepth 100000 in
theorem jc_42 : jcalV 42 2 := ⟨⟨by decide +kernel, ⟨by decide +kernel, by decide +kernel, by decide +kernel⟩, jtb3 33 rfl rfl, jtb1 3 rfl rfl, by decide +kernel⟩, jtb3 31 rfl rfl, jtb3 32 rfl rfl⟩
set_option maxRecDepth 100000 in
theorem jc_43 : jcalV 43 1 := ⟨⟨by decide +kernel, ⟨by decide +kernel, by decide +kernel, by decide +kernel⟩, jtb3 100 rfl rfl, jtb1 3 rfl rfl, by decide +kernel⟩, jtb3 99 rfl rfl, jtp 12 rfl rfl⟩
set_option maxRecDepth 100000 in
theorem jc_44 : jcalV 44 0 := ⟨⟨by decide +kernel, ⟨by decide +kernel, by decide +kernel, by decide +kernel⟩, jtb3 71 rfl rfl, jtb1 3 rfl rfl, by decide +kernel⟩, jtb3 70 rfl rfl, jtp 7 rfl rfl⟩
set_option maxRecDepth 100000 in
theorem jc_45 : jcalV 45 0 := ⟨⟨by decide +kernel, ⟨by decide +kernel, by decide +kernel, by decide +kernel⟩, jtb3 80 rfl rfl, jtb1 3 rfl rfl, by decide +kernel⟩, jtb3 79 rfl rfl, jtp 9 rfl rfl⟩
set_option maxRecDepth 100000 in
theorem jc_46 : jcalV 46 0 := ⟨⟨by decide +kernel, ⟨by decide +kernel, by decide +kernel, by decide +kernel⟩, jtb3 93 rfl rfl, jtb1 3 rfl rfl, by decide +kernel⟩, jtb3 92 rfl rfl, jtp 11 rfl rfl⟩
set_option maxRecDepth 100000 in
theorem jc_47 : jcalV 47 0 := ⟨⟨by decide +kernel, ⟨by decide +kernel, by decide +kernel, by decide +kernel⟩, jtb3 124 rfl rfl, jtb1 3 rfl rfl, by decide +kernel⟩, jtb3 123 rfl rfl, jtp 14 rfl rfl⟩
set_option maxRecDepth 100000 in
theorem jc_48 : jcalV 48 1 := ⟨⟨by decide +kernel, ⟨by decide +kernel, by decide +kernel, by decide +kernel⟩, jtb3 132 rfl rfl, jtb1 3 rfl rfl, by decide +kernel⟩, jtb3 131 rfl rfl, jtp 15 rfl rfl⟩
set_option maxRecDepth 100000 in
theorem jc_49 : jcalV 49 0 := ⟨⟨by decide +kernel, ⟨by decide +kernel, by decide +kernel, by decide +kernel⟩, jtb3 153 rfl rfl, jtb1 3 rfl rfl, by decide +kernel⟩, jtb3 152 rfl rfl, jtp 17 rfl rfl⟩
set_option maxRecDepth 100000 in
theorem jc_50 : jcalV 50 0 := ⟨⟨by decide +kernel, ⟨by decide +kernel, by decide +kernel, by decide +kernel⟩, jtb3 157 rfl rfl, jtb1 3 rfl rfl, by decide +kernel⟩, jtb3 156 rfl rfl, jtp 18 rfl rfl⟩
set_option maxRecDepth 100000 in
theorem jc_51 : jcalV 51 0 := ⟨⟨by decide +kernel, ⟨by decide +kernel, by decide +kernel, by decide +kernel⟩, jtb3 165 rfl rfl, jtb1 3 rfl rfl, by decide +kernel⟩, jtb3 164 rfl rfl, jtp 20 rfl rfl⟩
set_option maxRecDepth 100000 in
theorem jc_52 : jcalV 52 3 := ⟨⟨by decide +kernel, ⟨by decide +kernel, by decide +kernel, by decide +kernel⟩, jtb3 161 rfl rfl, jtb1 3 rfl rfl, by decide +kernel⟩, jtb3 160 rfl rfl, jtp 19 rfl rfl⟩
set_option maxRecDepth 100000 in
theorem jc_53 : jcalV 53 2 := ⟨⟨by decide +kernel, ⟨by decide +kernel, by decide +kernel, by decide +kernel⟩, jtb3 112 rfl rfl, jtb1 3 rfl rfl, by decide +kernel⟩, jtb3 111 rfl rfl, jtp 13 rfl rfl⟩
set_option maxRecDepth 100000 in
theorem jc_54 : jcalV 54 0 := ⟨⟨by decide +kernel, ⟨by decide +kernel, by decide +kernel, by decide +kernel⟩, jtb3 169 rfl rfl, jtb1 3 rfl rfl, by decide +kernel⟩, jtb3 168 rfl rfl, jtp 21 rfl rfl⟩
set_option maxRecDepth 100000 in
theorem jc_55 : jcalV 55 1 := ⟨⟨by decide +kernel, ⟨by decide +kernel, by decide +kernel, by decide +kernel⟩, jtb3 76 rfl rfl, jtb1 3 rfl rfl, by decide +kernel⟩, jtb3 75 rfl rfl, jtp 8 rfl rfl⟩
set_option maxRecDepth 100000 in
theorem jc_56 : jcalV 56 0 := ⟨⟨by decide +kernel, ⟨by decide +kernel, by decide +kernel, by decide +kernel⟩, jtb3 84 rfl rfl, jtb1 3 rfl rfl, by decide +kernel⟩, jtb3 83 rfl rfl, jtp 10 rfl rfl⟩
set_option maxRecDepth 100000 in
theorem jc_57 : jcalV 57 0 := ⟨⟨by decide +kernel, ⟨by decide +kernel, by decide +kernel, by decide +kernel⟩, jtb3 44 rfl rfl, jtb1 3 rfl rfl, by decide +kernel⟩, jtb3 43 rfl rfl, jtp 3 rfl rfl⟩
set_option maxRecDepth 100000 in
theorem jc_58 : jcalV 58 0 := ⟨⟨by decide +kernel, ⟨by decide +kernel, by decide +kernel, by decide +kernel⟩, jtb3 58 rfl rfl, jtb1 3 rfl rfl, by decide +kernel⟩, jtb3 57 rfl rfl, jtp 5 rfl rfl⟩
set_option maxRecDepth 100000 in
theorem jc_59 : jcalV 59 0 := ⟨⟨by decide +kernel, ⟨by decide +kernel, by decide +kernel, by decide +kernel⟩, jtb3 65 rfl rfl, jtb1 3 rfl rfl, by decide +kernel⟩, jtb3 64 rfl rfl, jtp 6 rfl rfl⟩
set_option maxRecDepth 100000 in
theorem jc_60 : jcalS 60 1 := ⟨⟨by decide +kernel, ⟨by decide +kernel, by decide +kernel, by decide +kernel⟩, jtb3 51 rfl rfl, jtb1 3 rfl rfl, by decide +kernel⟩, jtb3 50 rfl rfl⟩
set_option maxRecDepth 100000 in
theorem jc_61 : jcalS 61 1 := ⟨⟨by decide +kernel, ⟨by decide +kernel, by decide +kernel, by decide +kernel⟩, jtb3 54 rfl rfl, jtb1 3 rfl rfl, by decide +kernel⟩, jtb3 53 rfl rfl⟩
set_option maxRecDepth 100000 in
theorem jc_62 : jcalS 62 1 := ⟨⟨by decide +kernel, ⟨by decide +kernel, by decide +kernel, by decide +kernel⟩, jtb3 61 rfl rfl, jtb1 3 rfl rfl, by decide +kernel⟩, jtb3 60 rfl rfl⟩
set_option maxRecDepth 100000 in
theorem jc_63 : jcalV 63 1 := ⟨⟨by decide +kernel, ⟨by decide +kernel, by decide +kernel, by decide +kernel⟩, jtb3 48 rfl rfl, jtb1 3 rfl rfl, by decide +kernel⟩, jtb3 47 rfl rfl, jtp 4 rfl rfl⟩
set_option maxRecDepth 100000 in
theorem jc_64 : jcalI 64 2 := ⟨⟨by decide +kernel, ⟨by decide +kernel, by decide +kernel, by decide +kernel⟩, jtb2 29 rfl rfl, jtb1 10 rfl rfl, by decide +kernel⟩, jtb2 28 rfl rfl, rfl⟩
set_option maxRecDepth 100000 in
theorem jc_65 : jcalV 65 2 := ⟨⟨by decide +kernel, ⟨by decide +kernel, by decide +kernel, by decide +kernel⟩, jtb4 226 rfl rfl, jtb1 10 rfl rfl, by decide +kernel⟩, jtb4 224 rfl rfl, jtb4 225 rfl rfl⟩
set_option maxRecDepth 100000 in
theorem jc_66 : jcalV 66 2 := ⟨⟨by decide +kernel, ⟨by decide +kernel, by decide +kernel, by decide +kernel⟩, jtb4 163 rfl rfl, jtb1 10 rfl rfl, by decide +kernel⟩, jtb4 161 rfl rfl, jtb4 162 rfl rfl⟩
set_option maxRecDepth 100000 in
theorem jc_67 : jcalV 67 2 := ⟨⟨by decide +kernel, ⟨by decide +kernel, by decide +kernel, by decide +kernel⟩, jtb4 167 rfl rfl, jtb1 10 rfl rfl, by decide +kernel⟩, jtb4 166 rfl rfl, jtp 34 rfl rfl⟩
set_option maxRecDepth 100000 in
theorem jc_68 : jcalV 68 2 := ⟨⟨by decide +kernel, ⟨by decide +kernel, by decide +kernel, by decide +kernel⟩, jtb4 198 rfl rfl, jtb1 10 rfl rfl, by decide +kernel⟩, jtb4 197 rfl rfl, jtp 37 rfl rfl⟩
set_option maxRecDepth 100000 in
theorem jc_69 : jcalV 69 2 := ⟨⟨by decide +kernel, ⟨by decide +kernel, by decide +kernel, by decide +kernel⟩, jtb4 210 rfl rfl, jtb1 10 rfl rfl, by decide +kernel⟩, jtb4 209 rfl rfl, jtp 39 rfl rfl⟩
set_option maxRecDepth 100000 in
theorem jc_70 : jcalV 70 1 := ⟨⟨by decide +kernel, ⟨by decide +kernel, by decide +kernel, by decide +kernel⟩, jtb4 194 rfl rfl, jtb1 10 rfl rfl, by decide +kernel⟩, jtb4 193 rfl rfl, jtp 36 rfl rfl⟩
set_option maxRecDepth 100000 in
theorem jc_71 : jcalV 71 2 := ⟨⟨by decide +kernel, ⟨by decide +kernel, by decide +kernel, by decide +kernel⟩, jtb4 206 rfl rfl, jtb1 10 rfl rfl, by decide +kernel⟩, jtb4 205 rfl rfl, jtp 38 rfl rfl⟩
set_option maxRecDepth 100000 in
theorem jc_72 : jcalI 72 0 := ⟨⟨by decide +kernel, ⟨by decide +kernel, by decide +kernel, by decide +kernel⟩, jtb1 95 rfl rfl, jtb1 4 rfl rfl, by decide +kernel⟩, jtb1 94 rfl rfl, rfl⟩
set_option maxRecDepth 100000 in
theorem jc_73 : jcalV 73 0 := ⟨⟨by decide +kernel, ⟨by decide +kernel, by decide +kernel, by decide +kernel⟩, jtb3 37 rfl rfl, jtb1 4 rfl rfl, by decide +kernel⟩, jtb3 35 rfl rfl, jtb3 36 rfl rfl⟩
set_option maxRecDepth 100000 in
theorem jc_74 : jcalV 74 1 := ⟨⟨by decide +kernel, ⟨by decide +kernel, by decide +kernel, by decide +kernel⟩, jtb3 108 rfl rfl, jtb1 4 rfl rfl, by decide +kernel⟩, jtb3 106 rfl rfl, jtb3 107 rfl rfl⟩
set_option maxRecDepth 100000 in
theorem jc_75 : jcalV 75 2 := ⟨⟨by decide +kernel, ⟨by decide +kernel, by decide +kernel, by decide +kernel⟩, jtb3 116 rfl rfl, jtb1 4 rfl rfl, by decide +kernel⟩, jtb3 114 rfl rfl, jtb3 115 rfl rfl⟩
set_option maxRecDepth 100000 in
theorem jc_76 : jcalV 76 1 := ⟨⟨by decide +kernel, ⟨by decide +kernel, by decide +kernel, by decide +kernel⟩, jtb3 104 rfl rfl, jtb1 4 rfl rfl, by decide +kernel⟩, jtb3 102 rfl rfl, jtb3 103 rfl rfl⟩
set_option maxRecDepth 100000 in
theorem jc_77 : jcalV 77 2 := ⟨⟨by decide +kernel, ⟨by decide +kernel, by decide +kernel, by decide +kernel⟩, jtb3 144 rfl rfl, jtb1 4 rfl rfl, by decide +kernel⟩, jtb3 142 rfl rfl, jtb3 143 rfl rfl⟩
set_option maxRecDepth 100000 in
theorem jc_78 : jcalV 78 2 := ⟨⟨by decide +kernel, ⟨by decide +kernel, by decide +kernel, by decide +kernel⟩, jtb3 149 rfl rfl, jtb1 4 rfl rfl, by decide +kernel⟩, jtb3 148 rfl rfl, jtp 16 rfl rfl⟩
set_option maxRecDepth 100000 in
theorem jc_79 : jcalV 79 1 := ⟨⟨by decide +kernel, ⟨by decide +kernel, by decide +kernel, by decide +kernel⟩, jtb3 120 rfl rfl, jtb1 4 rfl rfl, by decide +kernel⟩, jtb3 118 rfl rfl, jtb3 119 rfl rfl⟩
set_option maxRecDepth 100000 in
theorem jc_80 : jcalV 80 1 := ⟨⟨by decide +kernel, ⟨by decide +kernel, by decide +kernel, by decide +kernel⟩, jtb3 181 rfl rfl, jtb1 4 rfl rfl, by decide +kernel⟩, jtb3 179 rfl rfl, jtb3 180 rfl rfl⟩
set_option maxRecDepth 100000 in
theorem jc_81 : jcalV 81 1 := ⟨⟨by decide +kernel, ⟨by decide +kernel, by decide +kernel, by decide +kernel⟩, jtb3 128 rfl rfl, jtb1 4 rfl rfl, by decide +kernel⟩, jtb3 126 rfl rfl, jtb3 127 rfl rfl⟩
set_option maxRecDepth 100000 in
theorem jc_82 : jcalV 82 2 := ⟨⟨by decide +kernel, ⟨by decide +kernel, by decide +kernel, by decide +kernel⟩, jtb3 136 rfl rfl, jtb1 4 rfl rfl, by decide +kernel⟩, jtb3 134 rfl rfl, jtb3 135 rfl rfl⟩
set_option maxRecDepth 100000 in
theorem jc_83 : jcalV 83 1 := ⟨⟨by decide +kernel, ⟨by decide +kernel, by decide +kernel, by decide +kernel⟩, jtb3 222 rfl rfl, jtb1 4 rfl rfl, by decide +kernel⟩, jtb3 220 rfl rfl, jtb3 221 rfl rfl⟩
set_option maxRecDepth 100000 in
theorem jc_84 : jcalV 84 2 := ⟨⟨by decide +kernel, ⟨by decide +kernel, by decide +kernel, by decide +kernel⟩, jtb4 112 rfl rfl, jtb1 4 rfl rfl, by decide +kernel⟩, jtb4 110 rfl rfl, jtb4 111 rfl rfl⟩
set_option maxRecDepth 100000 in
theorem jc_85 : jcalV 85 0 := ⟨⟨by decide +kernel, ⟨by decide +kernel, by decide +kernel, by decide +kernel⟩, jtb4 108 rfl rfl, jtb1 4 rfl rfl, by decide +kernel⟩, jtb4 106 rfl rfl, jtb4 107 rfl rfl⟩
set_option maxRecDepth 100000 in
theorem jc_86 : jcalV 86 1 := ⟨⟨by decide +kernel, ⟨by decide +kernel, by decide +kernel, by decide +kernel⟩, jtb3 226 rfl rfl, jtb1 4 rfl rfl, by decide +kernel⟩, jtb3 224 rfl rfl, jtb3 225 rfl rfl⟩
set_option maxRecDepth 100000 in
theorem jc_87 : jcalV 87 0 := ⟨⟨by decide +kernel, ⟨by decide +kernel, by decide +kernel, by decide +kernel⟩, jtb4 184 rfl rfl, jtb1 4 rfl rfl, by decide +kernel⟩, jtb4 182 rfl rfl, jtb4 183 rfl rfl⟩
set_option maxRecDepth 100000 in
theorem jc_88 : jcalV 88 2 := ⟨⟨by decide +kernel, ⟨by decide +kernel, by decide +kernel, by decide +kernel⟩, jtb3 140 rfl rfl, jtb1 4 rfl rfl, by decide +kernel⟩, jtb3 138 rfl rfl, jtb3 139 rfl rfl⟩
set_option maxRecDepth 100000 in
theorem jc_89 : jcalV 89 2 := ⟨⟨by decide +kernel, ⟨by decide +kernel, by decide +kernel, by decide +kernel⟩, jtb3 189 rfl rfl, jtb1 4 rfl rfl, by decide +kernel⟩, jtb3 187 rfl rfl, jtb3 188 rfl rfl⟩
set_option maxRecDepth 100000 in
theorem jc_90 : jcalV 90 1 := ⟨⟨by decide +kernel, ⟨by decide +kernel, by decide +kernel, by decide +kernel⟩, jtb3 177 rfl rfl, jtb1 4 rfl rfl, by decide +kernel⟩, jtb3 175 rfl rfl, jtb3 176 rfl rfl⟩
set_option maxRecDepth 100000 in
theorem jc_91 : jcalV 91 2 := ⟨⟨by decide +kernel, ⟨by decide +kernel, by decide +kernel, by decide +kernel⟩, jtb3 236 rfl rfl, jtb1 4 rfl rfl, by decide +kernel⟩, jtb3 234 rfl rfl, jtb3 235 rfl rfl⟩
set_option maxRecDepth 100000 in
theorem jc_92 : jcalV 92 2 := ⟨⟨by decide +kernel, ⟨by decide +kernel, by decide +kernel, by decide +kernel⟩, jtb3 193 rfl rfl, jtb1 4 rfl rfl, by decide +kernel⟩, jtb3 191 rfl rfl, jtb3 192 rfl rfl⟩
set_option maxRecDepth 100000 in
theorem jc_93 : jcalV 93 0 := ⟨⟨by decide +kernel, ⟨by decide +kernel, by decide +kernel, by decide +kernel⟩, jtb3 173 rfl rfl, jtb1 4 rfl rfl, by decide +kernel⟩, jtb3 171 rfl rfl, jtb3 172 rfl rfl⟩
set_option maxRecDepth 100000 in
theorem jc_94 : jcalV 94 0 := ⟨⟨by decide +kernel, ⟨by decide +kernel, by decide +kernel, by decide +kernel⟩, jtb3 185 rfl rfl, jtb1 4 rfl rfl, by decide +kernel⟩, jtb3 184 rfl rfl, jtp 22 rfl rfl⟩
set_option maxRecDepth 100000 in
theorem jc_95 : jcalV 95 3 := ⟨⟨by decide +kernel, ⟨by decide +kernel, by decide +kernel, by decide +kernel⟩, jtb3 197 rfl rfl, jtb1 4 rfl rfl, by decide +kernel⟩, jtb3 196 rfl rfl, jtp 23 rfl rfl⟩
set_option maxRecDepth 100000 in
theorem jc_96 : jcalV 96 2 := ⟨⟨by decide +kernel, ⟨by decide +kernel, by decide +kernel, by decide +kernel⟩, jtb3 201 rfl rfl, jtb1 4 rfl rfl, by decide +kernel⟩, jtb3 199 rfl rfl, jtb3 200 rfl rfl⟩
set_option maxRecDepth 100000 in
theorem jc_97 : jcalV 97 2 := ⟨⟨by decide +kernel, ⟨by decide +kernel, by decide +kernel, by decide +kernel⟩, jtb4 64 rfl rfl, jtb1 4 rfl rfl, by decide +kernel⟩, jtb4 62 rfl rfl, jtb4 63 rfl rfl⟩
set_option maxRecDepth 100000 in
theorem jc_98 : jcalV 98 2 := ⟨⟨by decide +kernel, ⟨by decide +kernel, by decide +kernel, by decide +kernel⟩, jtb4 68 rfl rfl, jtb1 4 rfl rfl, by decide +kernel⟩, jtb4 66 rfl rfl, jtb4 67 rfl rfl⟩
set_option maxRecDepth 100000 in
theorem jc_99 : jcalV 99 1 := ⟨⟨by decide +kernel, ⟨by decide +kernel, by decide +kernel, by decide +kernel⟩, jtb4 56 rfl rfl, jtb1 4 rfl rfl, by decide +kernel⟩, jtb4 54 rfl rfl, jtb4 55 rfl rfl⟩
set_option maxRecDepth 100000 in
theorem jc_100 : jcalV 100 4 := ⟨⟨by decide +kernel, ⟨by decide +kernel, by decide +kernel, by decide +kernel⟩, jtb4 96 rfl rfl, jtb1 4 rfl rfl, by decide +kernel⟩, jtb4 94 rfl rfl, jtb4 95 rfl rfl⟩
set_option maxRecDepth 100000 in
theorem jc_101 : jcalI 101 0 := ⟨⟨by decide +kernel, ⟨by decide +kernel, by decide +kernel, by decide +kernel⟩, jtb1 29 rfl rfl, jtb1 2 rfl rfl, by decide +kernel⟩, jtb1 28 rfl rfl, rfl⟩
set_option maxRecDepth 100000 in
theorem jc_102 : jcalV 102 1 := ⟨⟨by decide +kernel, ⟨by decide +kernel, by decide +kernel, by decide +kernel⟩, jtb2 178 rfl rfl, jtb1 2 rfl rfl, by decide +kernel⟩, jtb2 176 rfl rfl, jtb2 177 rfl rfl⟩
set_option maxRecDepth 100000 in
theorem jc_103 : jcalV 103 1 := ⟨⟨by decide +kernel, ⟨by decide +kernel, by decide +kernel, by decide +kernel⟩, jtb2 182 rfl rfl, jtb1 2 rfl rfl, by decide +kernel⟩, jtb2 180 rfl rfl, jtb2 181 rfl rfl⟩
set_option maxRecDepth 100000 in
theorem jc_104 : jcalV 104 1 := ⟨⟨by decide +kernel, ⟨by decide +kernel, by decide +kernel, by decide +kernel⟩, jtb2 207 rfl rfl, jtb1 2 rfl rfl, by decide +kernel⟩, jtb2 205 rfl rfl, jtb2 206 rfl rfl⟩
set_option maxRecDepth 100000 in
theorem jc_105 : jcalV 105 1 := ⟨⟨by decide +kernel, ⟨by decide +kernel, by decide +kernel, by decide +kernel⟩, jtb3 3 rfl rfl, jtb1 2 rfl rfl, by decide +kernel⟩, jtb3 1 rfl rfl, jtb3 2 rfl rfl⟩
set_option maxRecDepth 100000 in
theorem jc_106 : jcalV 106 1 := ⟨⟨by decide +kernel, ⟨by decide +kernel, by decide +kernel, by decide +kernel⟩, jtb2 215 rfl rfl, jtb1 2 rfl rfl, by decide +kernel⟩, jtb2 213 rfl rfl, jtb2 214 rfl rfl⟩
set_option maxRecDepth 100000 in
theorem jc_107 : jcalV 107 2 := ⟨⟨by decide +kernel, ⟨by decide +kernel, by decide +kernel, by decide +kernel⟩, jtb2 203 rfl rfl, jtb1 2 rfl rfl, by decide +kernel⟩, jtb2 201 rfl rfl, jtb2 202 rfl rfl⟩
set_option maxRecDepth 100000 in
theorem jc_108 : jcalV 108 2 := ⟨⟨by decide +kernel, ⟨by decide +kernel, by decide +kernel, by decide +kernel⟩, jtb2 211 rfl rfl, jtb1 2 rfl rfl, by decide +kernel⟩, jtb2 209 rfl rfl, jtb2 210 rfl rfl⟩
set_option maxRecDepth 100000 in
theorem jc_109 : jcalV 109 3 := ⟨⟨by decide +kernel, ⟨by decide +kernel, by decide +kernel, by decide +kernel⟩, jtb3 7 rfl rfl, jtb1 2 rfl rfl, by decide +kernel⟩, jtb3 5 rfl rfl, jtb3 6 rfl rfl⟩
set_option maxRecDepth 100000 in
theorem jc_110 : jcalV 110 3 := ⟨⟨by decide +kernel, ⟨by decide +kernel, by decide +kernel, by decide +kernel⟩, jtb2 190 rfl rfl, jtb1 2 rfl rfl, by decide +kernel⟩, jtb2 188 rfl rfl, jtb2 189 rfl rfl⟩
set_option maxRecDepth 100000 in
theorem jc_111 : jcalV 111 2 := ⟨⟨by decide +kernel, ⟨by decide +kernel, by decide +kernel, by decide +kernel⟩, jtb2 234 rfl rfl, jtb1 2 rfl rfl, by decide +kernel⟩, jtb2 232 rfl rfl, jtb2 233 rfl rfl⟩
set_option maxRecDepth 100000 in
theorem jc_112 : jcalV 112 3 := ⟨⟨by decide +kernel, ⟨by decide +kernel, by decide +kernel, by decide +kernel⟩, jtb2 219 rfl rfl, jtb1 2 rfl rfl, by decide +kernel⟩, jtb2 217 rfl rfl, jtb2 218 rfl rfl⟩
set_option maxRecDepth 100000 in
theorem jc_113 : jcalS 113 2 := ⟨⟨by decide +kernel, ⟨by decide +kernel, by decide +kernel, by decide +kernel⟩, jtb2 222 rfl rfl, jtb1 2 rfl rfl, by decide +kernel⟩, jtb2 221 rfl rfl⟩
set_option maxRecDepth 100000 in
theorem jc_114 : jcalV 114 5 := ⟨⟨by decide +kernel, ⟨by decide +kernel, by decide +kernel, by decide +kernel⟩, jtb3 11 rfl rfl, jtb1 2 rfl rfl, by decide +kernel⟩, jtb3 9 rfl rfl, jtb3 10 rfl rfl⟩
set_option maxRecDepth 100000 in
theorem jc_115 : jcalV 115 3 := ⟨⟨by decide +kernel, ⟨by decide +kernel, by decide +kernel, by decide +kernel⟩, jtb4 19 rfl rfl, jtb1 2 rfl rfl, by decide +kernel⟩, jtb4 17 rfl rfl, jtb4 18 rfl rfl⟩
set_option maxRecDepth 100000 in
theorem jc_116 : jcalI 116 1 := ⟨⟨by decide +kernel, ⟨by decide +kernel, by decide +kernel, by decide +kernel⟩, jtb1 181 rfl rfl, jtb1 6 rfl rfl, by decide +kernel⟩, jtb1 180 rfl rfl, rfl⟩
set_option maxRecDepth 100000 in
theorem jc_117 : jcalV 117 5 := ⟨⟨by decide +kernel, ⟨by decide +kernel, by decide +kernel, by decide +kernel⟩, jtb4 48 rfl rfl, jtb1 6 rfl rfl, by decide +kernel⟩, jtb4 46 rfl rfl, jtb4 47 rfl rfl⟩
set_option maxRecDepth 100000 in
theorem jc_118 : jcalV 118 2 := ⟨⟨by decide +kernel, ⟨by decide +kernel, by decide +kernel, by decide +kernel⟩, jtb4 60 rfl rfl, jtb1 6 rfl rfl, by decide +kernel⟩, jtb4 59 rfl rfl, jtp 27 rfl rfl⟩
set_option maxRecDepth 100000 in
theorem jc_119 : jcalV 119 1 := ⟨⟨by decide +kernel, ⟨by decide +kernel, by decide +kernel, by decide +kernel⟩, jtb4 91 rfl rfl, jtb1 6 rfl rfl, by decide +kernel⟩, jtb4 90 rfl rfl, jtp 29 rfl rfl⟩
set_option maxRecDepth 100000 in
theorem jc_120 : jcalV 120 3 := ⟨⟨by decide +kernel, ⟨by decide +kernel, by decide +kernel, by decide +kernel⟩, jtb4 116 rfl rfl, jtb1 6 rfl rfl, by decide +kernel⟩, jtb4 114 rfl rfl, jtb4 115 rfl rfl⟩
set_option maxRecDepth 100000 in
theorem jc_121 : jcalV 121 6 := ⟨⟨by decide +kernel, ⟨by decide +kernel, by decide +kernel, by decide +kernel⟩, jtb5 68 rfl rfl, jtb1 6 rfl rfl, by decide +kernel⟩, jtb5 66 rfl rfl, jtb5 67 rfl rfl⟩
set_option maxRecDepth 100000 in
theorem jc_122 : jcalV 122 1 := ⟨⟨by decide +kernel, ⟨by decide +kernel, by decide +kernel, by decide +kernel⟩, jtb5 72 rfl rfl, jtb1 6 rfl rfl, by decide +kernel⟩, jtb5 70 rfl rfl, jtb5 71 rfl rfl⟩
set_option maxRecDepth 100000 in
theorem jc_123 : jcalV 123 0 := ⟨⟨by decide +kernel, ⟨by decide +kernel, by decide +kernel, by decide +kernel⟩, jtb5 76 rfl rfl, jtb1 6 rfl rfl, by decide +kernel⟩, jtb5 75 rfl rfl, jtp 46 rfl rfl⟩
set_option maxRecDepth 100000 in
theorem jc_124 : jcalV 124 1 := ⟨⟨by decide +kernel, ⟨by decide +kernel, by decide +kernel, by decide +kernel⟩, jtb5 80 rfl rfl, jtb1 6 rfl rfl, by decide +kernel⟩, jtb5 79 rfl rfl, jtp 47 rfl rfl⟩
set_option maxRecDepth 100000 in
theorem jc_125 : jcalV 125 4 := ⟨⟨by decide +kernel, ⟨by decide +kernel, by decide +kernel, by decide +kernel⟩, jtb5 179 rfl rfl, jtb1 6 rfl rfl, by decide +kernel⟩, jtb5 177 rfl rfl, jtb5 178 rfl rfl⟩
set_option maxRecDepth 100000 in
theorem jc_126 : jcalS 126 1 := ⟨⟨by decide +kernel, ⟨by decide +kernel, by decide +kernel, by decide +kernel⟩, jtb5 182 rfl rfl, jtb1 6 rfl rfl, by decide +kernel⟩, jtb5 181 rfl rfl⟩
set_option maxRecDepth 100000 in
theorem jc_127 : jcalS 127 1 := ⟨⟨by decide +kernel, ⟨by decide +kernel, by decide +kernel, by decide +kernel⟩, jtb5 187 rfl rfl, jtb1 6 rfl rfl, by decide +kernel⟩, jtb5 186 rfl rfl⟩
set_option maxRecDepth 100000 in
theorem jc_128 : jcalI 128 1 := ⟨⟨by decide +kernel, ⟨by decide +kernel, by decide +kernel, by decide +kernel⟩, jtb1 187 rfl rfl, jtb1 7 rfl rfl, by decide +kernel⟩, jtb1 186 rfl rfl, rfl⟩
set_option maxRecDepth 100000 in
theorem jc_129 : jcalV 129 2 := ⟨⟨by decide +kernel, ⟨by decide +kernel, by decide +kernel, by decide +kernel⟩, jtb4 52 rfl rfl, jtb1 7 rfl rfl, by decide +kernel⟩, jtb4 50 rfl rfl, jtb4 51 rfl rfl⟩
set_option maxRecDepth 100000 in
theorem jc_130 : jcalV 130 1 := ⟨⟨by decide +kernel, ⟨by decide +kernel, by decide +kernel, by decide +kernel⟩, jtb4 72 rfl rfl, jtb1 7 rfl rfl, by decide +kernel⟩, jtb4 70 rfl rfl, jtb4 71 rfl rfl⟩
set_option maxRecDepth 100000 in
theorem jc_131 : jcalI 131 0 := ⟨⟨by decide +kernel, ⟨by decide +kernel, by decide +kernel, by decide +kernel⟩, jtb1 161 rfl rfl, jtb1 5 rfl rfl, by decide +kernel⟩, jtb1 160 rfl rfl, rfl⟩
set_option maxRecDepth 100000 in
theorem jc_132 : jcalV 132 1 := ⟨⟨by decide +kernel, ⟨by decide +kernel, by decide +kernel, by decide +kernel⟩, jtb4 44 rfl rfl, jtb1 5 rfl rfl, by decide +kernel⟩, jtb4 42 rfl rfl, jtb4 43 rfl rfl⟩
set_option maxRecDepth 100000 in
theorem jc_133 : jcalV 133 0 := ⟨⟨by decide +kernel, ⟨by decide +kernel, by decide +kernel, by decide +kernel⟩, jtb4 23 rfl rfl, jtb1 5 rfl rfl, by decide +kernel⟩, jtb4 21 rfl rfl, jtb4 22 rfl rfl⟩
set_option maxRecDepth 100000 in
theorem jc_134 : jcalV 134 4 := ⟨⟨by decide +kernel, ⟨by decide +kernel, by decide +kernel, by decide +kernel⟩, jtb4 27 rfl rfl, jtb1 5 rfl rfl, by decide +kernel⟩, jtb4 25 rfl rfl, jtb4 26 rfl rfl⟩
set_option maxRecDepth 100000 in
theorem jc_135 : jcalV 135 2 := ⟨⟨by decide +kernel, ⟨by decide +kernel, by decide +kernel, by decide +kernel⟩, jtb4 82 rfl rfl, jtb1 5 rfl rfl, by decide +kernel⟩, jtb4 81 rfl rfl, jtp 28 rfl rfl⟩
set_option maxRecDepth 100000 in
theorem jc_136 : jcalV 136 3 := ⟨⟨by decide +kernel, ⟨by decide +kernel, by decide +kernel, by decide +kernel⟩, jtb4 77 rfl rfl, jtb1 5 rfl rfl, by decide +kernel⟩, jtb4 75 rfl rfl, jtb4 76 rfl rfl⟩
set_option maxRecDepth 100000 in
theorem jc_137 : jcalV 137 3 := ⟨⟨by decide +kernel, ⟨by decide +kernel, by decide +kernel, by decide +kernel⟩, jtb4 86 rfl rfl, jtb1 5 rfl rfl, by decide +kernel⟩, jtb4 84 rfl rfl, jtb4 85 rfl rfl⟩
set_option maxRecDepth 100000 in
theorem jc_138 : jcalI 138 0 := ⟨⟨by decide +kernel, ⟨by decide +kernel, by decide +kernel, by decide +kernel⟩, jtb1 21 rfl rfl, jtb1 1 rfl rfl, by decide +kernel⟩, jtb1 20 rfl rfl, rfl⟩
set_option maxRecDepth 100000 in
theorem jc_139 : jcalV 139 0 := ⟨⟨by decide +kernel, ⟨by decide +kernel, by decide +kernel, by decide +kernel⟩, jtb2 162 rfl rfl, jtb1 1 rfl rfl, by decide +kernel⟩, jtb2 160 rfl rfl, jtb2 161 rfl rfl⟩
set_option maxRecDepth 100000 in
theorem jc_140 : jcalV 140 0 := ⟨⟨by decide +kernel, ⟨by decide +kernel, by decide +kernel, by decide +kernel⟩, jtb2 166 rfl rfl, jtb1 1 rfl rfl, by decide +kernel⟩, jtb2 164 rfl rfl, jtb2 165 rfl rfl⟩
set_option maxRecDepth 100000 in
theorem jc_141 : jcalV 141 0 := ⟨⟨by decide +kernel, ⟨by decide +kernel, by decide +kernel, by decide +kernel⟩, jtb2 170 rfl rfl, jtb1 1 rfl rfl, by decide +kernel⟩, jtb2 168 rfl rfl, jtb2 169 rfl rfl⟩
set_option maxRecDepth 100000 in
theorem jc_142 : jcalV 142 3 := ⟨⟨by decide +kernel, ⟨by decide +kernel, by decide +kernel, by decide +kernel⟩, jtb2 174 rfl rfl, jtb1 1 rfl rfl, by decide +kernel⟩, jtb2 172 rfl rfl, jtb2 173 rfl rfl⟩
set_option maxRecDepth 100000 in
theorem jc_143 : jcalV 143 3 := ⟨⟨by decide +kernel, ⟨by decide +kernel, by decide +kernel, by decide +kernel⟩, jtb2 199 rfl rfl, jtb1 1 rfl rfl, by decide +kernel⟩, jtb2 197 rfl rfl, jtb2 198 rfl rfl⟩
set_option maxRecDepth 100000 in
theorem jc_144 : jcalV 144 2 := ⟨⟨by decide +kernel, ⟨by decide +kernel, by decide +kernel, by decide +kernel⟩, jtb2 226 rfl rfl, jtb1 1 rfl rfl, by decide +kernel⟩, jtb2 224 rfl rfl, jtb2 225 rfl rfl⟩
set_option maxRecDepth 100000 in
theorem jc_145 : jcalV 145 5 := ⟨⟨by decide +kernel, ⟨by decide +kernel, by decide +kernel, by decide +kernel⟩, jtb2 238 rfl rfl, jtb1 1 rfl rfl, by decide +kernel⟩, jtb2 236 rfl rfl, jtb2 237 rfl rfl⟩
set_option maxRecDepth 100000 in
theorem jc_146 : jcalV 146 5 := ⟨⟨by decide +kernel, ⟨by decide +kernel, by decide +kernel, by decide +kernel⟩, jtb3 17 rfl rfl, jtb1 1 rfl rfl, by decide +kernel⟩, jtb3 15 rfl rfl, jtb3 16 rfl rfl⟩
set_option maxRecDepth 100000 in
theorem jc_147 : jcalV 147 1 := ⟨⟨by decide +kernel, ⟨by decide +kernel, by decide +kernel, by decide +kernel⟩, jtb3 29 rfl rfl, jtb1 1 rfl rfl, by decide +kernel⟩, jtb3 27 rfl rfl, jtb3 28 rfl rfl⟩
set_option maxRecDepth 100000 in
theorem jc_148 : jcalV 148 1 := ⟨⟨by decide +kernel, ⟨by decide +kernel, by decide +kernel, by decide +kernel⟩, jtb3 209 rfl rfl, jtb1 1 rfl rfl, by decide +kernel⟩, jtb3 207 rfl rfl, jtb3 208 rfl rfl⟩
set_option maxRecDepth 100000 in
theorem jc_149 : jcalV 149 1 := ⟨⟨by decide +kernel, ⟨by decide +kernel, by decide +kernel, by decide +kernel⟩, jtb3 213 rfl rfl, jtb1 1 rfl rfl, by decide +kernel⟩, jtb3 211 rfl rfl, jtb3 212 rfl rfl⟩
set_option maxRecDepth 100000 in
theorem jc_150 : jcalV 150 2 := ⟨⟨by decide +kernel, ⟨by decide +kernel, by decide +kernel, by decide +kernel⟩, jtb3 217 rfl rfl, jtb1 1 rfl rfl, by decide +kernel⟩, jtb3 215 rfl rfl, jtb3 216 rfl rfl⟩
set_option maxRecDepth 100000 in
theorem jc_151 : jcalV 151 2 := ⟨⟨by decide +kernel, ⟨by decide +kernel, by decide +kernel, by decide +kernel⟩, jtb3 231 rfl rfl, jtb1 1 rfl rfl, by decide +kernel⟩, jtb3 229 rfl rfl, jtb3 230 rfl rfl⟩
set_option maxRecDepth 100000 in
theorem jc_152 : jcalV 152 1 := ⟨⟨by decide +kernel, ⟨by decide +kernel, by decide +kernel, by decide +kernel⟩, jtb4 1 rfl rfl, jtb1 1 rfl rfl, by decide +kernel⟩, jtb3 239 rfl rfl, jtb4 0 rfl rfl⟩
set_option maxRecDepth 100000 in
theorem jc_153 : jcalV 153 2 := ⟨⟨by decide +kernel, ⟨by decide +kernel, by decide +kernel, by decide +kernel⟩, jtb4 5 rfl rfl, jtb1 1 rfl rfl, by decide +kernel⟩, jtb4 3 rfl rfl, jtb4 4 rfl rfl⟩
set_option maxRecDepth 100000 in
theorem jc_154 : jcalV 154 3 := ⟨⟨by decide +kernel, ⟨by decide +kernel, by decide +kernel, by decide +kernel⟩, jtb4 14 rfl rfl, jtb1 1 rfl rfl, by decide +kernel⟩, jtb4 12 rfl rfl, jtb4 13 rfl rfl⟩
set_option maxRecDepth 100000 in
theorem jc_155 : jcalV 155 1 := ⟨⟨by decide +kernel, ⟨by decide +kernel, by decide +kernel, by decide +kernel⟩, jtb4 32 rfl rfl, jtb1 1 rfl rfl, by decide +kernel⟩, jtb4 30 rfl rfl, jtb4 31 rfl rfl⟩
set_option maxRecDepth 100000 in
theorem jc_156 : jcalV 156 4 := ⟨⟨by decide +kernel, ⟨by decide +kernel, by decide +kernel, by decide +kernel⟩, jtb4 36 rfl rfl, jtb1 1 rfl rfl, by decide +kernel⟩, jtb4 34 rfl rfl, jtb4 35 rfl rfl⟩
set_option maxRecDepth 100000 in
theorem jc_157 : jcalV 157 3 := ⟨⟨by decide +kernel, ⟨by decide +kernel, by decide +kernel, by decide +kernel⟩, jtb4 100 rfl rfl, jtb1 1 rfl rfl, by decide +kernel⟩, jtb4 98 rfl rfl, jtb4 99 rfl rfl⟩
set_option maxRecDepth 100000 in
theorem jc_158 : jcalV 158 2 := ⟨⟨by decide +kernel, ⟨by decide +kernel, by decide +kernel, by decide +kernel⟩, jtb4 104 rfl rfl, jtb1 1 rfl rfl, by decide +kernel⟩, jtb4 102 rfl rfl, jtb4 103 rfl rfl⟩
set_option maxRecDepth 100000 in
theorem jc_159 : jcalV 159 2 := ⟨⟨by decide +kernel, ⟨by decide +kernel, by decide +kernel, by decide +kernel⟩, jtb4 129 rfl rfl, jtb1 1 rfl rfl, by decide +kernel⟩, jtb4 127 rfl rfl, jtb4 128 rfl rfl⟩
set_option maxRecDepth 100000 in
theorem jc_160 : jcalV 160 2 := ⟨⟨by decide +kernel, ⟨by decide +kernel, by decide +kernel, by decide +kernel⟩, jtb4 133 rfl rfl, jtb1 1 rfl rfl, by decide +kernel⟩, jtb4 131 rfl rfl, jtb4 132 rfl rfl⟩
set_option maxRecDepth 100000 in
theorem jc_161 : jcalV 161 1 := ⟨⟨by decide +kernel, ⟨by decide +kernel, by decide +kernel, by decide +kernel⟩, jtb4 155 rfl rfl, jtb1 1 rfl rfl, by decide +kernel⟩, jtb4 153 rfl rfl, jtb4 154 rfl rfl⟩
set_option maxRecDepth 100000 in
theorem jc_162 : jcalV 162 2 := ⟨⟨by decide +kernel, ⟨by decide +kernel, by decide +kernel, by decide +kernel⟩, jtb4 218 rfl rfl, jtb1 1 rfl rfl, by decide +kernel⟩, jtb4 216 rfl rfl, jtb4 217 rfl rfl⟩
set_option maxRecDepth 100000 in
theorem jc_163 : jcalV 163 1 := ⟨⟨by decide +kernel, ⟨by decide +kernel, by decide +kernel, by decide +kernel⟩, jtb4 230 rfl rfl, jtb1 1 rfl rfl, by decide +kernel⟩, jtb4 228 rfl rfl, jtb4 229 rfl rfl⟩
set_option maxRecDepth 100000 in
theorem jc_164 : jcalV 164 1 := ⟨⟨by decide +kernel, ⟨by decide +kernel, by decide +kernel, by decide +kernel⟩, jtb4 234 rfl rfl, jtb1 1 rfl rfl, by decide +kernel⟩, jtb4 232 rfl rfl, jtb4 233 rfl rfl⟩
set_option maxRecDepth 100000 in
theorem jc_165 : jcalV 165 3 := ⟨⟨by decide +kernel, ⟨by decide +kernel, by decide +kernel, by decide +kernel⟩, jtb4 238 rfl rfl, jtb1 1 rfl rfl, by decide +kernel⟩, jtb4 236 rfl rfl, jtb4 237 rfl rfl⟩
set_option maxRecDepth 100000 in
theorem jc_166 : jcalV 166 5 := ⟨⟨by decide +kernel, ⟨by decide +kernel, by decide +kernel, by decide +kernel⟩, jtb5 25 rfl rfl, jtb1 1 rfl rfl, by decide +kernel⟩, jtb5 23 rfl rfl, jtb5 24 rfl rfl⟩
set_option maxRecDepth 100000 in
theorem jc_167 : jcalV 167 4 := ⟨⟨by decide +kernel, ⟨by decide +kernel, by decide +kernel, by decide +kernel⟩, jtb5 59 rfl rfl, jtb1 1 rfl rfl, by decide +kernel⟩, jtb5 57 rfl rfl, jtb5 58 rfl rfl⟩
set_option maxRecDepth 100000 in
theorem jc_168 : jcalV 168 4 := ⟨⟨by decide +kernel, ⟨by decide +kernel, by decide +kernel, by decide +kernel⟩, jtb5 64 rfl rfl, jtb1 1 rfl rfl, by decide +kernel⟩, jtb5 62 rfl rfl, jtb5 63 rfl rfl⟩
set_option maxRecDepth 100000 in
theorem jc_169 : jcalV 169 7 := ⟨⟨by decide +kernel, ⟨by decide +kernel, by decide +kernel, by decide +kernel⟩, jtb5 84 rfl rfl, jtb1 1 rfl rfl, by decide +kernel⟩, jtb5 82 rfl rfl, jtb5 83 rfl rfl⟩
set_option maxRecDepth 100000 in
theorem jc_170 : jcalV 170 1 := ⟨⟨by decide +kernel, ⟨by decide +kernel, by decide +kernel, by decide +kernel⟩, jtb5 161 rfl rfl, jtb1 1 rfl rfl, by decide +kernel⟩, jtb5 159 rfl rfl, jtb5 160 rfl rfl⟩
set_option maxRecDepth 100000 in
theorem jc_171 : jcalV 171 2 := ⟨⟨by decide +kernel, ⟨by decide +kernel, by decide +kernel, by decide +kernel⟩, jtb5 169 rfl rfl, jtb1 1 rfl rfl, by decide +kernel⟩, jtb5 167 rfl rfl, jtb5 168 rfl rfl⟩
set_option maxRecDepth 100000 in
theorem jc_172 : jcalV 172 3 := ⟨⟨by decide +kernel, ⟨by decide +kernel, by decide +kernel, by decide +kernel⟩, jtb5 175 rfl rfl, jtb1 1 rfl rfl, by decide +kernel⟩, jtb5 173 rfl rfl, jtb5 174 rfl rfl⟩
set_option maxRecDepth 100000 in
theorem jc_173 : jcalV 173 1 := ⟨⟨by decide +kernel, ⟨by decide +kernel, by decide +kernel, by decide +kernel⟩, jtb2 186 rfl rfl, jtb1 1 rfl rfl, by decide +kernel⟩, jtb2 185 rfl rfl, jtp 0 rfl rfl⟩
set_option maxRecDepth 100000 in
theorem jc_174 : jcalV 174 1 := ⟨⟨by decide +kernel, ⟨by decide +kernel, by decide +kernel, by decide +kernel⟩, jtb2 230 rfl rfl, jtb1 1 rfl rfl, by decide +kernel⟩, jtb2 229 rfl rfl, jtp 2 rfl rfl⟩
set_option maxRecDepth 100000 in
theorem jc_175 : jcalV 175 0 := ⟨⟨by decide +kernel, ⟨by decide +kernel, by decide +kernel, by decide +kernel⟩, jtb2 195 rfl rfl, jtb1 1 rfl rfl, by decide +kernel⟩, jtb2 194 rfl rfl, jtp 1 rfl rfl⟩
set_option maxRecDepth 100000 in
theorem jc_176 : jcalV 176 1 := ⟨⟨by decide +kernel, ⟨by decide +kernel, by decide +kernel, by decide +kernel⟩, jtb3 205 rfl rfl, jtb1 1 rfl rfl, by decide +kernel⟩, jtb3 204 rfl rfl, jtp 24 rfl rfl⟩
set_option maxRecDepth 100000 in
theorem jc_177 : jcalV 177 2 := ⟨⟨by decide +kernel, ⟨by decide +kernel, by decide +kernel, by decide +kernel⟩, jtb4 125 rfl rfl, jtb1 1 rfl rfl, by decide +kernel⟩, jtb4 124 rfl rfl, jtp 30 rfl rfl⟩
set_option maxRecDepth 100000 in
theorem jc_178 : jcalV 178 2 := ⟨⟨by decide +kernel, ⟨by decide +kernel, by decide +kernel, by decide +kernel⟩, jtb4 40 rfl rfl, jtb1 1 rfl rfl, by decide +kernel⟩, jtb4 39 rfl rfl, jtp 26 rfl rfl⟩
set_option maxRecDepth 100000 in
theorem jc_179 : jcalV 179 2 := ⟨⟨by decide +kernel, ⟨by decide +kernel, by decide +kernel, by decide +kernel⟩, jtb4 9 rfl rfl, jtb1 1 rfl rfl, by decide +kernel⟩, jtb4 8 rfl rfl, jtp 25 rfl rfl⟩
set_option maxRecDepth 100000 in
theorem jc_180 : jcalV 180 2 := ⟨⟨by decide +kernel, ⟨by decide +kernel, by decide +kernel, by decide +kernel⟩, jtb5 91 rfl rfl, jtb1 1 rfl rfl, by decide +kernel⟩, jtb5 90 rfl rfl, jtp 48 rfl rfl⟩
set_option maxRecDepth 100000 in
theorem jc_181 : jcalS 181 1 := ⟨⟨by decide +kernel, ⟨by decide +kernel, by decide +kernel, by decide +kernel⟩, jtb5 87 rfl rfl, jtb1 1 rfl rfl, by decide +kernel⟩, jtb5 86 rfl rfl⟩
set_option maxRecDepth 100000 in
theorem jc_182 : jcalV 182 3 := ⟨⟨by decide +kernel, ⟨by decide +kernel, by decide +kernel, by decide +kernel⟩, jtb4 159 rfl rfl, jtb1 1 rfl rfl, by decide +kernel⟩, jtb4 158 rfl rfl, jtp 33 rfl rfl⟩
set_option maxRecDepth 100000 in
theorem jc_183 : jcalV 183 3 := ⟨⟨by decide +kernel, ⟨by decide +kernel, by decide +kernel, by decide +kernel⟩, jtb4 222 rfl rfl, jtb1 1 rfl rfl, by decide +kernel⟩, jtb4 221 rfl rfl, jtp 40 rfl rfl⟩
set_option maxRecDepth 100000 in
theorem jc_184 : jcalI 184 0 := ⟨⟨by decide +kernel, ⟨by decide +kernel, by decide +kernel, by decide +kernel⟩, jtb5 193 rfl rfl, jtb1 13 rfl rfl, by decide +kernel⟩, jtb5 192 rfl rfl, rfl⟩
set_option maxRecDepth 100000 in
theorem jc_185 : jcalV 185 0 := ⟨⟨by decide +kernel, ⟨by decide +kernel, by decide +kernel, by decide +kernel⟩, jtb6 197 rfl rfl, jtb1 13 rfl rfl, by decide +kernel⟩, jtb6 195 rfl rfl, jtb6 196 rfl rfl⟩
set_option maxRecDepth 100000 in
theorem jc_186 : jcalV 186 0 := ⟨⟨by decide +kernel, ⟨by decide +kernel, by decide +kernel, by decide +kernel⟩, jtb6 201 rfl rfl, jtb1 13 rfl rfl, by decide +kernel⟩, jtb6 199 rfl rfl, jtb6 200 rfl rfl⟩
set_option maxRecDepth 100000 in
theorem jc_187 : jcalV 187 0 := ⟨⟨by decide +kernel, ⟨by decide +kernel, by decide +kernel, by decide +kernel⟩, jtb6 205 rfl rfl, jtb1 13 rfl rfl, by decide +kernel⟩, jtb6 203 rfl rfl, jtb6 204 rfl rfl⟩
set_option maxRecDepth 100000 in
theorem jc_188 : jcalV 188 1 := ⟨⟨by decide +kernel, ⟨by decide +kernel, by decide +kernel, by decide +kernel⟩, jtb7 13 rfl rfl, jtb1 13 rfl rfl, by decide +kernel⟩, jtb7 12 rfl rfl, jtp 61 rfl rfl⟩
set_option maxRecDepth 100000 in
theorem jc_189 : jcalV 189 1 := ⟨⟨by decide +kernel, ⟨by decide +kernel, by decide +kernel, by decide +kernel⟩, jtb6 213 rfl rfl, jtb1 13 rfl rfl, by decide +kernel⟩, jtb6 212 rfl rfl, jtp 57 rfl rfl⟩
set_option maxRecDepth 100000 in
theorem jc_190 : jcalS 190 3 := ⟨⟨by decide +kernel, ⟨by decide +kernel, by decide +kernel, by decide +kernel⟩, jtb7 91 rfl rfl, jtb1 13 rfl rfl, by decide +kernel⟩, jtb7 90 rfl rfl⟩
set_option maxRecDepth 100000 in
theorem jc_191 : jcalS 191 2 := ⟨⟨by decide +kernel, ⟨by decide +kernel, by decide +kernel, by decide +kernel⟩, jtb8 0 rfl rfl, jtb1 13 rfl rfl, by decide +kernel⟩, jtb7 239 rfl rfl⟩
set_option maxRecDepth 100000 in
theorem jc_192 : jcalV 192 2 := ⟨⟨by decide +kernel, ⟨by decide +kernel, by decide +kernel, by decide +kernel⟩, jtb7 237 rfl rfl, jtb1 13 rfl rfl, by decide +kernel⟩, jtb7 236 rfl rfl, jtp 101 rfl rfl⟩
set_option maxRecDepth 100000 in
theorem jc_193 : jcalS 193 2 := ⟨⟨by decide +kernel, ⟨by decide +kernel, by decide +kernel, by decide +kernel⟩, jtb6 228 rfl rfl, jtb1 13 rfl rfl, by decide +kernel⟩, jtb6 227 rfl rfl⟩
set_option maxRecDepth 100000 in
theorem jc_194 : jcalV 194 3 := ⟨⟨by decide +kernel, ⟨by decide +kernel, by decide +kernel, by decide +kernel⟩, jtb6 209 rfl rfl, jtb1 13 rfl rfl, by decide +kernel⟩, jtb6 207 rfl rfl, jtb6 208 rfl rfl⟩
set_option maxRecDepth 100000 in
theorem jc_195 : jcalV 195 1 := ⟨⟨by decide +kernel, ⟨by decide +kernel, by decide +kernel, by decide +kernel⟩, jtb6 225 rfl rfl, jtb1 13 rfl rfl, by decide +kernel⟩, jtb6 224 rfl rfl, jtp 59 rfl rfl⟩
set_option maxRecDepth 100000 in
theorem jc_196 : jcalV 196 2 := ⟨⟨by decide +kernel, ⟨by decide +kernel, by decide +kernel, by decide +kernel⟩, jtb6 221 rfl rfl, jtb1 13 rfl rfl, by decide +kernel⟩, jtb6 220 rfl rfl, jtp 58 rfl rfl⟩
set_option maxRecDepth 100000 in
theorem jc_197 : jcalV 197 3 := ⟨⟨by decide +kernel, ⟨by decide +kernel, by decide +kernel, by decide +kernel⟩, jtb6 217 rfl rfl, jtb1 13 rfl rfl, by decide +kernel⟩, jtb6 215 rfl rfl, jtb6 216 rfl rfl⟩
set_option maxRecDepth 100000 in
theorem jc_198 : jcalV 198 2 := ⟨⟨by decide +kernel, ⟨by decide +kernel, by decide +kernel, by decide +kernel⟩, jtb6 232 rfl rfl, jtb1 13 rfl rfl, by decide +kernel⟩, jtb6 230 rfl rfl, jtb6 231 rfl rfl⟩
set_option maxRecDepth 100000 in
theorem jc_199 : jcalV 199 5 := ⟨⟨by decide +kernel, ⟨by decide +kernel, by decide +kernel, by decide +kernel⟩, jtb6 237 rfl rfl, jtb1 13 rfl rfl, by decide +kernel⟩, jtb6 235 rfl rfl, jtb6 236 rfl rfl⟩
set_option maxRecDepth 100000 in
theorem jc_200 : jcalV 200 2 := ⟨⟨by decide +kernel, ⟨by decide +kernel, by decide +kernel, by decide +kernel⟩, jtb7 162 rfl rfl, jtb1 13 rfl rfl, by decide +kernel⟩, jtb7 161 rfl rfl, jtp 87 rfl rfl⟩
set_option maxRecDepth 100000 in
theorem jc_201 : jcalV 201 1 := ⟨⟨by decide +kernel, ⟨by decide +kernel, by decide +kernel, by decide +kernel⟩, jtb7 21 rfl rfl, jtb1 13 rfl rfl, by decide +kernel⟩, jtb7 20 rfl rfl, jtp 63 rfl rfl⟩
set_option maxRecDepth 100000 in
theorem jc_202 : jcalS 202 1 := ⟨⟨by decide +kernel, ⟨by decide +kernel, by decide +kernel, by decide +kernel⟩, jtb7 24 rfl rfl, jtb1 13 rfl rfl, by decide +kernel⟩, jtb7 23 rfl rfl⟩
set_option maxRecDepth 100000 in
theorem jc_203 : jcalS 203 1 := ⟨⟨by decide +kernel, ⟨by decide +kernel, by decide +kernel, by decide +kernel⟩, jtb7 29 rfl rfl, jtb1 13 rfl rfl, by decide +kernel⟩, jtb7 28 rfl rfl⟩
set_option maxRecDepth 100000 in
theorem jc_204 : jcalV 204 0 := ⟨⟨by decide +kernel, ⟨by decide +kernel, by decide +kernel, by decide +kernel⟩, jtb7 17 rfl rfl, jtb1 13 rfl rfl, by decide +kernel⟩, jtb7 16 rfl rfl, jtp 62 rfl rfl⟩
set_option maxRecDepth 100000 in
theorem jc_205 : jcalS 205 6 := ⟨⟨by decide +kernel, ⟨by decide +kernel, by decide +kernel, by decide +kernel⟩, jtb7 36 rfl rfl, jtb1 13 rfl rfl, by decide +kernel⟩, jtb7 35 rfl rfl⟩
set_option maxRecDepth 100000 in
theorem jc_206 : jcalV 206 1 := ⟨⟨by decide +kernel, ⟨by decide +kernel, by decide +kernel, by decide +kernel⟩, jtb7 40 rfl rfl, jtb1 13 rfl rfl, by decide +kernel⟩, jtb7 39 rfl rfl, jtp 65 rfl rfl⟩
set_option maxRecDepth 100000 in
theorem jc_207 : jcalV 207 0 := ⟨⟨by decide +kernel, ⟨by decide +kernel, by decide +kernel, by decide +kernel⟩, jtb7 33 rfl rfl, jtb1 13 rfl rfl, by decide +kernel⟩, jtb7 32 rfl rfl, jtp 64 rfl rfl⟩
set_option maxRecDepth 100000 in
theorem jc_208 : jcalV 208 0 := ⟨⟨by decide +kernel, ⟨by decide +kernel, by decide +kernel, by decide +kernel⟩, jtb7 56 rfl rfl, jtb1 13 rfl rfl, by decide +kernel⟩, jtb7 55 rfl rfl, jtp 69 rfl rfl⟩
set_option maxRecDepth 100000 in
theorem jc_209 : jcalV 209 0 := ⟨⟨by decide +kernel, ⟨by decide +kernel, by decide +kernel, by decide +kernel⟩, jtb7 60 rfl rfl, jtb1 13 rfl rfl, by decide +kernel⟩, jtb7 59 rfl rfl, jtp 70 rfl rfl⟩
set_option maxRecDepth 100000 in
theorem jc_210 : jcalV 210 0 := ⟨⟨by decide +kernel, ⟨by decide +kernel, by decide +kernel, by decide +kernel⟩, jtb7 64 rfl rfl, jtb1 13 rfl rfl, by decide +kernel⟩, jtb7 63 rfl rfl, jtp 71 rfl rfl⟩
set_option maxRecDepth 100000 in
theorem jc_211 : jcalV 211 0 := ⟨⟨by decide +kernel, ⟨by decide +kernel, by decide +kernel, by decide +kernel⟩, jtb7 68 rfl rfl, jtb1 13 rfl rfl, by decide +kernel⟩, jtb7 67 rfl rfl, jtp 72 rfl rfl⟩
set_option maxRecDepth 100000 in
theorem jc_212 : jcalV 212 0 := ⟨⟨by decide +kernel, ⟨by decide +kernel, by decide +kernel, by decide +kernel⟩, jtb7 72 rfl rfl, jtb1 13 rfl rfl, by decide +kernel⟩, jtb7 71 rfl rfl, jtp 73 rfl rfl⟩
set_option maxRecDepth 100000 in
theorem jc_213 : jcalV 213 0 := ⟨⟨by decide +kernel, ⟨by decide +kernel, by decide +kernel, by decide +kernel⟩, jtb7 52 rfl rfl, jtb1 13 rfl rfl, by decide +kernel⟩, jtb7 51 rfl rfl, jtp 68 rfl rfl⟩
set_option maxRecDepth 100000 in
theorem jc_214 : jcalV 214 0 := ⟨⟨by decide +kernel, ⟨by decide +kernel, by decide +kernel, by decide +kernel⟩, jtb7 48 rfl rfl, jtb1 13 rfl rfl, by decide +kernel⟩, jtb7 47 rfl rfl, jtp 67 rfl rfl⟩
set_option maxRecDepth 100000 in
theorem jc_215 : jcalV 215 2 := ⟨⟨by decide +kernel, ⟨by decide +kernel, by decide +kernel, by decide +kernel⟩, jtb7 80 rfl rfl, jtb1 13 rfl rfl, by decide +kernel⟩, jtb7 79 rfl rfl, jtp 75 rfl rfl⟩
set_option maxRecDepth 100000 in
theorem jc_216 : jcalV 216 0 := ⟨⟨by decide +kernel, ⟨by decide +kernel, by decide +kernel, by decide +kernel⟩, jtb7 76 rfl rfl, jtb1 13 rfl rfl, by decide +kernel⟩, jtb7 75 rfl rfl, jtp 74 rfl rfl⟩
set_option maxRecDepth 100000 in
theorem jc_217 : jcalV 217 1 := ⟨⟨by decide +kernel, ⟨by decide +kernel, by decide +kernel, by decide +kernel⟩, jtb7 95 rfl rfl, jtb1 13 rfl rfl, by decide +kernel⟩, jtb7 94 rfl rfl, jtp 78 rfl rfl⟩
set_option maxRecDepth 100000 in
theorem jc_218 : jcalV 218 2 := ⟨⟨by decide +kernel, ⟨by decide +kernel, by decide +kernel, by decide +kernel⟩, jtb7 88 rfl rfl, jtb1 13 rfl rfl, by decide +kernel⟩, jtb7 87 rfl rfl, jtp 77 rfl rfl⟩
set_option maxRecDepth 100000 in
theorem jc_219 : jcalV 219 0 := ⟨⟨by decide +kernel, ⟨by decide +kernel, by decide +kernel, by decide +kernel⟩, jtb7 84 rfl rfl, jtb1 13 rfl rfl, by decide +kernel⟩, jtb7 83 rfl rfl, jtp 76 rfl rfl⟩
set_option maxRecDepth 100000 in
theorem jc_220 : jcalV 220 0 := ⟨⟨by decide +kernel, ⟨by decide +kernel, by decide +kernel, by decide +kernel⟩, jtb7 44 rfl rfl, jtb1 13 rfl rfl, by decide +kernel⟩, jtb7 43 rfl rfl, jtp 66 rfl rfl⟩
set_option maxRecDepth 100000 in
theorem jc_221 : jcalV 221 0 := ⟨⟨by decide +kernel, ⟨by decide +kernel, by decide +kernel, by decide +kernel⟩, jtb7 103 rfl rfl, jtb1 13 rfl rfl, by decide +kernel⟩, jtb7 102 rfl rfl, jtp 80 rfl rfl⟩
set_option maxRecDepth 100000 in
theorem jc_222 : jcalV 222 0 := ⟨⟨by decide +kernel, ⟨by decide +kernel, by decide +kernel, by decide +kernel⟩, jtb7 99 rfl rfl, jtb1 13 rfl rfl, by decide +kernel⟩, jtb7 98 rfl rfl, jtp 79 rfl rfl⟩
set_option maxRecDepth 100000 in
theorem jc_223 : jcalV 223 0 := ⟨⟨by decide +kernel, ⟨by decide +kernel, by decide +kernel, by decide +kernel⟩, jtb7 107 rfl rfl, jtb1 13 rfl rfl, by decide +kernel⟩, jtb7 106 rfl rfl, jtp 81 rfl rfl⟩
set_option maxRecDepth 100000 in
theorem jc_224 : jcalV 224 5 := ⟨⟨by decide +kernel, ⟨by decide +kernel, by decide +kernel, by decide +kernel⟩, jtb7 1 rfl rfl, jtb1 13 rfl rfl, by decide +kernel⟩, jtb6 239 rfl rfl, jtb7 0 rfl rfl⟩
set_option maxRecDepth 100000 in
theorem jc_225 : jcalV 225 1 := ⟨⟨by decide +kernel, ⟨by decide +kernel, by decide +kernel, by decide +kernel⟩, jtb7 5 rfl rfl, jtb1 13 rfl rfl, by decide +kernel⟩, jtb7 4 rfl rfl, jtp 60 rfl rfl⟩
set_option maxRecDepth 100000 in
theorem jc_226 : jcalV 226 1 := ⟨⟨by decide +kernel, ⟨by decide +kernel, by decide +kernel, by decide +kernel⟩, jtb7 9 rfl rfl, jtb1 13 rfl rfl, by decide +kernel⟩, jtb7 7 rfl rfl, jtb7 8 rfl rfl⟩
set_option maxRecDepth 100000 in
theorem jc_227 : jcalV 227 0 := ⟨⟨by decide +kernel, ⟨by decide +kernel, by decide +kernel, by decide +kernel⟩, jtb7 111 rfl rfl, jtb1 13 rfl rfl, by decide +kernel⟩, jtb7 110 rfl rfl, jtp 82 rfl rfl⟩
set_option maxRecDepth 100000 in
theorem jc_228 : jcalV 228 1 := ⟨⟨by decide +kernel, ⟨by decide +kernel, by decide +kernel, by decide +kernel⟩, jtb7 115 rfl rfl, jtb1 13 rfl rfl, by decide +kernel⟩, jtb7 113 rfl rfl, jtb7 114 rfl rfl⟩
set_option maxRecDepth 100000 in
theorem jc_229 : jcalV 229 1 := ⟨⟨by decide +kernel, ⟨by decide +kernel, by decide +kernel, by decide +kernel⟩, jtb7 127 rfl rfl, jtb1 13 rfl rfl, by decide +kernel⟩, jtb7 126 rfl rfl, jtp 83 rfl rfl⟩
set_option maxRecDepth 100000 in
theorem jc_230 : jcalV 230 1 := ⟨⟨by decide +kernel, ⟨by decide +kernel, by decide +kernel, by decide +kernel⟩, jtb7 180 rfl rfl, jtb1 13 rfl rfl, by decide +kernel⟩, jtb7 179 rfl rfl, jtp 89 rfl rfl⟩
set_option maxRecDepth 100000 in
theorem jc_231 : jcalV 231 2 := ⟨⟨by decide +kernel, ⟨by decide +kernel, by decide +kernel, by decide +kernel⟩, jtb7 233 rfl rfl, jtb1 13 rfl rfl, by decide +kernel⟩, jtb7 232 rfl rfl, jtp 100 rfl rfl⟩
set_option maxRecDepth 100000 in
theorem jc_232 : jcalV 232 2 := ⟨⟨by decide +kernel, ⟨by decide +kernel, by decide +kernel, by decide +kernel⟩, jtb7 132 rfl rfl, jtb1 13 rfl rfl, by decide +kernel⟩, jtb7 131 rfl rfl, jtp 84 rfl rfl⟩
set_option maxRecDepth 100000 in
theorem jc_233 : jcalV 233 2 := ⟨⟨by decide +kernel, ⟨by decide +kernel, by decide +kernel, by decide +kernel⟩, jtb7 136 rfl rfl, jtb1 13 rfl rfl, by decide +kernel⟩, jtb7 135 rfl rfl, jtp 85 rfl rfl⟩
set_option maxRecDepth 100000 in
theorem jc_234 : jcalV 234 2 := ⟨⟨by decide +kernel, ⟨by decide +kernel, by decide +kernel, by decide +kernel⟩, jtb7 204 rfl rfl, jtb1 13 rfl rfl, by decide +kernel⟩, jtb7 203 rfl rfl, jtp 95 rfl rfl⟩
set_option maxRecDepth 100000 in
theorem jc_235 : jcalV 235 2 := ⟨⟨by decide +kernel, ⟨by decide +kernel, by decide +kernel, by decide +kernel⟩, jtb7 196 rfl rfl, jtb1 13 rfl rfl, by decide +kernel⟩, jtb7 195 rfl rfl, jtp 93 rfl rfl⟩
set_option maxRecDepth 100000 in
theorem jc_236 : jcalV 236 1 := ⟨⟨by decide +kernel, ⟨by decide +kernel, by decide +kernel, by decide +kernel⟩, jtb7 119 rfl rfl, jtb1 13 rfl rfl, by decide +kernel⟩, jtb7 117 rfl rfl, jtb7 118 rfl rfl⟩
set_option maxRecDepth 100000 in
theorem jc_237 : jcalV 237 2 := ⟨⟨by decide +kernel, ⟨by decide +kernel, by decide +kernel, by decide +kernel⟩, jtb7 123 rfl rfl, jtb1 13 rfl rfl, by decide +kernel⟩, jtb7 121 rfl rfl, jtb7 122 rfl rfl⟩
set_option maxRecDepth 100000 in
theorem jc_238 : jcalV 238 2 := ⟨⟨by decide +kernel, ⟨by decide +kernel, by decide +kernel, by decide +kernel⟩, jtb7 140 rfl rfl, jtb1 13 rfl rfl, by decide +kernel⟩, jtb7 138 rfl rfl, jtb7 139 rfl rfl⟩
set_option maxRecDepth 100000 in
theorem jc_239 : jcalV 239 1 := ⟨⟨by decide +kernel, ⟨by decide +kernel, by decide +kernel, by decide +kernel⟩, jtb7 144 rfl rfl, jtb1 13 rfl rfl, by decide +kernel⟩, jtb7 142 rfl rfl, jtb7 143 rfl rfl⟩
set_option maxRecDepth 100000 in
theorem jc_240 : jcalV 240 1 := ⟨⟨by decide +kernel, ⟨by decide +kernel, by decide +kernel, by decide +kernel⟩, jtb7 152 rfl rfl, jtb1 13 rfl rfl, by decide +kernel⟩, jtb7 151 rfl rfl, jtp 86 rfl rfl⟩
set_option maxRecDepth 100000 in
theorem jc_241 : jcalV 241 2 := ⟨⟨by decide +kernel, ⟨by decide +kernel, by decide +kernel, by decide +kernel⟩, jtb7 148 rfl rfl, jtb1 13 rfl rfl, by decide +kernel⟩, jtb7 146 rfl rfl, jtb7 147 rfl rfl⟩
set_option maxRecDepth 100000 in
theorem jc_242 : jcalV 242 3 := ⟨⟨by decide +kernel, ⟨by decide +kernel, by decide +kernel, by decide +kernel⟩, jtb7 157 rfl rfl, jtb1 13 rfl rfl, by decide +kernel⟩, jtb7 155 rfl rfl, jtb7 156 rfl rfl⟩
set_option maxRecDepth 100000 in
theorem jc_243 : jcalV 243 4 := ⟨⟨by decide +kernel, ⟨by decide +kernel, by decide +kernel, by decide +kernel⟩, jtb7 167 rfl rfl, jtb1 13 rfl rfl, by decide +kernel⟩, jtb7 166 rfl rfl, jtp 88 rfl rfl⟩
set_option maxRecDepth 100000 in
theorem jc_244 : jcalV 244 1 := ⟨⟨by decide +kernel, ⟨by decide +kernel, by decide +kernel, by decide +kernel⟩, jtb7 171 rfl rfl, jtb1 13 rfl rfl, by decide +kernel⟩, jtb7 169 rfl rfl, jtb7 170 rfl rfl⟩
set_option maxRecDepth 100000 in
theorem jc_245 : jcalV 245 3 := ⟨⟨by decide +kernel, ⟨by decide +kernel, by decide +kernel, by decide +kernel⟩, jtb7 200 rfl rfl, jtb1 13 rfl rfl, by decide +kernel⟩, jtb7 199 rfl rfl, jtp 94 rfl rfl⟩
set_option maxRecDepth 100000 in
theorem jc_246 : jcalV 246 2 := ⟨⟨by decide +kernel, ⟨by decide +kernel, by decide +kernel, by decide +kernel⟩, jtb7 188 rfl rfl, jtb1 13 rfl rfl, by decide +kernel⟩, jtb7 187 rfl rfl, jtp 91 rfl rfl⟩
set_option maxRecDepth 100000 in
theorem jc_247 : jcalV 247 1 := ⟨⟨by decide +kernel, ⟨by decide +kernel, by decide +kernel, by decide +kernel⟩, jtb7 192 rfl rfl, jtb1 13 rfl rfl, by decide +kernel⟩, jtb7 191 rfl rfl, jtp 92 rfl rfl⟩
set_option maxRecDepth 100000 in
theorem jc_248 : jcalV 248 2 := ⟨⟨by decide +kernel, ⟨by decide +kernel, by decide +kernel, by decide +kernel⟩, jtb7 208 rfl rfl, jtb1 13 rfl rfl, by decide +kernel⟩, jtb7 207 rfl rfl, jtp 96 rfl rfl⟩
set_option maxRecDepth 100000 in
theorem jc_249 : jcalV 249 4 := ⟨⟨by decide +kernel, ⟨by decide +kernel, by decide +kernel, by decide +kernel⟩, jtb7 212 rfl rfl, jtb1 13 rfl rfl, by decide +kernel⟩, jtb7 211 rfl rfl, jtp 97 rfl rfl⟩
set_option maxRecDepth 100000 in
theorem jc_250 : jcalV 250 4 := ⟨⟨by decide +kernel, ⟨by decide +kernel, by decide +kernel, by decide +kernel⟩, jtb7 184 rfl rfl, jtb1 13 rfl rfl, by decide +kernel⟩, jtb7 183 rfl rfl, jtp 90 rfl rfl⟩
set_option maxRecDepth 100000 in
theorem jc_251 : jcalV 251 4 := ⟨⟨by decide +kernel, ⟨by decide +kernel, by decide +kernel, by decide +kernel⟩, jtb7 176 rfl rfl, jtb1 13 rfl rfl, by decide +kernel⟩, jtb7 174 rfl rfl, jtb7 175 rfl rfl⟩
set_option maxRecDepth 100000 in
theorem jc_252 : jcalV 252 3 := ⟨⟨by decide +kernel, ⟨by decide +kernel, by decide +kernel, by decide +kernel⟩, jtb7 216 rfl rfl, jtb1 13 rfl rfl, by decide +kernel⟩, jtb7 214 rfl rfl, jtb7 215 rfl rfl⟩
set_option maxRecDepth 100000 in
theorem jc_253 : jcalV 253 0 := ⟨⟨by decide +kernel, ⟨by decide +kernel, by decide +kernel, by decide +kernel⟩, jtb7 229 rfl rfl, jtb1 13 rfl rfl, by decide +kernel⟩, jtb7 228 rfl rfl, jtp 99 rfl rfl⟩
set_option maxRecDepth 100000 in
theorem jc_254 : jcalV 254 2 := ⟨⟨by decide +kernel, ⟨by decide +kernel, by decide +kernel, by decide +kernel⟩, jtb7 225 rfl rfl, jtb1 13 rfl rfl, by decide +kernel⟩, jtb7 224 rfl rfl, jtp 98 rfl rfl⟩
set_option maxRecDepth 100000 in
theorem jc_255 : jcalV 255 2 := ⟨⟨by decide +kernel, ⟨by decide +kernel, by decide +kernel, by decide +kernel⟩, jtb7 221 rfl rfl, jtb1 13 rfl rfl, by decide +kernel⟩, jtb7 219 rfl rfl, jtb7 220 rfl rfl⟩
set_option maxRecDepth 100000 in
theorem jc_256 : jcalV 256 2 := ⟨⟨by decide +kernel, ⟨by decide +kernel, by decide +kernel, by decide +kernel⟩, jtb8 7 rfl rfl, jtb1 13 rfl rfl, by decide +kernel⟩, jtb8 5 rfl rfl, jtb8 6 rfl rfl⟩
set_option maxRecDepth 100000 in
theorem jc_257 : jcalV 257 2 := ⟨⟨by decide +kernel, ⟨by decide +kernel, by decide +kernel, by decide +kernel⟩, jtb8 12 rfl rfl, jtb1 13 rfl rfl, by decide +kernel⟩, jtb8 10 rfl rfl, jtb8 11 rfl rfl⟩
set_option maxRecDepth 100000 in
theorem jc_258 : jcalV 258 4 := ⟨⟨by decide +kernel, ⟨by decide +kernel, by decide +kernel, by decide +kernel⟩, jtb8 24 rfl rfl, jtb1 13 rfl rfl, by decide +kernel⟩, jtb8 23 rfl rfl, jtp 103 rfl rfl⟩
set_option maxRecDepth 100000 in
theorem jc_259 : jcalV 259 3 := ⟨⟨by decide +kernel, ⟨by decide +kernel, by decide +kernel, by decide +kernel⟩, jtb8 20 rfl rfl, jtb1 13 rfl rfl, by decide +kernel⟩, jtb8 19 rfl rfl, jtp 102 rfl rfl⟩
set_option maxRecDepth 100000 in
theorem jc_260 : jcalV 260 1 := ⟨⟨by decide +kernel, ⟨by decide +kernel, by decide +kernel, by decide +kernel⟩, jtb8 16 rfl rfl, jtb1 13 rfl rfl, by decide +kernel⟩, jtb8 14 rfl rfl, jtb8 15 rfl rfl⟩
set_option maxRecDepth 100000 in
theorem jc_261 : jcalV 261 2 := ⟨⟨by decide +kernel, ⟨by decide +kernel, by decide +kernel, by decide +kernel⟩, jtb8 28 rfl rfl, jtb1 13 rfl rfl, by decide +kernel⟩, jtb8 26 rfl rfl, jtb8 27 rfl rfl⟩
set_option maxRecDepth 100000 in
theorem jc_262 : jcalV 262 1 := ⟨⟨by decide +kernel, ⟨by decide +kernel, by decide +kernel, by decide +kernel⟩, jtb8 32 rfl rfl, jtb1 13 rfl rfl, by decide +kernel⟩, jtb8 30 rfl rfl, jtb8 31 rfl rfl⟩
set_option maxRecDepth 100000 in
theorem jc_263 : jcalV 263 1 := ⟨⟨by decide +kernel, ⟨by decide +kernel, by decide +kernel, by decide +kernel⟩, jtb8 36 rfl rfl, jtb1 13 rfl rfl, by decide +kernel⟩, jtb8 34 rfl rfl, jtb8 35 rfl rfl⟩
set_option maxRecDepth 100000 in
theorem jc_264 : jcalV 264 2 := ⟨⟨by decide +kernel, ⟨by decide +kernel, by decide +kernel, by decide +kernel⟩, jtb8 44 rfl rfl, jtb1 13 rfl rfl, by decide +kernel⟩, jtb8 43 rfl rfl, jtp 104 rfl rfl⟩
set_option maxRecDepth 100000 in
theorem jc_265 : jcalV 265 1 := ⟨⟨by decide +kernel, ⟨by decide +kernel, by decide +kernel, by decide +kernel⟩, jtb8 52 rfl rfl, jtb1 13 rfl rfl, by decide +kernel⟩, jtb8 51 rfl rfl, jtp 106 rfl rfl⟩
set_option maxRecDepth 100000 in
theorem jc_266 : jcalV 266 2 := ⟨⟨by decide +kernel, ⟨by decide +kernel, by decide +kernel, by decide +kernel⟩, jtb8 48 rfl rfl, jtb1 13 rfl rfl, by decide +kernel⟩, jtb8 47 rfl rfl, jtp 105 rfl rfl⟩
set_option maxRecDepth 100000 in
theorem jc_267 : jcalV 267 3 := ⟨⟨by decide +kernel, ⟨by decide +kernel, by decide +kernel, by decide +kernel⟩, jtb8 40 rfl rfl, jtb1 13 rfl rfl, by decide +kernel⟩, jtb8 38 rfl rfl, jtb8 39 rfl rfl⟩
set_option maxRecDepth 100000 in
theorem jc_268 : jcalV 268 5 := ⟨⟨by decide +kernel, ⟨by decide +kernel, by decide +kernel, by decide +kernel⟩, jtb8 70 rfl rfl, jtb1 13 rfl rfl, by decide +kernel⟩, jtb8 69 rfl rfl, jtp 109 rfl rfl⟩
set_option maxRecDepth 100000 in
theorem jc_269 : jcalV 269 5 := ⟨⟨by decide +kernel, ⟨by decide +kernel, by decide +kernel, by decide +kernel⟩, jtb8 65 rfl rfl, jtb1 13 rfl rfl, by decide +kernel⟩, jtb8 64 rfl rfl, jtp 108 rfl rfl⟩
set_option maxRecDepth 100000 in
theorem jc_270 : jcalV 270 5 := ⟨⟨by decide +kernel, ⟨by decide +kernel, by decide +kernel, by decide +kernel⟩, jtb8 60 rfl rfl, jtb1 13 rfl rfl, by decide +kernel⟩, jtb8 59 rfl rfl, jtp 107 rfl rfl⟩
set_option maxRecDepth 100000 in
theorem jc_271 : jcalV 271 1 := ⟨⟨by decide +kernel, ⟨by decide +kernel, by decide +kernel, by decide +kernel⟩, jtb8 74 rfl rfl, jtb1 13 rfl rfl, by decide +kernel⟩, jtb8 73 rfl rfl, jtp 110 rfl rfl⟩
set_option maxRecDepth 100000 in
theorem jc_272 : jcalV 272 5 := ⟨⟨by decide +kernel, ⟨by decide +kernel, by decide +kernel, by decide +kernel⟩, jtb8 56 rfl rfl, jtb1 13 rfl rfl, by decide +kernel⟩, jtb8 54 rfl rfl, jtb8 55 rfl rfl⟩
set_option maxRecDepth 100000 in
theorem jc_273 : jcalV 273 4 := ⟨⟨by decide +kernel, ⟨by decide +kernel, by decide +kernel, by decide +kernel⟩, jtb8 78 rfl rfl, jtb1 13 rfl rfl, by decide +kernel⟩, jtb8 76 rfl rfl, jtb8 77 rfl rfl⟩
set_option maxRecDepth 100000 in
theorem jc_274 : jcalV 274 0 := ⟨⟨by decide +kernel, ⟨by decide +kernel, by decide +kernel, by decide +kernel⟩, jtb8 87 rfl rfl, jtb1 13 rfl rfl, by decide +kernel⟩, jtb8 86 rfl rfl, jtp 111 rfl rfl⟩
set_option maxRecDepth 100000 in
theorem jc_275 : jcalV 275 4 := ⟨⟨by decide +kernel, ⟨by decide +kernel, by decide +kernel, by decide +kernel⟩, jtb8 82 rfl rfl, jtb1 13 rfl rfl, by decide +kernel⟩, jtb8 80 rfl rfl, jtb8 81 rfl rfl⟩
set_option maxRecDepth 100000 in
theorem jc_276 : jcalV 276 4 := ⟨⟨by decide +kernel, ⟨by decide +kernel, by decide +kernel, by decide +kernel⟩, jtb8 123 rfl rfl, jtb1 13 rfl rfl, by decide +kernel⟩, jtb8 122 rfl rfl, jtp 118 rfl rfl⟩
set_option maxRecDepth 100000 in
theorem jc_277 : jcalV 277 3 := ⟨⟨by decide +kernel, ⟨by decide +kernel, by decide +kernel, by decide +kernel⟩, jtb8 127 rfl rfl, jtb1 13 rfl rfl, by decide +kernel⟩, jtb8 126 rfl rfl, jtp 119 rfl rfl⟩
set_option maxRecDepth 100000 in
theorem jc_278 : jcalV 278 0 := ⟨⟨by decide +kernel, ⟨by decide +kernel, by decide +kernel, by decide +kernel⟩, jtb8 108 rfl rfl, jtb1 13 rfl rfl, by decide +kernel⟩, jtb8 107 rfl rfl, jtp 115 rfl rfl⟩
set_option maxRecDepth 100000 in
theorem jc_279 : jcalV 279 0 := ⟨⟨by decide +kernel, ⟨by decide +kernel, by decide +kernel, by decide +kernel⟩, jtb8 112 rfl rfl, jtb1 13 rfl rfl, by decide +kernel⟩, jtb8 111 rfl rfl, jtp 116 rfl rfl⟩
set_option maxRecDepth 100000 in
theorem jc_280 : jcalV 280 0 := ⟨⟨by decide +kernel, ⟨by decide +kernel, by decide +kernel, by decide +kernel⟩, jtb8 104 rfl rfl, jtb1 13 rfl rfl, by decide +kernel⟩, jtb8 103 rfl rfl, jtp 114 rfl rfl⟩
set_option maxRecDepth 100000 in
theorem jc_281 : jcalV 281 2 := ⟨⟨by decide +kernel, ⟨by decide +kernel, by decide +kernel, by decide +kernel⟩, jtb8 119 rfl rfl, jtb1 13 rfl rfl, by decide +kernel⟩, jtb8 118 rfl rfl, jtp 117 rfl rfl⟩
set_option maxRecDepth 100000 in
theorem jc_282 : jcalV 282 0 := ⟨⟨by decide +kernel, ⟨by decide +kernel, by decide +kernel, by decide +kernel⟩, jtb8 100 rfl rfl, jtb1 13 rfl rfl, by decide +kernel⟩, jtb8 99 rfl rfl, jtp 113 rfl rfl⟩
set_option maxRecDepth 100000 in
theorem jc_283 : jcalV 283 0 := ⟨⟨by decide +kernel, ⟨by decide +kernel, by decide +kernel, by decide +kernel⟩, jtb8 135 rfl rfl, jtb1 13 rfl rfl, by decide +kernel⟩, jtb8 134 rfl rfl, jtp 121 rfl rfl⟩
set_option maxRecDepth 100000 in
theorem jc_284 : jcalV 284 2 := ⟨⟨by decide +kernel, ⟨by decide +kernel, by decide +kernel, by decide +kernel⟩, jtb8 139 rfl rfl, jtb1 13 rfl rfl, by decide +kernel⟩, jtb8 138 rfl rfl, jtp 122 rfl rfl⟩
set_option maxRecDepth 100000 in
theorem jc_285 : jcalV 285 0 := ⟨⟨by decide +kernel, ⟨by decide +kernel, by decide +kernel, by decide +kernel⟩, jtb8 131 rfl rfl, jtb1 13 rfl rfl, by decide +kernel⟩, jtb8 130 rfl rfl, jtp 120 rfl rfl⟩
set_option maxRecDepth 100000 in
theorem jc_286 : jcalV 286 7 := ⟨⟨by decide +kernel, ⟨by decide +kernel, by decide +kernel, by decide +kernel⟩, jtb8 95 rfl rfl, jtb1 13 rfl rfl, by decide +kernel⟩, jtb8 94 rfl rfl, jtp 112 rfl rfl⟩
set_option maxRecDepth 100000 in
theorem jc_287 : jcalV 287 7 := ⟨⟨by decide +kernel, ⟨by decide +kernel, by decide +kernel, by decide +kernel⟩, jtb8 91 rfl rfl, jtb1 13 rfl rfl, by decide +kernel⟩, jtb8 89 rfl rfl, jtb8 90 rfl rfl⟩
set_option maxRecDepth 100000 in
theorem jc_288 : jcalV 288 1 := ⟨⟨by decide +kernel, ⟨by decide +kernel, by decide +kernel, by decide +kernel⟩, jtb8 143 rfl rfl, jtb1 13 rfl rfl, by decide +kernel⟩, jtb8 141 rfl rfl, jtb8 142 rfl rfl⟩
set_option maxRecDepth 100000 in
theorem jc_289 : jcalV 289 2 := ⟨⟨by decide +kernel, ⟨by decide +kernel, by decide +kernel, by decide +kernel⟩, jtb8 147 rfl rfl, jtb1 13 rfl rfl, by decide +kernel⟩, jtb8 145 rfl rfl, jtb8 146 rfl rfl⟩
set_option maxRecDepth 100000 in
theorem jc_290 : jcalV 290 3 := ⟨⟨by decide +kernel, ⟨by decide +kernel, by decide +kernel, by decide +kernel⟩, jtb8 151 rfl rfl, jtb1 13 rfl rfl, by decide +kernel⟩, jtb8 149 rfl rfl, jtb8 150 rfl rfl⟩
set_option maxRecDepth 100000 in
theorem jc_291 : jcalS 291 1 := ⟨⟨by decide +kernel, ⟨by decide +kernel, by decide +kernel, by decide +kernel⟩, jtb5 111 rfl rfl, jtb1 15 rfl rfl, by decide +kernel⟩, jtb5 110 rfl rfl⟩
set_option maxRecDepth 100000 in
theorem jc_292 : jcalS 292 2 := ⟨⟨by decide +kernel, ⟨by decide +kernel, by decide +kernel, by decide +kernel⟩, jtb5 149 rfl rfl, jtb1 16 rfl rfl, by decide +kernel⟩, jtb5 148 rfl rfl⟩
set_option maxRecDepth 100000 in
theorem jo_1_3 : Cond.methodLink "TwoSeek$Game" 3 objectInit ∈ jtbl := jtb2 95 rfl rfl
set_option maxRecDepth 100000 in
theorem jf_1_9 : jfl "TwoSeek$Game" 9 0 2 := ⟨_, rfl, by decide, rfl, Or.inl (jtb2 99 rfl rfl)⟩
set_option maxRecDepth 100000 in
theorem jf_1_15 : jfl "TwoSeek$Game" 15 0 3 := ⟨_, rfl, by decide, rfl, Or.inl (jtb2 100 rfl rfl)⟩
set_option maxRecDepth 100000 in
theorem jf_1_19 : jfl "TwoSeek$Game" 19 0 4 := ⟨_, rfl, by decide, rfl, Or.inl (jtb2 101 rfl rfl)⟩
set_option maxRecDepth 100000 in
theorem jf_1_22 : jfl "TwoSeek$Game" 22 0 5 := ⟨_, rfl, by decide, rfl, Or.inl (jtb2 102 rfl rfl)⟩
set_option maxRecDepth 100000 in
theorem jf_1_25 : jfl "TwoSeek$Game" 25 0 0 := ⟨_, rfl, by decide, rfl, Or.inl (jtb2 96 rfl rfl)⟩
set_option maxRecDepth 100000 in
theorem jf_1_29 : jfl "TwoSeek$Game" 29 0 1 := ⟨_, rfl, by decide, rfl, Or.inl (jtb2 98 rfl rfl)⟩
set_option maxRecDepth 100000 in
theorem jl_1_32 : jml "TwoSeek$Game" 32 6 := jtb5 136 rfl rfl
set_option maxRecDepth 100000 in
theorem jl_1_36 : jml "TwoSeek$Game" 36 8 := jtb5 105 rfl rfl
set_option maxRecDepth 100000 in
theorem jl_1_40 : jml "TwoSeek$Game" 40 11 := jtb5 124 rfl rfl
set_option maxRecDepth 100000 in
theorem jl_1_44 : jml "TwoSeek$Game" 44 14 := jtb5 139 rfl rfl
set_option maxRecDepth 100000 in
theorem jl_1_47 : jml "TwoSeek$Game" 47 15 := jtb5 143 rfl rfl
set_option maxRecDepth 100000 in
theorem jl_1_50 : jml "TwoSeek$Game" 50 291 := jtb5 109 rfl rfl
set_option maxRecDepth 100000 in
theorem jl_1_56 : jml "TwoSeek$Game" 56 9 := jtb5 115 rfl rfl
set_option maxRecDepth 100000 in
theorem jk_1_60 : Cond.constantLong "TwoSeek$Game" 60 (-1) ∈ jtbl := jtb5 119 rfl rfl
set_option maxRecDepth 100000 in
theorem jl_1_62 : jml "TwoSeek$Game" 62 10 := jtb5 120 rfl rfl
set_option maxRecDepth 100000 in
theorem jl_1_66 : jml "TwoSeek$Game" 66 12 := jtb5 128 rfl rfl
set_option maxRecDepth 100000 in
theorem jl_1_70 : jml "TwoSeek$Game" 70 13 := jtb5 132 rfl rfl
set_option maxRecDepth 100000 in
theorem jl_1_74 : jml "TwoSeek$Game" 74 292 := jtb5 147 rfl rfl
set_option maxRecDepth 100000 in
theorem jo_2_3 : Cond.methodLink "TwoSeek$Likeness" 3 objectInit ∈ jtbl := jtb1 230 rfl rfl
set_option maxRecDepth 100000 in
theorem jf_2_9 : jfl "TwoSeek$Likeness" 9 1 0 := ⟨_, rfl, by decide, rfl, Or.inl (jtb1 231 rfl rfl)⟩
set_option maxRecDepth 100000 in
theorem jf_2_15 : jfl "TwoSeek$Likeness" 15 1 1 := ⟨_, rfl, by decide, rfl, Or.inl (jtb1 232 rfl rfl)⟩
set_option maxRecDepth 100000 in
theorem jf_2_18 : jfl "TwoSeek$Likeness" 18 1 2 := ⟨_, rfl, by decide, rfl, Or.inl (jtb1 233 rfl rfl)⟩
set_option maxRecDepth 100000 in
theorem jf_2_22 : jfl "TwoSeek$Likeness" 22 1 4 := ⟨_, rfl, by decide, rfl, Or.inl (jtb1 235 rfl rfl)⟩
set_option maxRecDepth 100000 in
theorem jl_2_25 : jml "TwoSeek$Likeness" 25 83 := jtb4 138 rfl rfl
set_option maxRecDepth 100000 in
theorem jl_2_31 : jml "TwoSeek$Likeness" 31 86 := jtb4 139 rfl rfl
set_option maxRecDepth 100000 in
theorem jl_2_34 : jml "TwoSeek$Likeness" 34 18 := jtb4 140 rfl rfl
set_option maxRecDepth 100000 in
theorem jl_2_38 : jml "TwoSeek$Likeness" 38 20 := jtb4 149 rfl rfl
set_option maxRecDepth 100000 in
theorem jl_2_42 : jml "TwoSeek$Likeness" 42 19 := jtb4 144 rfl rfl
set_option maxRecDepth 100000 in
theorem jl_2_46 : jml "TwoSeek$Likeness" 46 88 := jtb4 148 rfl rfl
set_option maxRecDepth 100000 in
theorem jf_2_50 : jfl "TwoSeek$Likeness" 50 1 3 := ⟨_, rfl, by decide, rfl, Or.inl (jtb1 234 rfl rfl)⟩
set_option maxRecDepth 100000 in
theorem jl_2_54 : jml "TwoSeek$Likeness" 54 22 := jtb5 3 rfl rfl
set_option maxRecDepth 100000 in
theorem jl_2_58 : jml "TwoSeek$Likeness" 58 92 := jtb5 7 rfl rfl
set_option maxRecDepth 100000 in
theorem jl_2_61 : jml "TwoSeek$Likeness" 61 100 := jtb5 8 rfl rfl
set_option maxRecDepth 100000 in
theorem jl_2_65 : jml "TwoSeek$Likeness" 65 25 := jtb5 13 rfl rfl
set_option maxRecDepth 100000 in
theorem jl_2_69 : jml "TwoSeek$Likeness" 69 89 := jtb5 17 rfl rfl
set_option maxRecDepth 100000 in
theorem jl_2_72 : jml "TwoSeek$Likeness" 72 24 := jtb5 18 rfl rfl
set_option maxRecDepth 100000 in
theorem jo_3_3 : Cond.methodLink "TwoSeek$Lots" 3 objectInit ∈ jtbl := jtb2 71 rfl rfl
set_option maxRecDepth 100000 in
theorem jf_3_11 : jfl "TwoSeek$Lots" 11 2 2 := ⟨_, rfl, by decide, rfl, Or.inl (jtb2 76 rfl rfl)⟩
set_option maxRecDepth 100000 in
theorem jf_3_15 : jfl "TwoSeek$Lots" 15 2 3 := ⟨_, rfl, by decide, rfl, Or.inl (jtb2 77 rfl rfl)⟩
set_option maxRecDepth 100000 in
theorem jf_3_19 : jfl "TwoSeek$Lots" 19 2 4 := ⟨_, rfl, by decide, rfl, Or.inl (jtb2 78 rfl rfl)⟩
set_option maxRecDepth 100000 in
theorem jn_3_22 : Cond.classLink "TwoSeek$Lots" 22 RX9 ∈ jtbl ∧ Cond.instantiable RX9 4 ∈ jtbl ∧ Cond.initialized RX9 ∈ jtbl := ⟨jtb2 72 rfl rfl, jtb1 184 rfl rfl, jtb1 7 rfl rfl⟩
set_option maxRecDepth 100000 in
theorem jl_3_24 : jml "TwoSeek$Lots" 24 128 := jtb2 73 rfl rfl
set_option maxRecDepth 100000 in
theorem jf_3_27 : jfl "TwoSeek$Lots" 27 2 0 := ⟨_, rfl, by decide, rfl, Or.inl (jtb2 74 rfl rfl)⟩
set_option maxRecDepth 100000 in
theorem jf_3_31 : jfl "TwoSeek$Lots" 31 2 1 := ⟨_, rfl, by decide, rfl, Or.inl (jtb2 75 rfl rfl)⟩
set_option maxRecDepth 100000 in
theorem jl_3_36 : jml "TwoSeek$Lots" 36 129 := jtb5 33 rfl rfl
set_option maxRecDepth 100000 in
theorem jf_3_40 : jfl "TwoSeek$Lots" 40 9 3 := ⟨_, rfl, by decide, rfl, Or.inr ⟨_, jtn1 194 rfl rfl⟩⟩
set_option maxRecDepth 100000 in
theorem jl_3_44 : jml "TwoSeek$Lots" 44 79 := jtb5 34 rfl rfl
set_option maxRecDepth 100000 in
theorem jl_3_50 : jml "TwoSeek$Lots" 50 29 := jtb5 35 rfl rfl
set_option maxRecDepth 100000 in
theorem jl_3_54 : jml "TwoSeek$Lots" 54 130 := jtb5 39 rfl rfl
set_option maxRecDepth 100000 in
theorem jl_3_58 : jml "TwoSeek$Lots" 58 100 := jtb5 40 rfl rfl
set_option maxRecDepth 100000 in
theorem jl_3_62 : jml "TwoSeek$Lots" 62 85 := jtb5 55 rfl rfl
set_option maxRecDepth 100000 in
theorem jk_3_66 : Cond.constantLong "TwoSeek$Lots" 66 (256) ∈ jtbl := jtb5 46 rfl rfl
set_option maxRecDepth 100000 in
theorem jl_3_68 : jml "TwoSeek$Lots" 68 84 := jtb5 45 rfl rfl
set_option maxRecDepth 100000 in
theorem jl_3_72 : jml "TwoSeek$Lots" 72 32 := jtb5 47 rfl rfl
set_option maxRecDepth 100000 in
theorem jo_4_3 : Cond.methodLink "TwoSeek$Moves" 3 objectInit ∈ jtbl := jtb2 12 rfl rfl
set_option maxRecDepth 100000 in
theorem jf_4_11 : jfl "TwoSeek$Moves" 11 3 0 := ⟨_, rfl, by decide, rfl, Or.inl (jtb2 15 rfl rfl)⟩
set_option maxRecDepth 100000 in
theorem jf_4_16 : jfl "TwoSeek$Moves" 16 3 1 := ⟨_, rfl, by decide, rfl, Or.inl (jtb2 16 rfl rfl)⟩
set_option maxRecDepth 100000 in
theorem jf_4_19 : jfl "TwoSeek$Moves" 19 3 2 := ⟨_, rfl, by decide, rfl, Or.inl (jtb2 17 rfl rfl)⟩
set_option maxRecDepth 100000 in
theorem jf_4_23 : jfl "TwoSeek$Moves" 23 6 0 := ⟨_, rfl, by decide, rfl, Or.inr ⟨_, jtn1 98 rfl rfl⟩⟩
set_option maxRecDepth 100000 in
theorem jl_4_29 : jml "TwoSeek$Moves" 29 35 := jtb4 172 rfl rfl
set_option maxRecDepth 100000 in
theorem jl_4_33 : jml "TwoSeek$Moves" 33 36 := jtb4 176 rfl rfl
set_option maxRecDepth 100000 in
theorem jl_4_37 : jml "TwoSeek$Moves" 37 92 := jtb4 179 rfl rfl
set_option maxRecDepth 100000 in
theorem jl_4_41 : jml "TwoSeek$Moves" 41 100 := jtb4 180 rfl rfl
set_option maxRecDepth 100000 in
theorem jo_5_3 : Cond.methodLink "TwoSeek$Reader" 3 objectInit ∈ jtbl := jtb1 50 rfl rfl
set_option maxRecDepth 100000 in
theorem jf_5_11 : jfl "TwoSeek$Reader" 11 4 0 := ⟨_, rfl, by decide, rfl, Or.inl (jtb1 51 rfl rfl)⟩
set_option maxRecDepth 100000 in
theorem jf_5_15 : jfl "TwoSeek$Reader" 15 4 2 := ⟨_, rfl, by decide, rfl, Or.inl (jtb1 54 rfl rfl)⟩
set_option maxRecDepth 100000 in
theorem jf_5_19 : jfl "TwoSeek$Reader" 19 4 3 := ⟨_, rfl, by decide, rfl, Or.inl (jtb1 56 rfl rfl)⟩
set_option maxRecDepth 100000 in
theorem jf_5_22 : jfl "TwoSeek$Reader" 22 4 1 := ⟨_, rfl, by decide, rfl, Or.inl (jtb1 52 rfl rfl)⟩
set_option maxRecDepth 100000 in
theorem jf_5_25 : jfl "TwoSeek$Reader" 25 4 4 := ⟨_, rfl, by decide, rfl, Or.inl (jtb1 58 rfl rfl)⟩
set_option maxRecDepth 100000 in
theorem jl_5_29 : jml "TwoSeek$Reader" 29 73 := jtb3 34 rfl rfl
set_option maxRecDepth 100000 in
theorem jf_5_34 : jfl "TwoSeek$Reader" 34 4 5 := ⟨_, rfl, by decide, rfl, Or.inl (jtb1 59 rfl rfl)⟩
set_option maxRecDepth 100000 in
theorem jf_5_38 : jfl "TwoSeek$Reader" 38 4 6 := ⟨_, rfl, by decide, rfl, Or.inl (jtb1 60 rfl rfl)⟩
set_option maxRecDepth 100000 in
theorem jl_5_41 : jml "TwoSeek$Reader" 41 296 := jtb3 38 rfl rfl
set_option maxRecDepth 100000 in
theorem jf_5_47 : jfl "TwoSeek$Reader" 47 4 7 := ⟨_, rfl, by decide, rfl, Or.inl (jtb1 61 rfl rfl)⟩
set_option maxRecDepth 100000 in
theorem jf_5_50 : jfl "TwoSeek$Reader" 50 4 8 := ⟨_, rfl, by decide, rfl, Or.inl (jtb1 62 rfl rfl)⟩
set_option maxRecDepth 100000 in
theorem jl_5_53 : jml "TwoSeek$Reader" 53 57 := jtb3 41 rfl rfl
set_option maxRecDepth 100000 in
theorem jf_5_56 : jfl "TwoSeek$Reader" 56 4 9 := ⟨_, rfl, by decide, rfl, Or.inl (jtb1 63 rfl rfl)⟩
set_option maxRecDepth 100000 in
theorem jl_5_59 : jml "TwoSeek$Reader" 59 44 := jtb3 68 rfl rfl
set_option maxRecDepth 100000 in
theorem jl_5_63 : jml "TwoSeek$Reader" 63 93 := jtb3 170 rfl rfl
set_option maxRecDepth 100000 in
theorem jf_5_66 : jfl "TwoSeek$Reader" 66 4 10 := ⟨_, rfl, by decide, rfl, Or.inl (jtb1 64 rfl rfl)⟩
set_option maxRecDepth 100000 in
theorem jk_5_69 : Cond.constantLong "TwoSeek$Reader" 69 (482854658917) ∈ jtbl := jtb3 72 rfl rfl
set_option maxRecDepth 100000 in
theorem jl_5_71 : jml "TwoSeek$Reader" 71 55 := jtb3 73 rfl rfl
set_option maxRecDepth 100000 in
theorem jl_5_75 : jml "TwoSeek$Reader" 75 45 := jtb3 77 rfl rfl
set_option maxRecDepth 100000 in
theorem jk_5_78 : Cond.constantLong "TwoSeek$Reader" 78 (1818324581) ∈ jtbl := jtb3 85 rfl rfl
set_option maxRecDepth 100000 in
theorem jl_5_80 : jml "TwoSeek$Reader" 80 47 := jtb3 121 rfl rfl
set_option maxRecDepth 100000 in
theorem jk_5_83 : Cond.constantLong "TwoSeek$Reader" 83 (427121668979) ∈ jtbl := jtb3 87 rfl rfl
set_option maxRecDepth 100000 in
theorem jl_5_85 : jml "TwoSeek$Reader" 85 49 := jtb3 150 rfl rfl
set_option maxRecDepth 100000 in
theorem jk_5_88 : Cond.constantLong "TwoSeek$Reader" 88 (1936486263) ∈ jtbl := jtb3 88 rfl rfl
set_option maxRecDepth 100000 in
theorem jl_5_90 : jml "TwoSeek$Reader" 90 50 := jtb3 154 rfl rfl
set_option maxRecDepth 100000 in
theorem jk_5_93 : Cond.constantLong "TwoSeek$Reader" 93 (448377483891) ∈ jtbl := jtb3 89 rfl rfl
set_option maxRecDepth 100000 in
theorem jl_5_95 : jml "TwoSeek$Reader" 95 51 := jtb3 162 rfl rfl
set_option maxRecDepth 100000 in
theorem jl_5_98 : jml "TwoSeek$Reader" 98 43 := jtb3 97 rfl rfl
set_option maxRecDepth 100000 in
theorem jl_5_102 : jml "TwoSeek$Reader" 102 54 := jtb3 166 rfl rfl
set_option maxRecDepth 100000 in
theorem jl_5_105 : jml "TwoSeek$Reader" 105 56 := jtb3 81 rfl rfl
set_option maxRecDepth 100000 in
theorem jf_5_108 : jfl "TwoSeek$Reader" 108 4 11 := ⟨_, rfl, by decide, rfl, Or.inl (jtb1 65 rfl rfl)⟩
set_option maxRecDepth 100000 in
theorem jl_5_112 : jml "TwoSeek$Reader" 112 76 := jtb3 101 rfl rfl
set_option maxRecDepth 100000 in
theorem jl_5_116 : jml "TwoSeek$Reader" 116 74 := jtb3 105 rfl rfl
set_option maxRecDepth 100000 in
theorem jl_5_119 : jml "TwoSeek$Reader" 119 46 := jtb3 90 rfl rfl
set_option maxRecDepth 100000 in
theorem jl_5_125 : jml "TwoSeek$Reader" 125 53 := jtb3 109 rfl rfl
set_option maxRecDepth 100000 in
theorem jl_5_129 : jml "TwoSeek$Reader" 129 75 := jtb3 113 rfl rfl
set_option maxRecDepth 100000 in
theorem jk_5_133 : Cond.constantLong "TwoSeek$Reader" 133 (1936024947) ∈ jtbl := jtb3 94 rfl rfl
set_option maxRecDepth 100000 in
theorem jk_5_135 : Cond.constantLong "TwoSeek$Reader" 135 (439855772532) ∈ jtbl := jtb3 95 rfl rfl
set_option maxRecDepth 100000 in
theorem jk_5_137 : Cond.constantLong "TwoSeek$Reader" 137 (126879297138276) ∈ jtbl := jtb3 96 rfl rfl
set_option maxRecDepth 100000 in
theorem jf_5_139 : jfl "TwoSeek$Reader" 139 6 1 := ⟨_, rfl, by decide, rfl, Or.inr ⟨_, jtn1 102 rfl rfl⟩⟩
set_option maxRecDepth 100000 in
theorem jl_5_142 : jml "TwoSeek$Reader" 142 81 := jtb3 125 rfl rfl
set_option maxRecDepth 100000 in
theorem jk_5_145 : Cond.constantLong "TwoSeek$Reader" 145 (29807) ∈ jtbl := jtb3 86 rfl rfl
set_option maxRecDepth 100000 in
theorem jl_5_147 : jml "TwoSeek$Reader" 147 48 := jtb3 129 rfl rfl
set_option maxRecDepth 100000 in
theorem jl_5_150 : jml "TwoSeek$Reader" 150 82 := jtb3 133 rfl rfl
set_option maxRecDepth 100000 in
theorem jl_5_153 : jml "TwoSeek$Reader" 153 77 := jtb3 141 rfl rfl
set_option maxRecDepth 100000 in
theorem jf_5_156 : jfl "TwoSeek$Reader" 156 6 2 := ⟨_, rfl, by decide, rfl, Or.inr ⟨_, jtn1 105 rfl rfl⟩⟩
set_option maxRecDepth 100000 in
theorem jl_5_159 : jml "TwoSeek$Reader" 159 52 := jtb3 158 rfl rfl
set_option maxRecDepth 100000 in
theorem jf_5_163 : jfl "TwoSeek$Reader" 163 6 3 := ⟨_, rfl, by decide, rfl, Or.inr ⟨_, jtn1 107 rfl rfl⟩⟩
set_option maxRecDepth 100000 in
theorem jf_5_166 : jfl "TwoSeek$Reader" 166 6 4 := ⟨_, rfl, by decide, rfl, Or.inr ⟨_, jtn1 109 rfl rfl⟩⟩
set_option maxRecDepth 100000 in
theorem jl_5_169 : jml "TwoSeek$Reader" 169 63 := jtb3 45 rfl rfl
set_option maxRecDepth 100000 in
theorem jl_5_173 : jml "TwoSeek$Reader" 173 60 := jtb3 49 rfl rfl
set_option maxRecDepth 100000 in
theorem jl_5_176 : jml "TwoSeek$Reader" 176 61 := jtb3 52 rfl rfl
set_option maxRecDepth 100000 in
theorem jl_5_179 : jml "TwoSeek$Reader" 179 58 := jtb3 55 rfl rfl
set_option maxRecDepth 100000 in
theorem jl_5_182 : jml "TwoSeek$Reader" 182 62 := jtb3 59 rfl rfl
set_option maxRecDepth 100000 in
theorem jl_5_185 : jml "TwoSeek$Reader" 185 59 := jtb3 62 rfl rfl
set_option maxRecDepth 100000 in
theorem jk_5_188 : Cond.constantLong "TwoSeek$Reader" 188 (10) ∈ jtbl := jtb3 66 rfl rfl
set_option maxRecDepth 100000 in
theorem jk_5_190 : Cond.constantLong "TwoSeek$Reader" 190 (48) ∈ jtbl := jtb3 67 rfl rfl
set_option maxRecDepth 100000 in
theorem jo_6_3 : Cond.methodLink "TwoSeek$Rows" 3 objectInit ∈ jtbl := jtb2 30 rfl rfl
set_option maxRecDepth 100000 in
theorem jf_6_11 : jfl "TwoSeek$Rows" 11 5 6 := ⟨_, rfl, by decide, rfl, Or.inl (jtb2 41 rfl rfl)⟩
set_option maxRecDepth 100000 in
theorem jf_6_15 : jfl "TwoSeek$Rows" 15 5 7 := ⟨_, rfl, by decide, rfl, Or.inl (jtb2 42 rfl rfl)⟩
set_option maxRecDepth 100000 in
theorem jf_6_20 : jfl "TwoSeek$Rows" 20 5 8 := ⟨_, rfl, by decide, rfl, Or.inl (jtb2 43 rfl rfl)⟩
set_option maxRecDepth 100000 in
theorem jf_6_23 : jfl "TwoSeek$Rows" 23 5 9 := ⟨_, rfl, by decide, rfl, Or.inl (jtb2 44 rfl rfl)⟩
set_option maxRecDepth 100000 in
theorem jf_6_26 : jfl "TwoSeek$Rows" 26 5 0 := ⟨_, rfl, by decide, rfl, Or.inl (jtb2 32 rfl rfl)⟩
set_option maxRecDepth 100000 in
theorem jf_6_30 : jfl "TwoSeek$Rows" 30 5 1 := ⟨_, rfl, by decide, rfl, Or.inl (jtb2 33 rfl rfl)⟩
set_option maxRecDepth 100000 in
theorem jf_6_34 : jfl "TwoSeek$Rows" 34 5 3 := ⟨_, rfl, by decide, rfl, Or.inl (jtb2 35 rfl rfl)⟩
set_option maxRecDepth 100000 in
theorem jl_6_38 : jml "TwoSeek$Rows" 38 67 := jtb4 164 rfl rfl
set_option maxRecDepth 100000 in
theorem jk_6_42 : Cond.constant "TwoSeek$Rows" 42 (1000000) ∈ jtbl := jtb4 189 rfl rfl
set_option maxRecDepth 100000 in
theorem jl_6_43 : jml "TwoSeek$Rows" 43 99 := jtb4 190 rfl rfl
set_option maxRecDepth 100000 in
theorem jl_6_49 : jml "TwoSeek$Rows" 49 70 := jtb4 191 rfl rfl
set_option maxRecDepth 100000 in
theorem jl_6_53 : jml "TwoSeek$Rows" 53 69 := jtb4 207 rfl rfl
set_option maxRecDepth 100000 in
theorem jl_6_57 : jml "TwoSeek$Rows" 57 34 := jtb4 168 rfl rfl
set_option maxRecDepth 100000 in
theorem jl_6_63 : jml "TwoSeek$Rows" 63 87 := jtb4 181 rfl rfl
set_option maxRecDepth 100000 in
theorem jf_6_67 : jfl "TwoSeek$Rows" 67 5 2 := ⟨_, rfl, by decide, rfl, Or.inl (jtb2 34 rfl rfl)⟩
set_option maxRecDepth 100000 in
theorem jk_6_70 : Cond.constant "TwoSeek$Rows" 70 (2147483647) ∈ jtbl := jtb4 187 rfl rfl
set_option maxRecDepth 100000 in
theorem jf_6_71 : jfl "TwoSeek$Rows" 71 5 4 := ⟨_, rfl, by decide, rfl, Or.inl (jtb2 37 rfl rfl)⟩
set_option maxRecDepth 100000 in
theorem jf_6_74 : jfl "TwoSeek$Rows" 74 5 5 := ⟨_, rfl, by decide, rfl, Or.inl (jtb2 39 rfl rfl)⟩
set_option maxRecDepth 100000 in
theorem jl_6_77 : jml "TwoSeek$Rows" 77 84 := jtb4 188 rfl rfl
set_option maxRecDepth 100000 in
theorem jl_6_81 : jml "TwoSeek$Rows" 81 68 := jtb4 195 rfl rfl
set_option maxRecDepth 100000 in
theorem jl_6_85 : jml "TwoSeek$Rows" 85 37 := jtb4 211 rfl rfl
set_option maxRecDepth 100000 in
theorem jl_6_88 : jml "TwoSeek$Rows" 88 38 := jtb4 199 rfl rfl
set_option maxRecDepth 100000 in
theorem jl_6_92 : jml "TwoSeek$Rows" 92 71 := jtb4 203 rfl rfl
set_option maxRecDepth 100000 in
theorem jo_7_3 : Cond.methodLink "TwoSeek$Town" 3 objectInit ∈ jtbl := jtb1 96 rfl rfl
set_option maxRecDepth 100000 in
theorem jf_7_9 : jfl "TwoSeek$Town" 9 6 3 := ⟨_, rfl, by decide, rfl, Or.inl (jtb1 106 rfl rfl)⟩
set_option maxRecDepth 100000 in
theorem jf_7_15 : jfl "TwoSeek$Town" 15 6 6 := ⟨_, rfl, by decide, rfl, Or.inl (jtb1 113 rfl rfl)⟩
set_option maxRecDepth 100000 in
theorem jf_7_19 : jfl "TwoSeek$Town" 19 6 7 := ⟨_, rfl, by decide, rfl, Or.inl (jtb1 114 rfl rfl)⟩
set_option maxRecDepth 100000 in
theorem jf_7_23 : jfl "TwoSeek$Town" 23 6 8 := ⟨_, rfl, by decide, rfl, Or.inl (jtb1 115 rfl rfl)⟩
set_option maxRecDepth 100000 in
theorem jf_7_26 : jfl "TwoSeek$Town" 26 6 9 := ⟨_, rfl, by decide, rfl, Or.inl (jtb1 116 rfl rfl)⟩
set_option maxRecDepth 100000 in
theorem jf_7_29 : jfl "TwoSeek$Town" 29 6 10 := ⟨_, rfl, by decide, rfl, Or.inl (jtb1 117 rfl rfl)⟩
set_option maxRecDepth 100000 in
theorem jf_7_32 : jfl "TwoSeek$Town" 32 6 11 := ⟨_, rfl, by decide, rfl, Or.inl (jtb1 118 rfl rfl)⟩
set_option maxRecDepth 100000 in
theorem jf_7_35 : jfl "TwoSeek$Town" 35 6 12 := ⟨_, rfl, by decide, rfl, Or.inl (jtb1 119 rfl rfl)⟩
set_option maxRecDepth 100000 in
theorem jf_7_38 : jfl "TwoSeek$Town" 38 6 13 := ⟨_, rfl, by decide, rfl, Or.inl (jtb1 120 rfl rfl)⟩
set_option maxRecDepth 100000 in
theorem jf_7_42 : jfl "TwoSeek$Town" 42 6 14 := ⟨_, rfl, by decide, rfl, Or.inl (jtb1 121 rfl rfl)⟩
set_option maxRecDepth 100000 in
theorem jf_7_45 : jfl "TwoSeek$Town" 45 6 15 := ⟨_, rfl, by decide, rfl, Or.inl (jtb1 122 rfl rfl)⟩
set_option maxRecDepth 100000 in
theorem jf_7_48 : jfl "TwoSeek$Town" 48 6 0 := ⟨_, rfl, by decide, rfl, Or.inl (jtb1 97 rfl rfl)⟩
set_option maxRecDepth 100000 in
theorem jf_7_51 : jfl "TwoSeek$Town" 51 6 1 := ⟨_, rfl, by decide, rfl, Or.inl (jtb1 101 rfl rfl)⟩
set_option maxRecDepth 100000 in
theorem jf_7_54 : jfl "TwoSeek$Town" 54 6 2 := ⟨_, rfl, by decide, rfl, Or.inl (jtb1 104 rfl rfl)⟩
set_option maxRecDepth 100000 in
theorem jf_7_58 : jfl "TwoSeek$Town" 58 6 4 := ⟨_, rfl, by decide, rfl, Or.inl (jtb1 108 rfl rfl)⟩
set_option maxRecDepth 100000 in
theorem jf_7_61 : jfl "TwoSeek$Town" 61 6 5 := ⟨_, rfl, by decide, rfl, Or.inl (jtb1 110 rfl rfl)⟩
set_option maxRecDepth 100000 in
theorem jl_7_64 : jml "TwoSeek$Town" 64 79 := jtb3 117 rfl rfl
set_option maxRecDepth 100000 in
theorem jl_7_68 : jml "TwoSeek$Town" 68 81 := jtb3 145 rfl rfl
set_option maxRecDepth 100000 in
theorem jl_7_71 : jml "TwoSeek$Town" 71 78 := jtb3 146 rfl rfl
set_option maxRecDepth 100000 in
theorem jl_7_75 : jml "TwoSeek$Town" 75 88 := jtb3 137 rfl rfl
set_option maxRecDepth 100000 in
theorem jl_7_79 : jml "TwoSeek$Town" 79 84 := jtb4 109 rfl rfl
set_option maxRecDepth 100000 in
theorem jl_7_82 : jml "TwoSeek$Town" 82 86 := jtb4 185 rfl rfl
set_option maxRecDepth 100000 in
theorem jl_7_86 : jml "TwoSeek$Town" 86 294 := jtb4 186 rfl rfl
set_option maxRecDepth 100000 in
theorem jl_7_91 : jml "TwoSeek$Town" 91 92 := jtb3 190 rfl rfl
set_option maxRecDepth 100000 in
theorem jl_7_94 : jml "TwoSeek$Town" 94 80 := jtb3 178 rfl rfl
set_option maxRecDepth 100000 in
theorem jl_7_97 : jml "TwoSeek$Town" 97 93 := jtb3 237 rfl rfl
set_option maxRecDepth 100000 in
theorem jl_7_100 : jml "TwoSeek$Town" 100 90 := jtb3 174 rfl rfl
set_option maxRecDepth 100000 in
theorem jl_7_103 : jml "TwoSeek$Town" 103 94 := jtb3 182 rfl rfl
set_option maxRecDepth 100000 in
theorem jl_7_106 : jml "TwoSeek$Town" 106 89 := jtb3 186 rfl rfl
set_option maxRecDepth 100000 in
theorem jl_7_109 : jml "TwoSeek$Town" 109 95 := jtb3 194 rfl rfl
set_option maxRecDepth 100000 in
theorem jl_7_113 : jml "TwoSeek$Town" 113 96 := jtb3 198 rfl rfl
set_option maxRecDepth 100000 in
theorem jo_8_3 : Cond.methodLink "TwoSeek$Trays" 3 objectInit ∈ jtbl := jtb1 30 rfl rfl
set_option maxRecDepth 100000 in
theorem jf_8_13 : jfl "TwoSeek$Trays" 13 7 0 := ⟨_, rfl, by decide, rfl, Or.inl (jtb1 33 rfl rfl)⟩
set_option maxRecDepth 100000 in
theorem jf_8_16 : jfl "TwoSeek$Trays" 16 7 1 := ⟨_, rfl, by decide, rfl, Or.inl (jtb1 34 rfl rfl)⟩
set_option maxRecDepth 100000 in
theorem jf_8_20 : jfl "TwoSeek$Trays" 20 7 2 := ⟨_, rfl, by decide, rfl, Or.inl (jtb1 35 rfl rfl)⟩
set_option maxRecDepth 100000 in
theorem jl_8_23 : jml "TwoSeek$Trays" 23 102 := jtb2 191 rfl rfl
set_option maxRecDepth 100000 in
theorem jl_8_27 : jml "TwoSeek$Trays" 27 104 := jtb2 204 rfl rfl
set_option maxRecDepth 100000 in
theorem jl_8_30 : jml "TwoSeek$Trays" 30 108 := jtb2 208 rfl rfl
set_option maxRecDepth 100000 in
theorem jl_8_34 : jml "TwoSeek$Trays" 34 106 := jtb2 212 rfl rfl
set_option maxRecDepth 100000 in
theorem jl_8_38 : jml "TwoSeek$Trays" 38 113 := jtb2 220 rfl rfl
set_option maxRecDepth 100000 in
theorem jl_8_42 : jml "TwoSeek$Trays" 42 111 := jtb3 12 rfl rfl
set_option maxRecDepth 100000 in
theorem jl_8_46 : jml "TwoSeek$Trays" 46 112 := jtb3 13 rfl rfl
set_option maxRecDepth 100000 in
theorem jo_9_3 : Cond.methodLink "TwoSeek$Walk" 3 objectInit ∈ jtbl := jtb1 182 rfl rfl
set_option maxRecDepth 100000 in
theorem jf_9_9 : jfl "TwoSeek$Walk" 9 8 3 := ⟨_, rfl, by decide, rfl, Or.inl (jtb1 207 rfl rfl)⟩
set_option maxRecDepth 100000 in
theorem jn_9_15 : Cond.classLink "TwoSeek$Walk" 15 RX9 ∈ jtbl ∧ Cond.instantiable RX9 4 ∈ jtbl ∧ Cond.initialized RX9 ∈ jtbl := ⟨jtb1 183 rfl rfl, jtb1 184 rfl rfl, jtb1 7 rfl rfl⟩
set_option maxRecDepth 100000 in
theorem jl_9_17 : jml "TwoSeek$Walk" 17 128 := jtb1 185 rfl rfl
set_option maxRecDepth 100000 in
theorem jf_9_20 : jfl "TwoSeek$Walk" 20 8 0 := ⟨_, rfl, by decide, rfl, Or.inl (jtb1 204 rfl rfl)⟩
set_option maxRecDepth 100000 in
theorem jf_9_24 : jfl "TwoSeek$Walk" 24 8 1 := ⟨_, rfl, by decide, rfl, Or.inl (jtb1 205 rfl rfl)⟩
set_option maxRecDepth 100000 in
theorem jf_9_27 : jfl "TwoSeek$Walk" 27 8 2 := ⟨_, rfl, by decide, rfl, Or.inl (jtb1 206 rfl rfl)⟩
set_option maxRecDepth 100000 in
theorem jl_9_30 : jml "TwoSeek$Walk" 30 129 := jtb4 49 rfl rfl
set_option maxRecDepth 100000 in
theorem jf_9_34 : jfl "TwoSeek$Walk" 34 9 3 := ⟨_, rfl, by decide, rfl, Or.inr ⟨_, jtn1 193 rfl rfl⟩⟩
set_option maxRecDepth 100000 in
theorem jl_9_38 : jml "TwoSeek$Walk" 38 99 := jtb4 53 rfl rfl
set_option maxRecDepth 100000 in
theorem jl_9_44 : jml "TwoSeek$Walk" 44 118 := jtb4 57 rfl rfl
set_option maxRecDepth 100000 in
theorem jl_9_48 : jml "TwoSeek$Walk" 48 100 := jtb4 93 rfl rfl
set_option maxRecDepth 100000 in
theorem jl_9_52 : jml "TwoSeek$Walk" 52 97 := jtb4 61 rfl rfl
set_option maxRecDepth 100000 in
theorem jl_9_56 : jml "TwoSeek$Walk" 56 98 := jtb4 65 rfl rfl
set_option maxRecDepth 100000 in
theorem jl_9_60 : jml "TwoSeek$Walk" 60 130 := jtb4 69 rfl rfl
set_option maxRecDepth 100000 in
theorem jl_9_64 : jml "TwoSeek$Walk" 64 119 := jtb4 88 rfl rfl
set_option maxRecDepth 100000 in
theorem jf_9_68 : jfl "TwoSeek$Walk" 68 6 5 := ⟨_, rfl, by decide, rfl, Or.inr ⟨_, jtn1 111 rfl rfl⟩⟩
set_option maxRecDepth 100000 in
theorem jl_9_72 : jml "TwoSeek$Walk" 72 92 := jtb4 92 rfl rfl
set_option maxRecDepth 100000 in
theorem jf_9_75 : jfl "TwoSeek$Walk" 75 8 4 := ⟨_, rfl, by decide, rfl, Or.inl (jtb1 208 rfl rfl)⟩
set_option maxRecDepth 100000 in
theorem jf_9_78 : jfl "TwoSeek$Walk" 78 8 5 := ⟨_, rfl, by decide, rfl, Or.inl (jtb1 210 rfl rfl)⟩
set_option maxRecDepth 100000 in
theorem jf_9_81 : jfl "TwoSeek$Walk" 81 6 0 := ⟨_, rfl, by decide, rfl, Or.inr ⟨_, jtn1 99 rfl rfl⟩⟩
set_option maxRecDepth 100000 in
theorem jl_9_84 : jml "TwoSeek$Walk" 84 84 := jtb4 117 rfl rfl
set_option maxRecDepth 100000 in
theorem jl_9_87 : jml "TwoSeek$Walk" 87 117 := jtb4 118 rfl rfl
set_option maxRecDepth 100000 in
theorem jl_9_91 : jml "TwoSeek$Walk" 91 294 := jtb4 119 rfl rfl
set_option maxRecDepth 100000 in
theorem jl_9_96 : jml "TwoSeek$Walk" 96 123 := jtb5 73 rfl rfl
set_option maxRecDepth 100000 in
theorem jl_9_100 : jml "TwoSeek$Walk" 100 124 := jtb5 77 rfl rfl
set_option maxRecDepth 100000 in
theorem jl_9_103 : jml "TwoSeek$Walk" 103 126 := jtb5 180 rfl rfl
set_option maxRecDepth 100000 in
theorem jl_9_107 : jml "TwoSeek$Walk" 107 127 := jtb5 185 rfl rfl
set_option maxRecDepth 100000 in
theorem jk_9_110 : Cond.constant "TwoSeek$Walk" 110 (1103515245) ∈ jtbl := jtb5 183 rfl rfl
set_option maxRecDepth 100000 in
theorem jk_9_111 : Cond.constant "TwoSeek$Walk" 111 (2147483647) ∈ jtbl := jtb5 184 rfl rfl
set_option maxRecDepth 100000 in
theorem jk_9_112 : Cond.constant "TwoSeek$Walk" 112 (65536) ∈ jtbl := jtb5 188 rfl rfl
set_option maxRecDepth 100000 in
theorem jo_10_1 : Cond.methodLink "TwoSeek$Walker" 1 objectInit ∈ jtbl := jtb1 188 rfl rfl
set_option maxRecDepth 100000 in
theorem jf_10_7 : jfl "TwoSeek$Walker" 7 9 0 := ⟨_, rfl, by decide, rfl, Or.inl (jtb1 189 rfl rfl)⟩
set_option maxRecDepth 100000 in
theorem jf_10_13 : jfl "TwoSeek$Walker" 13 9 1 := ⟨_, rfl, by decide, rfl, Or.inl (jtb1 190 rfl rfl)⟩
set_option maxRecDepth 100000 in
theorem jf_10_17 : jfl "TwoSeek$Walker" 17 9 2 := ⟨_, rfl, by decide, rfl, Or.inl (jtb1 191 rfl rfl)⟩
set_option maxRecDepth 100000 in
theorem jf_10_20 : jfl "TwoSeek$Walker" 20 9 3 := ⟨_, rfl, by decide, rfl, Or.inl (jtb1 192 rfl rfl)⟩
set_option maxRecDepth 100000 in
theorem jl_10_23 : jml "TwoSeek$Walker" 23 83 := jtb4 73 rfl rfl
set_option maxRecDepth 100000 in
theorem jl_10_29 : jml "TwoSeek$Walker" 29 136 := jtb4 74 rfl rfl
set_option maxRecDepth 100000 in
theorem jl_10_35 : jml "TwoSeek$Walker" 35 137 := jtb4 83 rfl rfl
set_option maxRecDepth 100000 in
theorem jl_10_38 : jml "TwoSeek$Walker" 38 92 := jtb4 87 rfl rfl
set_option maxRecDepth 100000 in
theorem jo_11_5 : Cond.methodLink "TwoSeek$Ways" 5 objectInit ∈ jtbl := jtb1 162 rfl rfl
set_option maxRecDepth 100000 in
theorem jf_11_11 : jfl "TwoSeek$Ways" 11 10 1 := ⟨_, rfl, by decide, rfl, Or.inl (jtb1 165 rfl rfl)⟩
set_option maxRecDepth 100000 in
theorem jf_11_15 : jfl "TwoSeek$Ways" 15 10 2 := ⟨_, rfl, by decide, rfl, Or.inl (jtb1 166 rfl rfl)⟩
set_option maxRecDepth 100000 in
theorem jf_11_19 : jfl "TwoSeek$Ways" 19 10 3 := ⟨_, rfl, by decide, rfl, Or.inl (jtb1 167 rfl rfl)⟩
set_option maxRecDepth 100000 in
theorem jf_11_22 : jfl "TwoSeek$Ways" 22 10 0 := ⟨_, rfl, by decide, rfl, Or.inl (jtb1 163 rfl rfl)⟩
set_option maxRecDepth 100000 in
theorem jl_11_26 : jml "TwoSeek$Ways" 26 111 := jtb4 28 rfl rfl
set_option maxRecDepth 100000 in
theorem jl_11_32 : jml "TwoSeek$Ways" 32 132 := jtb4 78 rfl rfl
set_option maxRecDepth 100000 in
theorem jl_11_36 : jml "TwoSeek$Ways" 36 135 := jtb4 79 rfl rfl
set_option maxRecDepth 100000 in
theorem jo_0_3 : Cond.methodLink "TwoSeek" 3 objectInit ∈ jtbl := jtb1 22 rfl rfl
set_option maxRecDepth 100000 in
theorem jf_0_9 : jfl "TwoSeek" 9 11 0 := ⟨_, rfl, by decide, rfl, Or.inl (jtb2 116 rfl rfl)⟩
set_option maxRecDepth 100000 in
theorem jf_0_13 : jfl "TwoSeek" 13 11 1 := ⟨_, rfl, by decide, rfl, Or.inl (jtb2 117 rfl rfl)⟩
set_option maxRecDepth 100000 in
theorem jf_0_17 : jfl "TwoSeek" 17 11 2 := ⟨_, rfl, by decide, rfl, Or.inl (jtb2 118 rfl rfl)⟩
set_option maxRecDepth 100000 in
theorem jn_0_20 : Cond.classLink "TwoSeek" 20 RX7 ∈ jtbl ∧ Cond.instantiable RX7 3 ∈ jtbl ∧ Cond.initialized RX7 ∈ jtbl := ⟨jtb1 25 rfl rfl, jtb1 26 rfl rfl, jtb1 2 rfl rfl⟩
set_option maxRecDepth 100000 in
theorem jl_0_22 : jml "TwoSeek" 22 101 := jtb1 27 rfl rfl
set_option maxRecDepth 100000 in
theorem jf_0_23 : jfl "TwoSeek" 23 11 3 := ⟨_, rfl, by decide, rfl, Or.inl (jtb2 119 rfl rfl)⟩
set_option maxRecDepth 100000 in
theorem jn_0_27 : Cond.classLink "TwoSeek" 27 RX4 ∈ jtbl ∧ Cond.instantiable RX4 12 ∈ jtbl ∧ Cond.initialized RX4 ∈ jtbl := ⟨jtb1 45 rfl rfl, jtb1 46 rfl rfl, jtb1 3 rfl rfl⟩
set_option maxRecDepth 100000 in
theorem jl_0_29 : jmlN "TwoSeek" 29 39 := ⟨_, jtn1 47 rfl rfl⟩
set_option maxRecDepth 100000 in
theorem jf_0_30 : jfl "TwoSeek" 30 11 4 := ⟨_, rfl, by decide, rfl, Or.inl (jtb2 120 rfl rfl)⟩
set_option maxRecDepth 100000 in
theorem jn_0_34 : Cond.classLink "TwoSeek" 34 RX6 ∈ jtbl ∧ Cond.instantiable RX6 16 ∈ jtbl ∧ Cond.initialized RX6 ∈ jtbl := ⟨jtb1 91 rfl rfl, jtb1 92 rfl rfl, jtb1 4 rfl rfl⟩
set_option maxRecDepth 100000 in
theorem jl_0_36 : jmlN "TwoSeek" 36 72 := ⟨_, jtn1 93 rfl rfl⟩
set_option maxRecDepth 100000 in
theorem jf_0_37 : jfl "TwoSeek" 37 11 5 := ⟨_, rfl, by decide, rfl, Or.inl (jtb2 121 rfl rfl)⟩
set_option maxRecDepth 100000 in
theorem jf_0_41 : jfl "TwoSeek" 41 11 6 := ⟨_, rfl, by decide, rfl, Or.inl (jtb2 122 rfl rfl)⟩
set_option maxRecDepth 100000 in
theorem jn_0_44 : Cond.classLink "TwoSeek" 44 RX10 ∈ jtbl ∧ Cond.instantiable RX10 4 ∈ jtbl ∧ Cond.initialized RX10 ∈ jtbl := ⟨jtb1 157 rfl rfl, jtb1 158 rfl rfl, jtb1 5 rfl rfl⟩
set_option maxRecDepth 100000 in
theorem jl_0_46 : jmlN "TwoSeek" 46 131 := ⟨_, jtn1 159 rfl rfl⟩
set_option maxRecDepth 100000 in
theorem jf_0_47 : jfl "TwoSeek" 47 11 7 := ⟨_, rfl, by decide, rfl, Or.inl (jtb2 123 rfl rfl)⟩
set_option maxRecDepth 100000 in
theorem jn_0_51 : Cond.classLink "TwoSeek" 51 RX8 ∈ jtbl ∧ Cond.instantiable RX8 6 ∈ jtbl ∧ Cond.initialized RX8 ∈ jtbl := ⟨jtb1 177 rfl rfl, jtb1 178 rfl rfl, jtb1 6 rfl rfl⟩
set_option maxRecDepth 100000 in
theorem jl_0_53 : jml "TwoSeek" 53 116 := jtb1 179 rfl rfl
set_option maxRecDepth 100000 in
theorem jf_0_56 : jfl "TwoSeek" 56 11 8 := ⟨_, rfl, by decide, rfl, Or.inl (jtb2 124 rfl rfl)⟩
set_option maxRecDepth 100000 in
theorem jn_0_60 : Cond.classLink "TwoSeek" 60 RX1 ∈ jtbl ∧ Cond.instantiable RX1 5 ∈ jtbl ∧ Cond.initialized RX1 ∈ jtbl := ⟨jtb1 225 rfl rfl, jtb1 226 rfl rfl, jtb1 8 rfl rfl⟩
set_option maxRecDepth 100000 in
theorem jl_0_62 : jmlN "TwoSeek" 62 16 := ⟨_, jtn1 227 rfl rfl⟩
set_option maxRecDepth 100000 in
theorem jf_0_63 : jfl "TwoSeek" 63 11 9 := ⟨_, rfl, by decide, rfl, Or.inl (jtb2 125 rfl rfl)⟩
set_option maxRecDepth 100000 in
theorem jn_0_67 : Cond.classLink "TwoSeek" 67 RX3 ∈ jtbl ∧ Cond.instantiable RX3 3 ∈ jtbl ∧ Cond.initialized RX3 ∈ jtbl := ⟨jtb2 7 rfl rfl, jtb2 8 rfl rfl, jtb1 9 rfl rfl⟩
set_option maxRecDepth 100000 in
theorem jl_0_69 : jmlN "TwoSeek" 69 33 := ⟨_, jtn2 9 rfl rfl⟩
set_option maxRecDepth 100000 in
theorem jn_0_70 : Cond.classLink "TwoSeek" 70 RX5 ∈ jtbl ∧ Cond.instantiable RX5 10 ∈ jtbl ∧ Cond.initialized RX5 ∈ jtbl := ⟨jtb2 25 rfl rfl, jtb2 26 rfl rfl, jtb1 10 rfl rfl⟩
set_option maxRecDepth 100000 in
theorem jl_0_72 : jml "TwoSeek" 72 64 := jtb2 27 rfl rfl
set_option maxRecDepth 100000 in
theorem jf_0_75 : jfl "TwoSeek" 75 11 10 := ⟨_, rfl, by decide, rfl, Or.inl (jtb2 126 rfl rfl)⟩
set_option maxRecDepth 100000 in
theorem jf_0_79 : jfl "TwoSeek" 79 11 11 := ⟨_, rfl, by decide, rfl, Or.inl (jtb2 127 rfl rfl)⟩
set_option maxRecDepth 100000 in
theorem jn_0_82 : Cond.classLink "TwoSeek" 82 RX2 ∈ jtbl ∧ Cond.instantiable RX2 5 ∈ jtbl ∧ Cond.initialized RX2 ∈ jtbl := ⟨jtb2 66 rfl rfl, jtb2 67 rfl rfl, jtb1 11 rfl rfl⟩
set_option maxRecDepth 100000 in
theorem jl_0_84 : jml "TwoSeek" 84 26 := jtb2 68 rfl rfl
set_option maxRecDepth 100000 in
theorem jf_0_85 : jfl "TwoSeek" 85 11 12 := ⟨_, rfl, by decide, rfl, Or.inl (jtb2 128 rfl rfl)⟩
set_option maxRecDepth 100000 in
theorem jn_0_89 : Cond.classLink "TwoSeek" 89 RX0 ∈ jtbl ∧ Cond.instantiable RX0 6 ∈ jtbl ∧ Cond.initialized RX0 ∈ jtbl := ⟨jtb2 90 rfl rfl, jtb2 91 rfl rfl, jtb1 12 rfl rfl⟩
set_option maxRecDepth 100000 in
theorem jl_0_91 : jmlN "TwoSeek" 91 0 := ⟨_, jtn2 92 rfl rfl⟩
set_option maxRecDepth 100000 in
theorem jf_0_92 : jfl "TwoSeek" 92 11 13 := ⟨_, rfl, by decide, rfl, Or.inl (jtb2 129 rfl rfl)⟩
set_option maxRecDepth 100000 in
theorem jl_0_96 : jml "TwoSeek" 96 102 := jtb2 175 rfl rfl
set_option maxRecDepth 100000 in
theorem jl_0_100 : jml "TwoSeek" 100 103 := jtb2 179 rfl rfl
set_option maxRecDepth 100000 in
theorem jl_0_103 : jml "TwoSeek" 103 173 := jtb2 183 rfl rfl
set_option maxRecDepth 100000 in
theorem jl_0_106 : jml "TwoSeek" 106 110 := jtb2 187 rfl rfl
set_option maxRecDepth 100000 in
theorem jl_0_110 : jml "TwoSeek" 110 175 := jtb2 192 rfl rfl
set_option maxRecDepth 100000 in
theorem jl_0_114 : jml "TwoSeek" 114 107 := jtb2 200 rfl rfl
set_option maxRecDepth 100000 in
theorem jl_0_118 : jml "TwoSeek" 118 112 := jtb2 216 rfl rfl
set_option maxRecDepth 100000 in
theorem jl_0_122 : jml "TwoSeek" 122 174 := jtb2 227 rfl rfl
set_option maxRecDepth 100000 in
theorem jl_0_126 : jml "TwoSeek" 126 111 := jtb2 231 rfl rfl
set_option maxRecDepth 100000 in
theorem jl_0_130 : jml "TwoSeek" 130 104 := jtb2 239 rfl rfl
set_option maxRecDepth 100000 in
theorem jl_0_133 : jml "TwoSeek" 133 105 := jtb3 0 rfl rfl
set_option maxRecDepth 100000 in
theorem jl_0_136 : jml "TwoSeek" 136 109 := jtb3 4 rfl rfl
set_option maxRecDepth 100000 in
theorem jl_0_140 : jml "TwoSeek" 140 114 := jtb3 8 rfl rfl
set_option maxRecDepth 100000 in
theorem jl_0_144 : jml "TwoSeek" 144 40 := jtb3 18 rfl rfl
set_option maxRecDepth 100000 in
theorem jl_0_147 : jml "TwoSeek" 147 41 := jtb3 22 rfl rfl
set_option maxRecDepth 100000 in
theorem jf_0_151 : jfl "TwoSeek" 151 4 1 := ⟨_, rfl, by decide, rfl, Or.inr ⟨_, jtn1 53 rfl rfl⟩⟩
set_option maxRecDepth 100000 in
theorem jl_0_154 : jml "TwoSeek" 154 42 := jtb3 30 rfl rfl
set_option maxRecDepth 100000 in
theorem jf_0_158 : jfl "TwoSeek" 158 6 0 := ⟨_, rfl, by decide, rfl, Or.inr ⟨_, jtn1 100 rfl rfl⟩⟩
set_option maxRecDepth 100000 in
theorem jl_0_161 : jml "TwoSeek" 161 176 := jtb3 202 rfl rfl
set_option maxRecDepth 100000 in
theorem jf_0_164 : jfl "TwoSeek" 164 4 2 := ⟨_, rfl, by decide, rfl, Or.inr ⟨_, jtn1 55 rfl rfl⟩⟩
set_option maxRecDepth 100000 in
theorem jf_0_167 : jfl "TwoSeek" 167 4 3 := ⟨_, rfl, by decide, rfl, Or.inr ⟨_, jtn1 57 rfl rfl⟩⟩
set_option maxRecDepth 100000 in
theorem jf_0_170 : jfl "TwoSeek" 170 6 1 := ⟨_, rfl, by decide, rfl, Or.inr ⟨_, jtn1 103 rfl rfl⟩⟩
set_option maxRecDepth 100000 in
theorem jf_0_173 : jfl "TwoSeek" 173 10 0 := ⟨_, rfl, by decide, rfl, Or.inr ⟨_, jtn1 164 rfl rfl⟩⟩
set_option maxRecDepth 100000 in
theorem jl_0_176 : jml "TwoSeek" 176 79 := jtb3 218 rfl rfl
set_option maxRecDepth 100000 in
theorem jl_0_179 : jml "TwoSeek" 179 83 := jtb3 219 rfl rfl
set_option maxRecDepth 100000 in
theorem jl_0_182 : jml "TwoSeek" 182 86 := jtb3 223 rfl rfl
set_option maxRecDepth 100000 in
theorem jl_0_185 : jml "TwoSeek" 185 88 := jtb3 227 rfl rfl
set_option maxRecDepth 100000 in
theorem jl_0_188 : jml "TwoSeek" 188 80 := jtb3 232 rfl rfl
set_option maxRecDepth 100000 in
theorem jl_0_191 : jml "TwoSeek" 191 91 := jtb3 233 rfl rfl
set_option maxRecDepth 100000 in
theorem jf_0_195 : jfl "TwoSeek" 195 6 5 := ⟨_, rfl, by decide, rfl, Or.inr ⟨_, jtn1 112 rfl rfl⟩⟩
set_option maxRecDepth 100000 in
theorem jl_0_199 : jml "TwoSeek" 199 179 := jtb4 6 rfl rfl
set_option maxRecDepth 100000 in
theorem jl_0_203 : jml "TwoSeek" 203 96 := jtb4 10 rfl rfl
set_option maxRecDepth 100000 in
theorem jl_0_206 : jml "TwoSeek" 206 106 := jtb4 15 rfl rfl
set_option maxRecDepth 100000 in
theorem jl_0_209 : jml "TwoSeek" 209 115 := jtb4 16 rfl rfl
set_option maxRecDepth 100000 in
theorem jl_0_212 : jml "TwoSeek" 212 133 := jtb4 20 rfl rfl
set_option maxRecDepth 100000 in
theorem jl_0_215 : jml "TwoSeek" 215 134 := jtb4 24 rfl rfl
set_option maxRecDepth 100000 in
theorem jl_0_219 : jml "TwoSeek" 219 178 := jtb4 37 rfl rfl
set_option maxRecDepth 100000 in
theorem jl_0_222 : jml "TwoSeek" 222 117 := jtb4 45 rfl rfl
set_option maxRecDepth 100000 in
theorem jl_0_226 : jml "TwoSeek" 226 85 := jtb4 105 rfl rfl
set_option maxRecDepth 100000 in
theorem jl_0_230 : jml "TwoSeek" 230 120 := jtb4 113 rfl rfl
set_option maxRecDepth 100000 in
theorem jf_0_234 : jfl "TwoSeek" 234 8 4 := ⟨_, rfl, by decide, rfl, Or.inr ⟨_, jtn1 209 rfl rfl⟩⟩
set_option maxRecDepth 100000 in
theorem jl_0_237 : jml "TwoSeek" 237 177 := jtb4 122 rfl rfl
set_option maxRecDepth 100000 in
theorem jf_0_241 : jfl "TwoSeek" 241 8 5 := ⟨_, rfl, by decide, rfl, Or.inr ⟨_, jtn1 211 rfl rfl⟩⟩
set_option maxRecDepth 100000 in
theorem jl_0_244 : jml "TwoSeek" 244 17 := jtb4 134 rfl rfl
set_option maxRecDepth 100000 in
theorem jl_0_247 : jml "TwoSeek" 247 182 := jtb4 156 rfl rfl
set_option maxRecDepth 100000 in
theorem jl_0_251 : jml "TwoSeek" 251 183 := jtb4 219 rfl rfl
set_option maxRecDepth 100000 in
theorem jl_0_254 : jml "TwoSeek" 254 21 := jtb4 239 rfl rfl
set_option maxRecDepth 100000 in
theorem jl_0_257 : jml "TwoSeek" 257 23 := jtb5 9 rfl rfl
set_option maxRecDepth 100000 in
theorem jl_0_260 : jml "TwoSeek" 260 27 := jtb5 26 rfl rfl
set_option maxRecDepth 100000 in
theorem jl_0_263 : jml "TwoSeek" 263 28 := jtb5 29 rfl rfl
set_option maxRecDepth 100000 in
theorem jl_0_267 : jml "TwoSeek" 267 31 := jtb5 41 rfl rfl
set_option maxRecDepth 100000 in
theorem jl_0_271 : jml "TwoSeek" 271 30 := jtb5 51 rfl rfl
set_option maxRecDepth 100000 in
theorem jk_0_275 : Cond.constantLong "TwoSeek" 275 (-1) ∈ jtbl := jtb5 60 rfl rfl
set_option maxRecDepth 100000 in
theorem jl_0_277 : jml "TwoSeek" 277 132 := jtb4 41 rfl rfl
set_option maxRecDepth 100000 in
theorem jl_0_280 : jml "TwoSeek" 280 121 := jtb5 65 rfl rfl
set_option maxRecDepth 100000 in
theorem jl_0_284 : jml "TwoSeek" 284 122 := jtb5 69 rfl rfl
set_option maxRecDepth 100000 in
theorem jl_0_288 : jml "TwoSeek" 288 181 := jtb5 85 rfl rfl
set_option maxRecDepth 100000 in
theorem jl_0_291 : jml "TwoSeek" 291 180 := jtb5 88 rfl rfl
set_option maxRecDepth 100000 in
theorem jl_0_294 : jml "TwoSeek" 294 1 := jtb5 92 rfl rfl
set_option maxRecDepth 100000 in
theorem jl_0_298 : jml "TwoSeek" 298 296 := jtb5 96 rfl rfl
set_option maxRecDepth 100000 in
theorem jl_0_303 : jml "TwoSeek" 303 2 := jtb5 97 rfl rfl
set_option maxRecDepth 100000 in
theorem jl_0_306 : jml "TwoSeek" 306 7 := jtb5 101 rfl rfl
set_option maxRecDepth 100000 in
theorem jl_0_309 : jml "TwoSeek" 309 3 := jtb5 150 rfl rfl
set_option maxRecDepth 100000 in
theorem jl_0_313 : jml "TwoSeek" 313 4 := jtb5 154 rfl rfl
set_option maxRecDepth 100000 in
theorem jf_0_316 : jfl "TwoSeek" 316 0 0 := ⟨_, rfl, by decide, rfl, Or.inr ⟨_, jtn2 97 rfl rfl⟩⟩
set_option maxRecDepth 100000 in
theorem jl_0_319 : jml "TwoSeek" 319 5 := jtb5 162 rfl rfl
set_option maxRecDepth 100000 in
theorem jk_0_323 : Cond.constant "TwoSeek" 323 (2147483647) ∈ jtbl := jtb5 170 rfl rfl
set_option maxRecDepth 100000 in
theorem jl_0_324 : jml "TwoSeek" 324 90 := jtb5 171 rfl rfl
set_option maxRecDepth 100000 in
theorem jl_0_327 : jml "TwoSeek" 327 125 := jtb5 176 rfl rfl
set_option maxRecDepth 100000 in
theorem jl_0_331 : jml "TwoSeek" 331 66 := jtb4 160 rfl rfl
set_option maxRecDepth 100000 in
theorem jf_0_335 : jfl "TwoSeek" 335 5 5 := ⟨_, rfl, by decide, rfl, Or.inr ⟨_, jtn2 40 rfl rfl⟩⟩
set_option maxRecDepth 100000 in
theorem jf_0_338 : jfl "TwoSeek" 338 5 4 := ⟨_, rfl, by decide, rfl, Or.inr ⟨_, jtn2 38 rfl rfl⟩⟩
set_option maxRecDepth 100000 in
theorem jf_0_341 : jfl "TwoSeek" 341 5 3 := ⟨_, rfl, by decide, rfl, Or.inr ⟨_, jtn2 36 rfl rfl⟩⟩
set_option maxRecDepth 100000 in
theorem jl_0_344 : jml "TwoSeek" 344 65 := jtb4 223 rfl rfl
set_option maxRecDepth 100000 in
theorem jo_13_1 : Cond.methodLink "TwoSeekModel" 1 objectInit ∈ jtbl := jtb5 194 rfl rfl
set_option maxRecDepth 100000 in
theorem jf_13_7 : jfl "TwoSeekModel" 7 12 3 := ⟨_, rfl, by decide, rfl, Or.inl (jtb5 198 rfl rfl)⟩
set_option maxRecDepth 100000 in
theorem jf_13_13 : jfl "TwoSeekModel" 13 12 4 := ⟨_, rfl, by decide, rfl, Or.inl (jtb5 199 rfl rfl)⟩
set_option maxRecDepth 100000 in
theorem jf_13_17 : jfl "TwoSeekModel" 17 12 5 := ⟨_, rfl, by decide, rfl, Or.inl (jtb5 200 rfl rfl)⟩
set_option maxRecDepth 100000 in
theorem jf_13_20 : jfl "TwoSeekModel" 20 12 6 := ⟨_, rfl, by decide, rfl, Or.inl (jtb5 201 rfl rfl)⟩
set_option maxRecDepth 100000 in
theorem jf_13_24 : jfl "TwoSeekModel" 24 12 7 := ⟨_, rfl, by decide, rfl, Or.inl (jtb5 202 rfl rfl)⟩
set_option maxRecDepth 100000 in
theorem jf_13_28 : jfl "TwoSeekModel" 28 12 10 := ⟨_, rfl, by decide, rfl, Or.inl (jtb5 205 rfl rfl)⟩
set_option maxRecDepth 100000 in
theorem jf_13_32 : jfl "TwoSeekModel" 32 12 11 := ⟨_, rfl, by decide, rfl, Or.inl (jtb5 206 rfl rfl)⟩
set_option maxRecDepth 100000 in
theorem jf_13_35 : jfl "TwoSeekModel" 35 12 24 := ⟨_, rfl, by decide, rfl, Or.inl (jtb5 219 rfl rfl)⟩
set_option maxRecDepth 100000 in
theorem jf_13_38 : jfl "TwoSeekModel" 38 12 31 := ⟨_, rfl, by decide, rfl, Or.inl (jtb5 226 rfl rfl)⟩
set_option maxRecDepth 100000 in
theorem jf_13_41 : jfl "TwoSeekModel" 41 12 32 := ⟨_, rfl, by decide, rfl, Or.inl (jtb5 227 rfl rfl)⟩
set_option maxRecDepth 100000 in
theorem jf_13_44 : jfl "TwoSeekModel" 44 12 33 := ⟨_, rfl, by decide, rfl, Or.inl (jtb5 228 rfl rfl)⟩
set_option maxRecDepth 100000 in
theorem jf_13_47 : jfl "TwoSeekModel" 47 12 34 := ⟨_, rfl, by decide, rfl, Or.inl (jtb5 229 rfl rfl)⟩
set_option maxRecDepth 100000 in
theorem jf_13_50 : jfl "TwoSeekModel" 50 12 35 := ⟨_, rfl, by decide, rfl, Or.inl (jtb5 230 rfl rfl)⟩
set_option maxRecDepth 100000 in
theorem jf_13_53 : jfl "TwoSeekModel" 53 12 36 := ⟨_, rfl, by decide, rfl, Or.inl (jtb5 231 rfl rfl)⟩
set_option maxRecDepth 100000 in
theorem jf_13_56 : jfl "TwoSeekModel" 56 12 37 := ⟨_, rfl, by decide, rfl, Or.inl (jtb5 232 rfl rfl)⟩
set_option maxRecDepth 100000 in
theorem jf_13_59 : jfl "TwoSeekModel" 59 12 38 := ⟨_, rfl, by decide, rfl, Or.inl (jtb5 233 rfl rfl)⟩
set_option maxRecDepth 100000 in
theorem jf_13_62 : jfl "TwoSeekModel" 62 12 39 := ⟨_, rfl, by decide, rfl, Or.inl (jtb5 234 rfl rfl)⟩
set_option maxRecDepth 100000 in
theorem jf_13_65 : jfl "TwoSeekModel" 65 12 40 := ⟨_, rfl, by decide, rfl, Or.inl (jtb5 235 rfl rfl)⟩
set_option maxRecDepth 100000 in
theorem jf_13_68 : jfl "TwoSeekModel" 68 12 41 := ⟨_, rfl, by decide, rfl, Or.inl (jtb5 236 rfl rfl)⟩
set_option maxRecDepth 100000 in
theorem jf_13_72 : jfl "TwoSeekModel" 72 12 42 := ⟨_, rfl, by decide, rfl, Or.inl (jtb5 237 rfl rfl)⟩
set_option maxRecDepth 100000 in
theorem jf_13_75 : jfl "TwoSeekModel" 75 12 44 := ⟨_, rfl, by decide, rfl, Or.inl (jtb5 239 rfl rfl)⟩
set_option maxRecDepth 100000 in
theorem jf_13_78 : jfl "TwoSeekModel" 78 12 45 := ⟨_, rfl, by decide, rfl, Or.inl (jtb6 0 rfl rfl)⟩
set_option maxRecDepth 100000 in
theorem jf_13_81 : jfl "TwoSeekModel" 81 12 46 := ⟨_, rfl, by decide, rfl, Or.inl (jtb6 1 rfl rfl)⟩
set_option maxRecDepth 100000 in
theorem jf_13_84 : jfl "TwoSeekModel" 84 12 47 := ⟨_, rfl, by decide, rfl, Or.inl (jtb6 2 rfl rfl)⟩
set_option maxRecDepth 100000 in
theorem jf_13_87 : jfl "TwoSeekModel" 87 12 48 := ⟨_, rfl, by decide, rfl, Or.inl (jtb6 3 rfl rfl)⟩
set_option maxRecDepth 100000 in
theorem jf_13_90 : jfl "TwoSeekModel" 90 12 49 := ⟨_, rfl, by decide, rfl, Or.inl (jtb6 4 rfl rfl)⟩
set_option maxRecDepth 100000 in
theorem jf_13_93 : jfl "TwoSeekModel" 93 12 50 := ⟨_, rfl, by decide, rfl, Or.inl (jtb6 5 rfl rfl)⟩
set_option maxRecDepth 100000 in
theorem jf_13_96 : jfl "TwoSeekModel" 96 12 51 := ⟨_, rfl, by decide, rfl, Or.inl (jtb6 6 rfl rfl)⟩
set_option maxRecDepth 100000 in
theorem jf_13_99 : jfl "TwoSeekModel" 99 12 55 := ⟨_, rfl, by decide, rfl, Or.inl (jtb6 10 rfl rfl)⟩
set_option maxRecDepth 100000 in
theorem jf_13_102 : jfl "TwoSeekModel" 102 12 56 := ⟨_, rfl, by decide, rfl, Or.inl (jtb6 11 rfl rfl)⟩
set_option maxRecDepth 100000 in
theorem jf_13_105 : jfl "TwoSeekModel" 105 12 57 := ⟨_, rfl, by decide, rfl, Or.inl (jtb6 12 rfl rfl)⟩
set_option maxRecDepth 100000 in
theorem jf_13_108 : jfl "TwoSeekModel" 108 12 58 := ⟨_, rfl, by decide, rfl, Or.inl (jtb6 13 rfl rfl)⟩
set_option maxRecDepth 100000 in
theorem jf_13_111 : jfl "TwoSeekModel" 111 12 59 := ⟨_, rfl, by decide, rfl, Or.inl (jtb6 14 rfl rfl)⟩
set_option maxRecDepth 100000 in
theorem jf_13_114 : jfl "TwoSeekModel" 114 12 62 := ⟨_, rfl, by decide, rfl, Or.inl (jtb6 17 rfl rfl)⟩
set_option maxRecDepth 100000 in
theorem jf_13_117 : jfl "TwoSeekModel" 117 12 65 := ⟨_, rfl, by decide, rfl, Or.inl (jtb6 20 rfl rfl)⟩
set_option maxRecDepth 100000 in
theorem jf_13_120 : jfl "TwoSeekModel" 120 12 66 := ⟨_, rfl, by decide, rfl, Or.inl (jtb6 21 rfl rfl)⟩
set_option maxRecDepth 100000 in
theorem jf_13_123 : jfl "TwoSeekModel" 123 12 67 := ⟨_, rfl, by decide, rfl, Or.inl (jtb6 22 rfl rfl)⟩
set_option maxRecDepth 100000 in
theorem jf_13_126 : jfl "TwoSeekModel" 126 12 68 := ⟨_, rfl, by decide, rfl, Or.inl (jtb6 23 rfl rfl)⟩
set_option maxRecDepth 100000 in
theorem jf_13_129 : jfl "TwoSeekModel" 129 12 69 := ⟨_, rfl, by decide, rfl, Or.inl (jtb6 24 rfl rfl)⟩
set_option maxRecDepth 100000 in
theorem jf_13_132 : jfl "TwoSeekModel" 132 12 70 := ⟨_, rfl, by decide, rfl, Or.inl (jtb6 25 rfl rfl)⟩
set_option maxRecDepth 100000 in
theorem jf_13_135 : jfl "TwoSeekModel" 135 12 71 := ⟨_, rfl, by decide, rfl, Or.inl (jtb6 26 rfl rfl)⟩
set_option maxRecDepth 100000 in
theorem jf_13_138 : jfl "TwoSeekModel" 138 12 74 := ⟨_, rfl, by decide, rfl, Or.inl (jtb6 29 rfl rfl)⟩
set_option maxRecDepth 100000 in
theorem jf_13_141 : jfl "TwoSeekModel" 141 12 75 := ⟨_, rfl, by decide, rfl, Or.inl (jtb6 30 rfl rfl)⟩
set_option maxRecDepth 100000 in
theorem jf_13_144 : jfl "TwoSeekModel" 144 12 1 := ⟨_, rfl, by decide, rfl, Or.inl (jtb5 196 rfl rfl)⟩
set_option maxRecDepth 100000 in
theorem jf_13_147 : jfl "TwoSeekModel" 147 12 0 := ⟨_, rfl, by decide, rfl, Or.inl (jtb5 195 rfl rfl)⟩
set_option maxRecDepth 100000 in
theorem jf_13_150 : jfl "TwoSeekModel" 150 12 2 := ⟨_, rfl, by decide, rfl, Or.inl (jtb5 197 rfl rfl)⟩
set_option maxRecDepth 100000 in
theorem jl_13_153 : jml "TwoSeekModel" 153 293 := jtb8 1 rfl rfl
set_option maxRecDepth 100000 in
theorem jl_13_159 : jml "TwoSeekModel" 159 191 := jtb7 238 rfl rfl
set_option maxRecDepth 100000 in
theorem jl_13_163 : jml "TwoSeekModel" 163 189 := jtb6 210 rfl rfl
set_option maxRecDepth 100000 in
theorem jl_13_167 : jml "TwoSeekModel" 167 195 := jtb6 222 rfl rfl
set_option maxRecDepth 100000 in
theorem jl_13_171 : jml "TwoSeekModel" 171 196 := jtb6 218 rfl rfl
set_option maxRecDepth 100000 in
theorem jl_13_175 : jml "TwoSeekModel" 175 193 := jtb6 226 rfl rfl
set_option maxRecDepth 100000 in
theorem jk_13_179 : Cond.constantLong "TwoSeekModel" 179 (-1) ∈ jtbl := jtb6 233 rfl rfl
set_option maxRecDepth 100000 in
theorem jf_13_181 : jfl "TwoSeekModel" 181 12 9 := ⟨_, rfl, by decide, rfl, Or.inl (jtb5 204 rfl rfl)⟩
set_option maxRecDepth 100000 in
theorem jf_13_184 : jfl "TwoSeekModel" 184 12 16 := ⟨_, rfl, by decide, rfl, Or.inl (jtb5 211 rfl rfl)⟩
set_option maxRecDepth 100000 in
theorem jf_13_187 : jfl "TwoSeekModel" 187 12 15 := ⟨_, rfl, by decide, rfl, Or.inl (jtb5 210 rfl rfl)⟩
set_option maxRecDepth 100000 in
theorem jl_13_190 : jml "TwoSeekModel" 190 201 := jtb7 18 rfl rfl
set_option maxRecDepth 100000 in
theorem jf_13_193 : jfl "TwoSeekModel" 193 12 14 := ⟨_, rfl, by decide, rfl, Or.inl (jtb5 209 rfl rfl)⟩
set_option maxRecDepth 100000 in
theorem jl_13_196 : jml "TwoSeekModel" 196 202 := jtb7 22 rfl rfl
set_option maxRecDepth 100000 in
theorem jf_13_199 : jfl "TwoSeekModel" 199 12 19 := ⟨_, rfl, by decide, rfl, Or.inl (jtb5 214 rfl rfl)⟩
set_option maxRecDepth 100000 in
theorem jk_13_202 : Cond.constantLong "TwoSeekModel" 202 (32) ∈ jtbl := jtb7 25 rfl rfl
set_option maxRecDepth 100000 in
theorem jk_13_204 : Cond.constantLong "TwoSeekModel" 204 (96) ∈ jtbl := jtb7 26 rfl rfl
set_option maxRecDepth 100000 in
theorem jf_13_206 : jfl "TwoSeekModel" 206 12 18 := ⟨_, rfl, by decide, rfl, Or.inl (jtb5 213 rfl rfl)⟩
set_option maxRecDepth 100000 in
theorem jl_13_209 : jml "TwoSeekModel" 209 203 := jtb7 27 rfl rfl
set_option maxRecDepth 100000 in
theorem jf_13_212 : jfl "TwoSeekModel" 212 12 17 := ⟨_, rfl, by decide, rfl, Or.inl (jtb5 212 rfl rfl)⟩
set_option maxRecDepth 100000 in
theorem jl_13_215 : jml "TwoSeekModel" 215 205 := jtb7 34 rfl rfl
set_option maxRecDepth 100000 in
theorem jl_13_219 : jml "TwoSeekModel" 219 206 := jtb7 37 rfl rfl
set_option maxRecDepth 100000 in
theorem jl_13_223 : jml "TwoSeekModel" 223 213 := jtb7 49 rfl rfl
set_option maxRecDepth 100000 in
theorem jl_13_227 : jml "TwoSeekModel" 227 207 := jtb7 30 rfl rfl
set_option maxRecDepth 100000 in
theorem jl_13_231 : jml "TwoSeekModel" 231 208 := jtb7 53 rfl rfl
set_option maxRecDepth 100000 in
theorem jl_13_234 : jml "TwoSeekModel" 234 209 := jtb7 57 rfl rfl
set_option maxRecDepth 100000 in
theorem jl_13_237 : jml "TwoSeekModel" 237 210 := jtb7 61 rfl rfl
set_option maxRecDepth 100000 in
theorem jl_13_240 : jml "TwoSeekModel" 240 211 := jtb7 65 rfl rfl
set_option maxRecDepth 100000 in
theorem jl_13_243 : jml "TwoSeekModel" 243 212 := jtb7 69 rfl rfl
set_option maxRecDepth 100000 in
theorem jf_13_246 : jfl "TwoSeekModel" 246 12 12 := ⟨_, rfl, by decide, rfl, Or.inl (jtb5 207 rfl rfl)⟩
set_option maxRecDepth 100000 in
theorem jf_13_249 : jfl "TwoSeekModel" 249 12 13 := ⟨_, rfl, by decide, rfl, Or.inl (jtb5 208 rfl rfl)⟩
set_option maxRecDepth 100000 in
theorem jl_13_252 : jml "TwoSeekModel" 252 215 := jtb7 77 rfl rfl
set_option maxRecDepth 100000 in
theorem jl_13_256 : jml "TwoSeekModel" 256 204 := jtb7 14 rfl rfl
set_option maxRecDepth 100000 in
theorem jl_13_259 : jml "TwoSeekModel" 259 216 := jtb7 73 rfl rfl
set_option maxRecDepth 100000 in
theorem jl_13_262 : jml "TwoSeekModel" 262 190 := jtb7 89 rfl rfl
set_option maxRecDepth 100000 in
theorem jf_13_266 : jfl "TwoSeekModel" 266 12 22 := ⟨_, rfl, by decide, rfl, Or.inl (jtb5 217 rfl rfl)⟩
set_option maxRecDepth 100000 in
theorem jl_13_269 : jml "TwoSeekModel" 269 214 := jtb7 45 rfl rfl
set_option maxRecDepth 100000 in
theorem jl_13_272 : jml "TwoSeekModel" 272 219 := jtb7 81 rfl rfl
set_option maxRecDepth 100000 in
theorem jl_13_275 : jml "TwoSeekModel" 275 218 := jtb7 85 rfl rfl
set_option maxRecDepth 100000 in
theorem jl_13_278 : jml "TwoSeekModel" 278 217 := jtb7 92 rfl rfl
set_option maxRecDepth 100000 in
theorem jf_13_282 : jfl "TwoSeekModel" 282 12 23 := ⟨_, rfl, by decide, rfl, Or.inl (jtb5 218 rfl rfl)⟩
set_option maxRecDepth 100000 in
theorem jl_13_285 : jml "TwoSeekModel" 285 221 := jtb7 100 rfl rfl
set_option maxRecDepth 100000 in
theorem jf_13_288 : jfl "TwoSeekModel" 288 12 60 := ⟨_, rfl, by decide, rfl, Or.inl (jtb6 15 rfl rfl)⟩
set_option maxRecDepth 100000 in
theorem jf_13_292 : jfl "TwoSeekModel" 292 12 61 := ⟨_, rfl, by decide, rfl, Or.inl (jtb6 16 rfl rfl)⟩
set_option maxRecDepth 100000 in
theorem jf_13_295 : jfl "TwoSeekModel" 295 12 29 := ⟨_, rfl, by decide, rfl, Or.inl (jtb5 224 rfl rfl)⟩
set_option maxRecDepth 100000 in
theorem jf_13_298 : jfl "TwoSeekModel" 298 12 26 := ⟨_, rfl, by decide, rfl, Or.inl (jtb5 221 rfl rfl)⟩
set_option maxRecDepth 100000 in
theorem jf_13_301 : jfl "TwoSeekModel" 301 12 27 := ⟨_, rfl, by decide, rfl, Or.inl (jtb5 222 rfl rfl)⟩
set_option maxRecDepth 100000 in
theorem jf_13_304 : jfl "TwoSeekModel" 304 12 8 := ⟨_, rfl, by decide, rfl, Or.inl (jtb5 203 rfl rfl)⟩
set_option maxRecDepth 100000 in
theorem jl_13_307 : jml "TwoSeekModel" 307 225 := jtb7 2 rfl rfl
set_option maxRecDepth 100000 in
theorem jl_13_311 : jml "TwoSeekModel" 311 188 := jtb7 10 rfl rfl
set_option maxRecDepth 100000 in
theorem jl_13_314 : jml "TwoSeekModel" 314 220 := jtb7 41 rfl rfl
set_option maxRecDepth 100000 in
theorem jl_13_317 : jml "TwoSeekModel" 317 222 := jtb7 96 rfl rfl
set_option maxRecDepth 100000 in
theorem jl_13_320 : jml "TwoSeekModel" 320 223 := jtb7 104 rfl rfl
set_option maxRecDepth 100000 in
theorem jl_13_323 : jml "TwoSeekModel" 323 227 := jtb7 108 rfl rfl
set_option maxRecDepth 100000 in
theorem jf_13_326 : jfl "TwoSeekModel" 326 12 20 := ⟨_, rfl, by decide, rfl, Or.inl (jtb5 215 rfl rfl)⟩
set_option maxRecDepth 100000 in
theorem jf_13_329 : jfl "TwoSeekModel" 329 12 21 := ⟨_, rfl, by decide, rfl, Or.inl (jtb5 216 rfl rfl)⟩
set_option maxRecDepth 100000 in
theorem jf_13_332 : jfl "TwoSeekModel" 332 12 28 := ⟨_, rfl, by decide, rfl, Or.inl (jtb5 223 rfl rfl)⟩
set_option maxRecDepth 100000 in
theorem jf_13_335 : jfl "TwoSeekModel" 335 12 25 := ⟨_, rfl, by decide, rfl, Or.inl (jtb5 220 rfl rfl)⟩
set_option maxRecDepth 100000 in
theorem jf_13_338 : jfl "TwoSeekModel" 338 12 30 := ⟨_, rfl, by decide, rfl, Or.inl (jtb5 225 rfl rfl)⟩
set_option maxRecDepth 100000 in
theorem jf_13_341 : jfl "TwoSeekModel" 341 12 43 := ⟨_, rfl, by decide, rfl, Or.inl (jtb5 238 rfl rfl)⟩
set_option maxRecDepth 100000 in
theorem jl_13_344 : jml "TwoSeekModel" 344 233 := jtb7 133 rfl rfl
set_option maxRecDepth 100000 in
theorem jl_13_347 : jml "TwoSeekModel" 347 235 := jtb7 193 rfl rfl
set_option maxRecDepth 100000 in
theorem jl_13_351 : jml "TwoSeekModel" 351 232 := jtb7 129 rfl rfl
set_option maxRecDepth 100000 in
theorem jl_13_354 : jml "TwoSeekModel" 354 229 := jtb7 124 rfl rfl
set_option maxRecDepth 100000 in
theorem jk_13_357 : Cond.constantLong "TwoSeekModel" 357 (5) ∈ jtbl := jtb7 128 rfl rfl
set_option maxRecDepth 100000 in
theorem jl_13_359 : jml "TwoSeekModel" 359 296 := jtb7 153 rfl rfl
set_option maxRecDepth 100000 in
theorem jl_13_362 : jml "TwoSeekModel" 362 240 := jtb7 149 rfl rfl
set_option maxRecDepth 100000 in
theorem jk_13_365 : Cond.constantLong "TwoSeekModel" 365 (24) ∈ jtbl := jtb7 158 rfl rfl
set_option maxRecDepth 100000 in
theorem jl_13_367 : jml "TwoSeekModel" 367 200 := jtb7 159 rfl rfl
set_option maxRecDepth 100000 in
theorem jk_13_371 : Cond.constantLong "TwoSeekModel" 371 (4) ∈ jtbl := jtb7 163 rfl rfl
set_option maxRecDepth 100000 in
theorem jl_13_373 : jml "TwoSeekModel" 373 243 := jtb7 164 rfl rfl
set_option maxRecDepth 100000 in
theorem jk_13_377 : Cond.constantLong "TwoSeekModel" 377 (14) ∈ jtbl := jtb7 172 rfl rfl
set_option maxRecDepth 100000 in
theorem jl_13_379 : jml "TwoSeekModel" 379 246 := jtb7 185 rfl rfl
set_option maxRecDepth 100000 in
theorem jl_13_382 : jml "TwoSeekModel" 382 247 := jtb7 189 rfl rfl
set_option maxRecDepth 100000 in
theorem jl_13_385 : jml "TwoSeekModel" 385 245 := jtb7 197 rfl rfl
set_option maxRecDepth 100000 in
theorem jl_13_389 : jml "TwoSeekModel" 389 234 := jtb7 201 rfl rfl
set_option maxRecDepth 100000 in
theorem jl_13_392 : jml "TwoSeekModel" 392 248 := jtb7 205 rfl rfl
set_option maxRecDepth 100000 in
theorem jl_13_395 : jml "TwoSeekModel" 395 249 := jtb7 209 rfl rfl
set_option maxRecDepth 100000 in
theorem jl_13_399 : jml "TwoSeekModel" 399 230 := jtb7 177 rfl rfl
set_option maxRecDepth 100000 in
theorem jl_13_402 : jml "TwoSeekModel" 402 250 := jtb7 181 rfl rfl
set_option maxRecDepth 100000 in
theorem jk_13_406 : Cond.constantLong "TwoSeekModel" 406 (3) ∈ jtbl := jtb7 217 rfl rfl
set_option maxRecDepth 100000 in
theorem jl_13_408 : jml "TwoSeekModel" 408 231 := jtb7 230 rfl rfl
set_option maxRecDepth 100000 in
theorem jl_13_411 : jml "TwoSeekModel" 411 253 := jtb7 226 rfl rfl
set_option maxRecDepth 100000 in
theorem jl_13_415 : jml "TwoSeekModel" 415 254 := jtb7 222 rfl rfl
set_option maxRecDepth 100000 in
theorem jl_13_418 : jml "TwoSeekModel" 418 192 := jtb7 234 rfl rfl
set_option maxRecDepth 100000 in
theorem jl_13_422 : jml "TwoSeekModel" 422 294 := jtb8 8 rfl rfl
set_option maxRecDepth 100000 in
theorem jf_13_425 : jfl "TwoSeekModel" 425 12 63 := ⟨_, rfl, by decide, rfl, Or.inl (jtb6 18 rfl rfl)⟩
set_option maxRecDepth 100000 in
theorem jl_13_428 : jml "TwoSeekModel" 428 258 := jtb8 21 rfl rfl
set_option maxRecDepth 100000 in
theorem jf_13_431 : jfl "TwoSeekModel" 431 12 64 := ⟨_, rfl, by decide, rfl, Or.inl (jtb6 19 rfl rfl)⟩
set_option maxRecDepth 100000 in
theorem jl_13_434 : jml "TwoSeekModel" 434 259 := jtb8 17 rfl rfl
set_option maxRecDepth 100000 in
theorem jf_13_438 : jfl "TwoSeekModel" 438 12 52 := ⟨_, rfl, by decide, rfl, Or.inl (jtb6 7 rfl rfl)⟩
set_option maxRecDepth 100000 in
theorem jf_13_441 : jfl "TwoSeekModel" 441 12 53 := ⟨_, rfl, by decide, rfl, Or.inl (jtb6 8 rfl rfl)⟩
set_option maxRecDepth 100000 in
theorem jl_13_444 : jml "TwoSeekModel" 444 265 := jtb8 49 rfl rfl
set_option maxRecDepth 100000 in
theorem jl_13_447 : jml "TwoSeekModel" 447 266 := jtb8 45 rfl rfl
set_option maxRecDepth 100000 in
theorem jl_13_450 : jml "TwoSeekModel" 450 264 := jtb8 41 rfl rfl
set_option maxRecDepth 100000 in
theorem jk_13_453 : Cond.constantLong "TwoSeekModel" 453 (256) ∈ jtbl := jtb8 66 rfl rfl
set_option maxRecDepth 100000 in
theorem jl_13_455 : jml "TwoSeekModel" 455 268 := jtb8 67 rfl rfl
set_option maxRecDepth 100000 in
theorem jk_13_459 : Cond.constantLong "TwoSeekModel" 459 (16) ∈ jtbl := jtb8 61 rfl rfl
set_option maxRecDepth 100000 in
theorem jl_13_461 : jml "TwoSeekModel" 461 270 := jtb8 57 rfl rfl
set_option maxRecDepth 100000 in
theorem jl_13_464 : jml "TwoSeekModel" 464 269 := jtb8 62 rfl rfl
set_option maxRecDepth 100000 in
theorem jl_13_468 : jml "TwoSeekModel" 468 271 := jtb8 71 rfl rfl
set_option maxRecDepth 100000 in
theorem jk_13_472 : Cond.constantLong "TwoSeekModel" 472 (777) ∈ jtbl := jtb8 83 rfl rfl
set_option maxRecDepth 100000 in
theorem jl_13_474 : jml "TwoSeekModel" 474 274 := jtb8 84 rfl rfl
set_option maxRecDepth 100000 in
theorem jf_13_477 : jfl "TwoSeekModel" 477 12 72 := ⟨_, rfl, by decide, rfl, Or.inl (jtb6 27 rfl rfl)⟩
set_option maxRecDepth 100000 in
theorem jf_13_480 : jfl "TwoSeekModel" 480 12 76 := ⟨_, rfl, by decide, rfl, Or.inl (jtb6 31 rfl rfl)⟩
set_option maxRecDepth 100000 in
theorem jf_13_483 : jfl "TwoSeekModel" 483 12 73 := ⟨_, rfl, by decide, rfl, Or.inl (jtb6 28 rfl rfl)⟩
set_option maxRecDepth 100000 in
theorem jl_13_486 : jml "TwoSeekModel" 486 295 := jtb8 113 rfl rfl
set_option maxRecDepth 100000 in
theorem jl_13_488 : jml "TwoSeekModel" 488 278 := jtb8 105 rfl rfl
set_option maxRecDepth 100000 in
theorem jl_13_491 : jml "TwoSeekModel" 491 279 := jtb8 109 rfl rfl
set_option maxRecDepth 100000 in
theorem jf_13_494 : jfl "TwoSeekModel" 494 12 78 := ⟨_, rfl, by decide, rfl, Or.inl (jtb6 33 rfl rfl)⟩
set_option maxRecDepth 100000 in
theorem jf_13_497 : jfl "TwoSeekModel" 497 12 77 := ⟨_, rfl, by decide, rfl, Or.inl (jtb6 32 rfl rfl)⟩
set_option maxRecDepth 100000 in
theorem jl_13_500 : jml "TwoSeekModel" 500 276 := jtb8 120 rfl rfl
set_option maxRecDepth 100000 in
theorem jl_13_504 : jml "TwoSeekModel" 504 277 := jtb8 124 rfl rfl
set_option maxRecDepth 100000 in
theorem jl_13_508 : jml "TwoSeekModel" 508 280 := jtb8 101 rfl rfl
set_option maxRecDepth 100000 in
theorem jl_13_511 : jml "TwoSeekModel" 511 281 := jtb8 116 rfl rfl
set_option maxRecDepth 100000 in
theorem jf_13_514 : jfl "TwoSeekModel" 514 12 54 := ⟨_, rfl, by decide, rfl, Or.inl (jtb6 9 rfl rfl)⟩
set_option maxRecDepth 100000 in
theorem jl_13_517 : jml "TwoSeekModel" 517 283 := jtb8 132 rfl rfl
set_option maxRecDepth 100000 in
theorem jl_13_520 : jml "TwoSeekModel" 520 284 := jtb8 136 rfl rfl
set_option maxRecDepth 100000 in
theorem jk_13_523 : Cond.constantLong "TwoSeekModel" 523 (100) ∈ jtbl := jtb8 96 rfl rfl
set_option maxRecDepth 100000 in
theorem jl_13_525 : jml "TwoSeekModel" 525 286 := jtb8 92 rfl rfl
set_option maxRecDepth 100000 in
theorem jl_13_529 : jml "TwoSeekModel" 529 282 := jtb8 97 rfl rfl
set_option maxRecDepth 100000 in
theorem jl_13_532 : jml "TwoSeekModel" 532 285 := jtb8 128 rfl rfl
set_option maxRecDepth 100000 in
theorem jk_13_535 : Cond.constantLong "TwoSeekModel" 535 (1103515245) ∈ jtbl := jtb8 152 rfl rfl
set_option maxRecDepth 100000 in
theorem jk_13_537 : Cond.constantLong "TwoSeekModel" 537 (12345) ∈ jtbl := jtb8 153 rfl rfl
set_option maxRecDepth 100000 in
theorem jk_13_539 : Cond.constantLong "TwoSeekModel" 539 (2147483648) ∈ jtbl := jtb8 154 rfl rfl
set_option maxRecDepth 100000 in
theorem jk_13_541 : Cond.constantLong "TwoSeekModel" 541 (65536) ∈ jtbl := jtb8 155 rfl rfl
set_option maxRecDepth 100000 in
theorem jk_14_265 : Cond.constant "java/lang/Integer" 265 (1431655765) ∈ jtbl := jtb5 112 rfl rfl
set_option maxRecDepth 100000 in
theorem jk_14_266 : Cond.constant "java/lang/Integer" 266 (858993459) ∈ jtbl := jtb5 113 rfl rfl
set_option maxRecDepth 100000 in
theorem jk_14_267 : Cond.constant "java/lang/Integer" 267 (252645135) ∈ jtbl := jtb5 114 rfl rfl
set_option maxRecDepth 100000 in
theorem jn_12_7 : Cond.classLink "TwoSeekLaw" 7 RX11 ∈ jtbl ∧ Cond.instantiable RX11 14 ∈ jtbl ∧ Cond.initialized RX11 ∈ jtbl := ⟨jtb1 17 rfl rfl, jtb1 18 rfl rfl, jtb1 1 rfl rfl⟩
set_option maxRecDepth 100000 in
theorem jl_12_9 : jml "TwoSeekLaw" 9 138 := jtb1 19 rfl rfl
set_option maxRecDepth 100000 in
theorem jn_12_10 : Cond.classLink "TwoSeekLaw" 10 RX12 ∈ jtbl ∧ Cond.instantiable RX12 79 ∈ jtbl ∧ Cond.initialized RX12 ∈ jtbl := ⟨jtb5 189 rfl rfl, jtb5 190 rfl rfl, jtb1 13 rfl rfl⟩
set_option maxRecDepth 100000 in
theorem jl_12_12 : jml "TwoSeekLaw" 12 184 := jtb5 191 rfl rfl
set_option maxRecDepth 100000 in
theorem jl_12_13 : jml "TwoSeekLaw" 13 139 := jtb2 159 rfl rfl
set_option maxRecDepth 100000 in
theorem jl_12_17 : jml "TwoSeekLaw" 17 185 := jtb6 194 rfl rfl
set_option maxRecDepth 100000 in
theorem jl_12_18 : jml "TwoSeekLaw" 18 140 := jtb2 163 rfl rfl
set_option maxRecDepth 100000 in
theorem jl_12_22 : jml "TwoSeekLaw" 22 186 := jtb6 198 rfl rfl
set_option maxRecDepth 100000 in
theorem jl_12_23 : jml "TwoSeekLaw" 23 141 := jtb2 167 rfl rfl
set_option maxRecDepth 100000 in
theorem jl_12_26 : jml "TwoSeekLaw" 26 187 := jtb6 202 rfl rfl
set_option maxRecDepth 100000 in
theorem jl_12_27 : jml "TwoSeekLaw" 27 142 := jtb2 171 rfl rfl
set_option maxRecDepth 100000 in
theorem jl_12_31 : jml "TwoSeekLaw" 31 194 := jtb6 206 rfl rfl
set_option maxRecDepth 100000 in
theorem jk_12_32 : Cond.constantLong "TwoSeekLaw" 32 (4294967295) ∈ jtbl := jtb8 156 rfl rfl
set_option maxRecDepth 100000 in
theorem jl_12_34 : jml "TwoSeekLaw" 34 143 := jtb2 196 rfl rfl
set_option maxRecDepth 100000 in
theorem jl_12_38 : jml "TwoSeekLaw" 38 197 := jtb6 214 rfl rfl
set_option maxRecDepth 100000 in
theorem jl_12_39 : jml "TwoSeekLaw" 39 144 := jtb2 223 rfl rfl
set_option maxRecDepth 100000 in
theorem jl_12_43 : jml "TwoSeekLaw" 43 198 := jtb6 229 rfl rfl
set_option maxRecDepth 100000 in
theorem jl_12_44 : jml "TwoSeekLaw" 44 145 := jtb2 235 rfl rfl
set_option maxRecDepth 100000 in
theorem jl_12_48 : jml "TwoSeekLaw" 48 199 := jtb6 234 rfl rfl
set_option maxRecDepth 100000 in
theorem jl_12_49 : jml "TwoSeekLaw" 49 146 := jtb3 14 rfl rfl
set_option maxRecDepth 100000 in
theorem jl_12_53 : jml "TwoSeekLaw" 53 224 := jtb6 238 rfl rfl
set_option maxRecDepth 100000 in
theorem jl_12_54 : jml "TwoSeekLaw" 54 147 := jtb3 26 rfl rfl
set_option maxRecDepth 100000 in
theorem jl_12_58 : jml "TwoSeekLaw" 58 226 := jtb7 6 rfl rfl
set_option maxRecDepth 100000 in
theorem jl_12_59 : jml "TwoSeekLaw" 59 148 := jtb3 206 rfl rfl
set_option maxRecDepth 100000 in
theorem jl_12_62 : jml "TwoSeekLaw" 62 228 := jtb7 112 rfl rfl
set_option maxRecDepth 100000 in
theorem jl_12_63 : jml "TwoSeekLaw" 63 149 := jtb3 210 rfl rfl
set_option maxRecDepth 100000 in
theorem jl_12_66 : jml "TwoSeekLaw" 66 236 := jtb7 116 rfl rfl
set_option maxRecDepth 100000 in
theorem jl_12_67 : jml "TwoSeekLaw" 67 150 := jtb3 214 rfl rfl
set_option maxRecDepth 100000 in
theorem jl_12_71 : jml "TwoSeekLaw" 71 237 := jtb7 120 rfl rfl
set_option maxRecDepth 100000 in
theorem jl_12_72 : jml "TwoSeekLaw" 72 151 := jtb3 228 rfl rfl
set_option maxRecDepth 100000 in
theorem jl_12_76 : jml "TwoSeekLaw" 76 238 := jtb7 137 rfl rfl
set_option maxRecDepth 100000 in
theorem jl_12_77 : jml "TwoSeekLaw" 77 152 := jtb3 238 rfl rfl
set_option maxRecDepth 100000 in
theorem jl_12_81 : jml "TwoSeekLaw" 81 239 := jtb7 141 rfl rfl
set_option maxRecDepth 100000 in
theorem jl_12_82 : jml "TwoSeekLaw" 82 153 := jtb4 2 rfl rfl
set_option maxRecDepth 100000 in
theorem jl_12_85 : jml "TwoSeekLaw" 85 241 := jtb7 145 rfl rfl
set_option maxRecDepth 100000 in
theorem jl_12_86 : jml "TwoSeekLaw" 86 154 := jtb4 11 rfl rfl
set_option maxRecDepth 100000 in
theorem jl_12_90 : jml "TwoSeekLaw" 90 242 := jtb7 154 rfl rfl
set_option maxRecDepth 100000 in
theorem jl_12_91 : jml "TwoSeekLaw" 91 155 := jtb4 29 rfl rfl
set_option maxRecDepth 100000 in
theorem jl_12_94 : jml "TwoSeekLaw" 94 244 := jtb7 168 rfl rfl
set_option maxRecDepth 100000 in
theorem jl_12_95 : jml "TwoSeekLaw" 95 156 := jtb4 33 rfl rfl
set_option maxRecDepth 100000 in
theorem jl_12_99 : jml "TwoSeekLaw" 99 251 := jtb7 173 rfl rfl
set_option maxRecDepth 100000 in
theorem jl_12_100 : jml "TwoSeekLaw" 100 157 := jtb4 97 rfl rfl
set_option maxRecDepth 100000 in
theorem jl_12_104 : jml "TwoSeekLaw" 104 252 := jtb7 213 rfl rfl
set_option maxRecDepth 100000 in
theorem jl_12_105 : jml "TwoSeekLaw" 105 158 := jtb4 101 rfl rfl
set_option maxRecDepth 100000 in
theorem jl_12_109 : jml "TwoSeekLaw" 109 255 := jtb7 218 rfl rfl
set_option maxRecDepth 100000 in
theorem jl_12_110 : jml "TwoSeekLaw" 110 159 := jtb4 126 rfl rfl
set_option maxRecDepth 100000 in
theorem jl_12_113 : jml "TwoSeekLaw" 113 256 := jtb8 4 rfl rfl
set_option maxRecDepth 100000 in
theorem jl_12_114 : jml "TwoSeekLaw" 114 160 := jtb4 130 rfl rfl
set_option maxRecDepth 100000 in
theorem jl_12_117 : jml "TwoSeekLaw" 117 257 := jtb8 9 rfl rfl
set_option maxRecDepth 100000 in
theorem jl_12_118 : jml "TwoSeekLaw" 118 161 := jtb4 152 rfl rfl
set_option maxRecDepth 100000 in
theorem jl_12_121 : jml "TwoSeekLaw" 121 260 := jtb8 13 rfl rfl
set_option maxRecDepth 100000 in
theorem jl_12_122 : jml "TwoSeekLaw" 122 162 := jtb4 215 rfl rfl
set_option maxRecDepth 100000 in
theorem jl_12_125 : jml "TwoSeekLaw" 125 261 := jtb8 25 rfl rfl
set_option maxRecDepth 100000 in
theorem jl_12_126 : jml "TwoSeekLaw" 126 163 := jtb4 227 rfl rfl
set_option maxRecDepth 100000 in
theorem jl_12_129 : jml "TwoSeekLaw" 129 262 := jtb8 29 rfl rfl
set_option maxRecDepth 100000 in
theorem jl_12_130 : jml "TwoSeekLaw" 130 164 := jtb4 231 rfl rfl
set_option maxRecDepth 100000 in
theorem jl_12_133 : jml "TwoSeekLaw" 133 263 := jtb8 33 rfl rfl
set_option maxRecDepth 100000 in
theorem jl_12_134 : jml "TwoSeekLaw" 134 165 := jtb4 235 rfl rfl
set_option maxRecDepth 100000 in
theorem jl_12_137 : jml "TwoSeekLaw" 137 267 := jtb8 37 rfl rfl
set_option maxRecDepth 100000 in
theorem jl_12_138 : jml "TwoSeekLaw" 138 166 := jtb5 22 rfl rfl
set_option maxRecDepth 100000 in
theorem jl_12_141 : jml "TwoSeekLaw" 141 272 := jtb8 53 rfl rfl
set_option maxRecDepth 100000 in
theorem jl_12_142 : jml "TwoSeekLaw" 142 167 := jtb5 56 rfl rfl
set_option maxRecDepth 100000 in
theorem jl_12_145 : jml "TwoSeekLaw" 145 273 := jtb8 75 rfl rfl
set_option maxRecDepth 100000 in
theorem jl_12_146 : jml "TwoSeekLaw" 146 168 := jtb5 61 rfl rfl
set_option maxRecDepth 100000 in
theorem jl_12_149 : jml "TwoSeekLaw" 149 275 := jtb8 79 rfl rfl
set_option maxRecDepth 100000 in
theorem jl_12_150 : jml "TwoSeekLaw" 150 169 := jtb5 81 rfl rfl
set_option maxRecDepth 100000 in
theorem jl_12_154 : jml "TwoSeekLaw" 154 287 := jtb8 88 rfl rfl
set_option maxRecDepth 100000 in
theorem jl_12_155 : jml "TwoSeekLaw" 155 170 := jtb5 158 rfl rfl
set_option maxRecDepth 100000 in
theorem jl_12_159 : jml "TwoSeekLaw" 159 288 := jtb8 140 rfl rfl
set_option maxRecDepth 100000 in
theorem jl_12_160 : jml "TwoSeekLaw" 160 171 := jtb5 166 rfl rfl
set_option maxRecDepth 100000 in
theorem jl_12_163 : jml "TwoSeekLaw" 163 289 := jtb8 144 rfl rfl
set_option maxRecDepth 100000 in
theorem jl_12_164 : jml "TwoSeekLaw" 164 172 := jtb5 172 rfl rfl
set_option maxRecDepth 100000 in
theorem jl_12_167 : jml "TwoSeekLaw" 167 290 := jtb8 148 rfl rfl
set_option maxRecDepth 100000 in
theorem ja_int : Cond.arrayClass .int ∈ jtbl := jtb1 44 rfl rfl
set_option maxRecDepth 100000 in
theorem ja_long : Cond.arrayClass .long ∈ jtbl := jtb1 43 rfl rfl
set_option maxRecDepth 100000 in
theorem ja_byte : Cond.arrayClass .byte ∈ jtbl := jtb6 193 rfl rfl
set_option maxRecDepth 100000 in
theorem ja_boolean : Cond.arrayClass .boolean ∈ jtbl := jtb1 156 rfl rfl
