theorem ws_QF : ∀ w ∈ u_ws R_QF F_QF 5, w ∈ qGW := by
  intro w hw
  obtain ⟨k, hk, rfl⟩ := List.mem_map.mp hw
  have hk := List.mem_range.mp hk
  match k, hk with
  | 0, _ => exact (qw2 137 rfl rfl)
  | 1, _ => exact (qw2 139 rfl rfl)
  | 2, _ => exact (qw2 141 rfl rfl)
  | 3, _ => exact (qw2 143 rfl rfl)
  | 4, _ => exact (qw2 145 rfl rfl)
theorem nm_QF : ∀ a, a < 5 → ∀ b, b < 5 → a ≠ b → (F_QF a).2.1 ≠ (F_QF b).2.1 := by decide +kernel
theorem ty_QF : ∀ k, k < 5 → parseFieldDescriptor (F_QF k).2.2.1 = some (t_QF k) := by decide +kernel
theorem nf_QF : ∀ k, k < 5 → t_QF k ≠ .float ∧ t_QF k ≠ .double := by decide +kernel
theorem ws_Pl : ∀ w ∈ u_ws R_Pl F_Pl 11, w ∈ qGW := by
  intro w hw
  obtain ⟨k, hk, rfl⟩ := List.mem_map.mp hw
  have hk := List.mem_range.mp hk
  match k, hk with
  | 0, _ => exact (qw1 218 rfl rfl)
  | 1, _ => exact (qw1 220 rfl rfl)
  | 2, _ => exact (qw1 222 rfl rfl)
  | 3, _ => exact (qw1 224 rfl rfl)
  | 4, _ => exact (qw1 226 rfl rfl)
  | 5, _ => exact (qw1 228 rfl rfl)
  | 6, _ => exact (qw1 230 rfl rfl)
  | 7, _ => exact (qw1 232 rfl rfl)
  | 8, _ => exact (qw1 234 rfl rfl)
  | 9, _ => exact (qw1 236 rfl rfl)
  | 10, _ => exact (qw1 238 rfl rfl)
theorem nm_Pl : ∀ a, a < 11 → ∀ b, b < 11 → a ≠ b → (F_Pl a).2.1 ≠ (F_Pl b).2.1 := by decide +kernel
theorem ty_Pl : ∀ k, k < 11 → parseFieldDescriptor (F_Pl k).2.2.1 = some (t_Pl k) := by decide +kernel
theorem nf_Pl : ∀ k, k < 11 → t_Pl k ≠ .float ∧ t_Pl k ≠ .double := by decide +kernel
theorem ws_Qu : ∀ w ∈ u_ws R_Qu F_Qu 17, w ∈ qGW := by
  intro w hw
  obtain ⟨k, hk, rfl⟩ := List.mem_map.mp hw
  have hk := List.mem_range.mp hk
  match k, hk with
  | 0, _ => exact (qw1 106 rfl rfl)
  | 1, _ => exact (qw1 108 rfl rfl)
  | 2, _ => exact (qw1 110 rfl rfl)
  | 3, _ => exact (qw1 112 rfl rfl)
  | 4, _ => exact (qw1 114 rfl rfl)
  | 5, _ => exact (qw1 116 rfl rfl)
  | 6, _ => exact (qw1 118 rfl rfl)
  | 7, _ => exact (qw1 120 rfl rfl)
  | 8, _ => exact (qw1 122 rfl rfl)
  | 9, _ => exact (qw1 124 rfl rfl)
  | 10, _ => exact (qw1 126 rfl rfl)
  | 11, _ => exact (qw1 128 rfl rfl)
  | 12, _ => exact (qw1 130 rfl rfl)
  | 13, _ => exact (qw1 132 rfl rfl)
  | 14, _ => exact (qw1 134 rfl rfl)
  | 15, _ => exact (qw1 136 rfl rfl)
  | 16, _ => exact (qw1 138 rfl rfl)
  | k + 17, hk => exact absurd hk (by omega)
theorem nm_Qu : ∀ a, a < 17 → ∀ b, b < 17 → a ≠ b → (F_Qu a).2.1 ≠ (F_Qu b).2.1 := by decide +kernel
theorem ty_Qu : ∀ k, k < 17 → parseFieldDescriptor (F_Qu k).2.2.1 = some (t_Qu k) := by decide +kernel
theorem nf_Qu : ∀ k, k < 17 → t_Qu k ≠ .float ∧ t_Qu k ≠ .double := by decide +kernel
theorem ws_Ex : ∀ w ∈ u_ws R_Ex F_Ex 5, w ∈ qGW := by
  intro w hw
  obtain ⟨k, hk, rfl⟩ := List.mem_map.mp hw
  have hk := List.mem_range.mp hk
  match k, hk with
  | 0, _ => exact (qw1 57 rfl rfl)
  | 1, _ => exact (qw1 59 rfl rfl)
  | 2, _ => exact (qw1 61 rfl rfl)
  | 3, _ => exact (qw1 63 rfl rfl)
  | 4, _ => exact (qw1 65 rfl rfl)
theorem nm_Ex : ∀ a, a < 5 → ∀ b, b < 5 → a ≠ b → (F_Ex a).2.1 ≠ (F_Ex b).2.1 := by decide +kernel
theorem ty_Ex : ∀ k, k < 5 → parseFieldDescriptor (F_Ex k).2.2.1 = some (t_Ex k) := by decide +kernel
theorem nf_Ex : ∀ k, k < 5 → t_Ex k ≠ .float ∧ t_Ex k ≠ .double := by decide +kernel
theorem ws_Ma : ∀ w ∈ u_ws R_Ma F_Ma 4, w ∈ qGW := by
  intro w hw
  obtain ⟨k, hk, rfl⟩ := List.mem_map.mp hw
  have hk := List.mem_range.mp hk
  match k, hk with
  | 0, _ => exact (qw1 153 rfl rfl)
  | 1, _ => exact (qw1 155 rfl rfl)
  | 2, _ => exact (qw1 157 rfl rfl)
  | 3, _ => exact (qw1 159 rfl rfl)
theorem nm_Ma : ∀ a, a < 4 → ∀ b, b < 4 → a ≠ b → (F_Ma a).2.1 ≠ (F_Ma b).2.1 := by decide +kernel
theorem ty_Ma : ∀ k, k < 4 → parseFieldDescriptor (F_Ma k).2.2.1 = some (t_Ma k) := by decide +kernel
theorem nf_Ma : ∀ k, k < 4 → t_Ma k ≠ .float ∧ t_Ma k ≠ .double := by decide +kernel
theorem ws_Ag : ∀ w ∈ u_ws R_Ag F_Ag 6, w ∈ qGW := by
  intro w hw
  obtain ⟨k, hk, rfl⟩ := List.mem_map.mp hw
  have hk := List.mem_range.mp hk
  match k, hk with
  | 0, _ => exact (qw1 176 rfl rfl)
  | 1, _ => exact (qw1 178 rfl rfl)
  | 2, _ => exact (qw1 180 rfl rfl)
  | 3, _ => exact (qw1 182 rfl rfl)
  | 4, _ => exact (qw1 184 rfl rfl)
  | 5, _ => exact (qw1 186 rfl rfl)
theorem nm_Ag : ∀ a, a < 6 → ∀ b, b < 6 → a ≠ b → (F_Ag a).2.1 ≠ (F_Ag b).2.1 := by decide +kernel
theorem ty_Ag : ∀ k, k < 6 → parseFieldDescriptor (F_Ag k).2.2.1 = some (t_Ag k) := by decide +kernel
theorem nf_Ag : ∀ k, k < 6 → t_Ag k ≠ .float ∧ t_Ag k ≠ .double := by decide +kernel
theorem ws_Tb : ∀ w ∈ u_ws R_Tb F_Tb 3, w ∈ qGW := by
  intro w hw
  obtain ⟨k, hk, rfl⟩ := List.mem_map.mp hw
  have hk := List.mem_range.mp hk
  match k, hk with
  | 0, _ => exact (qw1 198 rfl rfl)
  | 1, _ => exact (qw1 200 rfl rfl)
  | 2, _ => exact (qw1 202 rfl rfl)
theorem nm_Tb : ∀ a, a < 3 → ∀ b, b < 3 → a ≠ b → (F_Tb a).2.1 ≠ (F_Tb b).2.1 := by decide +kernel
theorem ty_Tb : ∀ k, k < 3 → parseFieldDescriptor (F_Tb k).2.2.1 = some (t_Tb k) := by decide +kernel
theorem nf_Tb : ∀ k, k < 3 → t_Tb k ≠ .float ∧ t_Tb k ≠ .double := by decide +kernel
theorem ws_Re : ∀ w ∈ u_ws R_Re F_Re 7, w ∈ qGW := by
  intro w hw
  obtain ⟨k, hk, rfl⟩ := List.mem_map.mp hw
  have hk := List.mem_range.mp hk
  match k, hk with
  | 0, _ => exact (qw2 19 rfl rfl)
  | 1, _ => exact (qw2 21 rfl rfl)
  | 2, _ => exact (qw2 23 rfl rfl)
  | 3, _ => exact (qw2 25 rfl rfl)
  | 4, _ => exact (qw2 27 rfl rfl)
  | 5, _ => exact (qw2 29 rfl rfl)
  | 6, _ => exact (qw2 31 rfl rfl)
theorem nm_Re : ∀ a, a < 7 → ∀ b, b < 7 → a ≠ b → (F_Re a).2.1 ≠ (F_Re b).2.1 := by decide +kernel
theorem ty_Re : ∀ k, k < 7 → parseFieldDescriptor (F_Re k).2.2.1 = some (t_Re k) := by decide +kernel
theorem nf_Re : ∀ k, k < 7 → t_Re k ≠ .float ∧ t_Re k ≠ .double := by decide +kernel
theorem ws_Jo : ∀ w ∈ u_ws R_Jo F_Jo 9, w ∈ qGW := by
  intro w hw
  obtain ⟨k, hk, rfl⟩ := List.mem_map.mp hw
  have hk := List.mem_range.mp hk
  match k, hk with
  | 0, _ => exact (qw2 113 rfl rfl)
  | 1, _ => exact (qw2 115 rfl rfl)
  | 2, _ => exact (qw2 117 rfl rfl)
  | 3, _ => exact (qw2 119 rfl rfl)
  | 4, _ => exact (qw2 121 rfl rfl)
  | 5, _ => exact (qw2 123 rfl rfl)
  | 6, _ => exact (qw2 125 rfl rfl)
  | 7, _ => exact (qw2 127 rfl rfl)
  | 8, _ => exact (qw2 129 rfl rfl)
theorem nm_Jo : ∀ a, a < 9 → ∀ b, b < 9 → a ≠ b → (F_Jo a).2.1 ≠ (F_Jo b).2.1 := by decide +kernel
theorem ty_Jo : ∀ k, k < 9 → parseFieldDescriptor (F_Jo k).2.2.1 = some (t_Jo k) := by decide +kernel
theorem nf_Jo : ∀ k, k < 9 → t_Jo k ≠ .float ∧ t_Jo k ≠ .double := by decide +kernel
theorem ws_Li : ∀ w ∈ u_ws R_Li F_Li 4, w ∈ qGW := by
  intro w hw
  obtain ⟨k, hk, rfl⟩ := List.mem_map.mp hw
  have hk := List.mem_range.mp hk
  match k, hk with
  | 0, _ => exact (qw2 57 rfl rfl)
  | 1, _ => exact (qw2 59 rfl rfl)
  | 2, _ => exact (qw2 61 rfl rfl)
  | 3, _ => exact (qw2 63 rfl rfl)
theorem nm_Li : ∀ a, a < 4 → ∀ b, b < 4 → a ≠ b → (F_Li a).2.1 ≠ (F_Li b).2.1 := by decide +kernel
theorem ty_Li : ∀ k, k < 4 → parseFieldDescriptor (F_Li k).2.2.1 = some (t_Li k) := by decide +kernel
theorem nf_Li : ∀ k, k < 4 → t_Li k ≠ .float ∧ t_Li k ≠ .double := by decide +kernel
theorem ws_Ta : ∀ w ∈ u_ws R_Ta F_Ta 6, w ∈ qGW := by
  intro w hw
  obtain ⟨k, hk, rfl⟩ := List.mem_map.mp hw
  have hk := List.mem_range.mp hk
  match k, hk with
  | 0, _ => exact (qw2 84 rfl rfl)
  | 1, _ => exact (qw2 86 rfl rfl)
  | 2, _ => exact (qw2 88 rfl rfl)
  | 3, _ => exact (qw2 90 rfl rfl)
  | 4, _ => exact (qw2 92 rfl rfl)
  | 5, _ => exact (qw2 94 rfl rfl)
theorem nm_Ta : ∀ a, a < 6 → ∀ b, b < 6 → a ≠ b → (F_Ta a).2.1 ≠ (F_Ta b).2.1 := by decide +kernel
theorem ty_Ta : ∀ k, k < 6 → parseFieldDescriptor (F_Ta k).2.2.1 = some (t_Ta k) := by decide +kernel
theorem nf_Ta : ∀ k, k < 6 → t_Ta k ≠ .float ∧ t_Ta k ≠ .double := by decide +kernel
theorem ws_QM : ∀ w ∈ u_ws R_QM F_QM 56, w ∈ qGW := by
  intro w hw
  obtain ⟨k, hk, rfl⟩ := List.mem_map.mp hw
  have hk := List.mem_range.mp hk
  match k, hk with
  | 0, _ => exact (qw4 161 rfl rfl)
  | 1, _ => exact (qw4 163 rfl rfl)
  | 2, _ => exact (qw4 165 rfl rfl)
  | 3, _ => exact (qw4 167 rfl rfl)
  | 4, _ => exact (qw4 169 rfl rfl)
  | 5, _ => exact (qw4 171 rfl rfl)
  | 6, _ => exact (qw4 173 rfl rfl)
  | 7, _ => exact (qw4 175 rfl rfl)
  | 8, _ => exact (qw4 177 rfl rfl)
  | 9, _ => exact (qw4 179 rfl rfl)
  | 10, _ => exact (qw4 181 rfl rfl)
  | 11, _ => exact (qw4 183 rfl rfl)
  | 12, _ => exact (qw4 185 rfl rfl)
  | 13, _ => exact (qw4 187 rfl rfl)
  | 14, _ => exact (qw4 189 rfl rfl)
  | 15, _ => exact (qw4 191 rfl rfl)
  | 16, _ => exact (qw4 193 rfl rfl)
  | 17, _ => exact (qw4 195 rfl rfl)
  | 18, _ => exact (qw4 197 rfl rfl)
  | 19, _ => exact (qw4 199 rfl rfl)
  | 20, _ => exact (qw4 201 rfl rfl)
  | 21, _ => exact (qw4 203 rfl rfl)
  | 22, _ => exact (qw4 205 rfl rfl)
  | 23, _ => exact (qw4 207 rfl rfl)
  | 24, _ => exact (qw4 209 rfl rfl)
  | 25, _ => exact (qw4 211 rfl rfl)
  | 26, _ => exact (qw4 213 rfl rfl)
  | 27, _ => exact (qw4 215 rfl rfl)
  | 28, _ => exact (qw4 217 rfl rfl)
  | 29, _ => exact (qw4 219 rfl rfl)
  | 30, _ => exact (qw4 221 rfl rfl)
  | 31, _ => exact (qw4 223 rfl rfl)
  | 32, _ => exact (qw4 225 rfl rfl)
  | 33, _ => exact (qw4 227 rfl rfl)
  | 34, _ => exact (qw4 229 rfl rfl)
  | 35, _ => exact (qw4 231 rfl rfl)
  | 36, _ => exact (qw4 233 rfl rfl)
  | 37, _ => exact (qw4 235 rfl rfl)
  | 38, _ => exact (qw4 237 rfl rfl)
  | 39, _ => exact (qw4 239 rfl rfl)
  | 40, _ => exact (qw5 1 rfl rfl)
  | 41, _ => exact (qw5 3 rfl rfl)
  | 42, _ => exact (qw5 5 rfl rfl)
  | 43, _ => exact (qw5 7 rfl rfl)
  | 44, _ => exact (qw5 9 rfl rfl)
  | 45, _ => exact (qw5 11 rfl rfl)
  | 46, _ => exact (qw5 13 rfl rfl)
  | 47, _ => exact (qw5 15 rfl rfl)
  | 48, _ => exact (qw5 17 rfl rfl)
  | 49, _ => exact (qw5 19 rfl rfl)
  | 50, _ => exact (qw5 21 rfl rfl)
  | 51, _ => exact (qw5 23 rfl rfl)
  | 52, _ => exact (qw5 25 rfl rfl)
  | 53, _ => exact (qw5 27 rfl rfl)
  | 54, _ => exact (qw5 29 rfl rfl)
  | 55, _ => exact (qw5 31 rfl rfl)
  | k + 56, hk => exact absurd hk (by omega)
theorem nm_QM : ∀ a, a < 56 → ∀ b, b < 56 → a ≠ b → (F_QM a).2.1 ≠ (F_QM b).2.1 := by decide +kernel
theorem ty_QM : ∀ k, k < 56 → parseFieldDescriptor (F_QM k).2.2.1 = some (t_QM k) := by decide +kernel
theorem nf_QM : ∀ k, k < 56 → t_QM k ≠ .float ∧ t_QM k ≠ .double := by decide +kernel
theorem fR_QF_12 : qFlR "QueryFleet" 12 0 0 true := ⟨⟨by decide, by decide, R_QF, F_QF, rfl, ws_QF, ty_QF, nm_QF, rfl, rfl, Or.inl (qw2 132 rfl rfl)⟩, fun _ _ _ _ => rfl, fun _ => ⟨rfl, rfl⟩⟩
theorem fF_QF_12 : qFlRF "QueryFleet" 12 0 0 := ⟨⟨by decide, by decide, F_QF, rfl, ws_QF, ty_QF, nm_QF, rfl, rfl, (qw2 132 rfl rfl)⟩, fun _ _ _ _ => rfl, fun _ => ⟨rfl, rfl⟩⟩
theorem fR_QF_16 : qFlR "QueryFleet" 16 1 0 true := ⟨⟨by decide, by decide, R_Pl, F_Pl, rfl, ws_Pl, ty_Pl, nm_Pl, rfl, rfl, Or.inr ⟨"QueryFleet", List.mem_of_getElem? (i := 28) rfl⟩⟩, fun _ _ _ _ => rfl, fun _ => ⟨rfl, rfl⟩⟩
theorem fR_QF_20 : qFlR "QueryFleet" 20 0 1 true := ⟨⟨by decide, by decide, R_QF, F_QF, rfl, ws_QF, ty_QF, nm_QF, rfl, rfl, Or.inl (qw2 133 rfl rfl)⟩, fun _ _ _ _ => rfl, fun _ => ⟨rfl, rfl⟩⟩
theorem fF_QF_20 : qFlRF "QueryFleet" 20 0 1 := ⟨⟨by decide, by decide, F_QF, rfl, ws_QF, ty_QF, nm_QF, rfl, rfl, (qw2 133 rfl rfl)⟩, fun _ _ _ _ => rfl, fun _ => ⟨rfl, rfl⟩⟩
theorem fR_QF_21 : qFlR "QueryFleet" 21 1 1 true := ⟨⟨by decide, by decide, R_Pl, F_Pl, rfl, ws_Pl, ty_Pl, nm_Pl, rfl, rfl, Or.inr ⟨"QueryFleet", List.mem_of_getElem? (i := 29) rfl⟩⟩, fun _ _ _ _ => rfl, fun _ => ⟨rfl, rfl⟩⟩
theorem fR_QF_25 : qFlR "QueryFleet" 25 0 2 true := ⟨⟨by decide, by decide, R_QF, F_QF, rfl, ws_QF, ty_QF, nm_QF, rfl, rfl, Or.inl (qw2 134 rfl rfl)⟩, fun _ _ _ _ => rfl, fun _ => ⟨rfl, rfl⟩⟩
theorem fF_QF_25 : qFlRF "QueryFleet" 25 0 2 := ⟨⟨by decide, by decide, F_QF, rfl, ws_QF, ty_QF, nm_QF, rfl, rfl, (qw2 134 rfl rfl)⟩, fun _ _ _ _ => rfl, fun _ => ⟨rfl, rfl⟩⟩
theorem fR_QF_29 : qFlR "QueryFleet" 29 0 3 true := ⟨⟨by decide, by decide, R_QF, F_QF, rfl, ws_QF, ty_QF, nm_QF, rfl, rfl, Or.inl (qw2 135 rfl rfl)⟩, fun _ _ _ _ => rfl, fun _ => ⟨rfl, rfl⟩⟩
theorem fF_QF_29 : qFlRF "QueryFleet" 29 0 3 := ⟨⟨by decide, by decide, F_QF, rfl, ws_QF, ty_QF, nm_QF, rfl, rfl, (qw2 135 rfl rfl)⟩, fun _ _ _ _ => rfl, fun _ => ⟨rfl, rfl⟩⟩
theorem fR_QF_36 : qFlR "QueryFleet" 36 0 4 true := ⟨⟨by decide, by decide, R_QF, F_QF, rfl, ws_QF, ty_QF, nm_QF, rfl, rfl, Or.inl (qw2 136 rfl rfl)⟩, fun _ _ _ _ => rfl, fun _ => ⟨rfl, rfl⟩⟩
theorem fF_QF_36 : qFlRF "QueryFleet" 36 0 4 := ⟨⟨by decide, by decide, F_QF, rfl, ws_QF, ty_QF, nm_QF, rfl, rfl, (qw2 136 rfl rfl)⟩, fun _ _ _ _ => rfl, fun _ => ⟨rfl, rfl⟩⟩
theorem fI_QF_40 : qFlI "QueryFleet" 40 8 0 false := ⟨⟨by decide, by decide, R_Jo, F_Jo, rfl, ws_Jo, ty_Jo, nm_Jo, rfl, rfl, Or.inr ⟨"QueryFleet", List.mem_of_getElem? (i := 46) rfl⟩⟩, fun _ _ _ _ => rfl⟩
theorem fI_QF_81 : qFlI "QueryFleet" 81 2 13 false := ⟨⟨by decide, by decide, R_Qu, F_Qu, rfl, ws_Qu, ty_Qu, nm_Qu, rfl, rfl, Or.inr ⟨"QueryFleet", List.mem_of_getElem? (i := 18) rfl⟩⟩, fun _ _ _ _ => rfl⟩
theorem fI_QF_85 : qFlI "QueryFleet" 85 2 14 false := ⟨⟨by decide, by decide, R_Qu, F_Qu, rfl, ws_Qu, ty_Qu, nm_Qu, rfl, rfl, Or.inr ⟨"QueryFleet", List.mem_of_getElem? (i := 20) rfl⟩⟩, fun _ _ _ _ => rfl⟩
theorem fI_QF_88 : qFlI "QueryFleet" 88 2 15 false := ⟨⟨by decide, by decide, R_Qu, F_Qu, rfl, ws_Qu, ty_Qu, nm_Qu, rfl, rfl, Or.inr ⟨"QueryFleet", List.mem_of_getElem? (i := 22) rfl⟩⟩, fun _ _ _ _ => rfl⟩
theorem fI_QF_91 : qFlI "QueryFleet" 91 2 16 false := ⟨⟨by decide, by decide, R_Qu, F_Qu, rfl, ws_Qu, ty_Qu, nm_Qu, rfl, rfl, Or.inr ⟨"QueryFleet", List.mem_of_getElem? (i := 24) rfl⟩⟩, fun _ _ _ _ => rfl⟩
theorem fI_QF_94 : qFlI "QueryFleet" 94 2 7 false := ⟨⟨by decide, by decide, R_Qu, F_Qu, rfl, ws_Qu, ty_Qu, nm_Qu, rfl, rfl, Or.inr ⟨"QueryFleet", List.mem_of_getElem? (i := 11) rfl⟩⟩, fun _ _ _ _ => rfl⟩
theorem fI_QF_134 : qFlI "QueryFleet" 134 8 3 false := ⟨⟨by decide, by decide, R_Jo, F_Jo, rfl, ws_Jo, ty_Jo, nm_Jo, rfl, rfl, Or.inr ⟨"QueryFleet", List.mem_of_getElem? (i := 49) rfl⟩⟩, fun _ _ _ _ => rfl⟩
theorem fR_QF_137 : qFlR "QueryFleet" 137 8 7 true := ⟨⟨by decide, by decide, R_Jo, F_Jo, rfl, ws_Jo, ty_Jo, nm_Jo, rfl, rfl, Or.inr ⟨"QueryFleet", List.mem_of_getElem? (i := 51) rfl⟩⟩, fun _ _ _ _ => rfl, fun _ => ⟨rfl, rfl⟩⟩
theorem fI_QF_141 : qFlI "QueryFleet" 141 9 3 false := ⟨⟨by decide, by decide, R_Li, F_Li, rfl, ws_Li, ty_Li, nm_Li, rfl, rfl, Or.inr ⟨"QueryFleet", List.mem_of_getElem? (i := 39) rfl⟩⟩, fun _ _ _ _ => rfl⟩
theorem fR_QF_159 : qFlR "QueryFleet" 159 8 8 true := ⟨⟨by decide, by decide, R_Jo, F_Jo, rfl, ws_Jo, ty_Jo, nm_Jo, rfl, rfl, Or.inr ⟨"QueryFleet", List.mem_of_getElem? (i := 52) rfl⟩⟩, fun _ _ _ _ => rfl, fun _ => ⟨rfl, rfl⟩⟩
theorem fR_QF_174 : qFlR "QueryFleet" 174 8 2 true := ⟨⟨by decide, by decide, R_Jo, F_Jo, rfl, ws_Jo, ty_Jo, nm_Jo, rfl, rfl, Or.inr ⟨"QueryFleet", List.mem_of_getElem? (i := 48) rfl⟩⟩, fun _ _ _ _ => rfl, fun _ => ⟨rfl, rfl⟩⟩
theorem fI_QF_185 : qFlI "QueryFleet" 185 7 5 false := ⟨⟨by decide, by decide, R_Re, F_Re, rfl, ws_Re, ty_Re, nm_Re, rfl, rfl, Or.inr ⟨"QueryFleet", List.mem_of_getElem? (i := 33) rfl⟩⟩, fun _ _ _ _ => rfl⟩
theorem fI_QF_188 : qFlI "QueryFleet" 188 7 4 false := ⟨⟨by decide, by decide, R_Re, F_Re, rfl, ws_Re, ty_Re, nm_Re, rfl, rfl, Or.inr ⟨"QueryFleet", List.mem_of_getElem? (i := 32) rfl⟩⟩, fun _ _ _ _ => rfl⟩
theorem fI_QF_190 : qFlI "QueryFleet" 190 7 6 false := ⟨⟨by decide, by decide, R_Re, F_Re, rfl, ws_Re, ty_Re, nm_Re, rfl, rfl, Or.inr ⟨"QueryFleet", List.mem_of_getElem? (i := 34) rfl⟩⟩, fun _ _ _ _ => rfl⟩
theorem fI_QF_193 : qFlI "QueryFleet" 193 8 5 false := ⟨⟨by decide, by decide, R_Jo, F_Jo, rfl, ws_Jo, ty_Jo, nm_Jo, rfl, rfl, Or.inr ⟨"QueryFleet", List.mem_of_getElem? (i := 50) rfl⟩⟩, fun _ _ _ _ => rfl⟩
theorem fI_QF_206 : qFlI "QueryFleet" 206 2 0 false := ⟨⟨by decide, by decide, R_Qu, F_Qu, rfl, ws_Qu, ty_Qu, nm_Qu, rfl, rfl, Or.inr ⟨"QueryFleet", List.mem_of_getElem? (i := 5) rfl⟩⟩, fun _ _ _ _ => rfl⟩
theorem fI_QF_209 : qFlI "QueryFleet" 209 8 1 false := ⟨⟨by decide, by decide, R_Jo, F_Jo, rfl, ws_Jo, ty_Jo, nm_Jo, rfl, rfl, Or.inr ⟨"QueryFleet", List.mem_of_getElem? (i := 47) rfl⟩⟩, fun _ _ _ _ => rfl⟩
theorem fL_Ag_9 : qFlL "QueryFleet$Aggregate" 9 5 0 false := ⟨⟨by decide, by decide, R_Ag, F_Ag, rfl, ws_Ag, ty_Ag, nm_Ag, rfl, rfl, Or.inl (qw1 170 rfl rfl)⟩, rfl⟩
theorem fL_Ag_15 : qFlL "QueryFleet$Aggregate" 15 5 1 false := ⟨⟨by decide, by decide, R_Ag, F_Ag, rfl, ws_Ag, ty_Ag, nm_Ag, rfl, rfl, Or.inl (qw1 171 rfl rfl)⟩, rfl⟩
theorem fL_Ag_18 : qFlL "QueryFleet$Aggregate" 18 5 2 false := ⟨⟨by decide, by decide, R_Ag, F_Ag, rfl, ws_Ag, ty_Ag, nm_Ag, rfl, rfl, Or.inl (qw1 172 rfl rfl)⟩, rfl⟩
theorem fL_Ag_21 : qFlL "QueryFleet$Aggregate" 21 5 3 false := ⟨⟨by decide, by decide, R_Ag, F_Ag, rfl, ws_Ag, ty_Ag, nm_Ag, rfl, rfl, Or.inl (qw1 173 rfl rfl)⟩, rfl⟩
theorem fL_Ag_26 : qFlL "QueryFleet$Aggregate" 26 5 4 false := ⟨⟨by decide, by decide, R_Ag, F_Ag, rfl, ws_Ag, ty_Ag, nm_Ag, rfl, rfl, Or.inl (qw1 174 rfl rfl)⟩, rfl⟩
theorem fL_Ag_31 : qFlL "QueryFleet$Aggregate" 31 5 5 false := ⟨⟨by decide, by decide, R_Ag, F_Ag, rfl, ws_Ag, ty_Ag, nm_Ag, rfl, rfl, Or.inl (qw1 175 rfl rfl)⟩, rfl⟩
theorem fR_Ex_9 : qFlR "QueryFleet$Expression" 9 3 0 true := ⟨⟨by decide, by decide, R_Ex, F_Ex, rfl, ws_Ex, ty_Ex, nm_Ex, rfl, rfl, Or.inl (qw1 47 rfl rfl)⟩, fun _ _ _ _ => rfl, fun _ => ⟨rfl, rfl⟩⟩
theorem fF_Ex_9 : qFlRF "QueryFleet$Expression" 9 3 0 := ⟨⟨by decide, by decide, F_Ex, rfl, ws_Ex, ty_Ex, nm_Ex, rfl, rfl, (qw1 47 rfl rfl)⟩, fun _ _ _ _ => rfl, fun _ => ⟨rfl, rfl⟩⟩
theorem fR_Ex_15 : qFlR "QueryFleet$Expression" 15 3 1 true := ⟨⟨by decide, by decide, R_Ex, F_Ex, rfl, ws_Ex, ty_Ex, nm_Ex, rfl, rfl, Or.inl (qw1 49 rfl rfl)⟩, fun _ _ _ _ => rfl, fun _ => ⟨rfl, rfl⟩⟩
theorem fF_Ex_15 : qFlRF "QueryFleet$Expression" 15 3 1 := ⟨⟨by decide, by decide, F_Ex, rfl, ws_Ex, ty_Ex, nm_Ex, rfl, rfl, (qw1 49 rfl rfl)⟩, fun _ _ _ _ => rfl, fun _ => ⟨rfl, rfl⟩⟩
theorem fI_Ex_18 : qFlI "QueryFleet$Expression" 18 3 2 false := ⟨⟨by decide, by decide, R_Ex, F_Ex, rfl, ws_Ex, ty_Ex, nm_Ex, rfl, rfl, Or.inl (qw1 51 rfl rfl)⟩, fun _ _ _ _ => rfl⟩
theorem fI_Ex_22 : qFlI "QueryFleet$Expression" 22 3 3 false := ⟨⟨by decide, by decide, R_Ex, F_Ex, rfl, ws_Ex, ty_Ex, nm_Ex, rfl, rfl, Or.inl (qw1 54 rfl rfl)⟩, fun _ _ _ _ => rfl⟩
theorem fI_Ex_26 : qFlI "QueryFleet$Expression" 26 3 4 false := ⟨⟨by decide, by decide, R_Ex, F_Ex, rfl, ws_Ex, ty_Ex, nm_Ex, rfl, rfl, Or.inl (qw1 56 rfl rfl)⟩, fun _ _ _ _ => rfl⟩
theorem fR_Jo_11 : qFlR "QueryFleet$Job" 11 8 2 true := ⟨⟨by decide, by decide, R_Jo, F_Jo, rfl, ws_Jo, ty_Jo, nm_Jo, rfl, rfl, Or.inl (qw2 101 rfl rfl)⟩, fun _ _ _ _ => rfl, fun _ => ⟨rfl, rfl⟩⟩
theorem fF_Jo_11 : qFlRF "QueryFleet$Job" 11 8 2 := ⟨⟨by decide, by decide, F_Jo, rfl, ws_Jo, ty_Jo, nm_Jo, rfl, rfl, (qw2 101 rfl rfl)⟩, fun _ _ _ _ => rfl, fun _ => ⟨rfl, rfl⟩⟩
theorem fR_Jo_22 : qFlR "QueryFleet$Job" 22 8 7 true := ⟨⟨by decide, by decide, R_Jo, F_Jo, rfl, ws_Jo, ty_Jo, nm_Jo, rfl, rfl, Or.inl (qw2 109 rfl rfl)⟩, fun _ _ _ _ => rfl, fun _ => ⟨rfl, rfl⟩⟩
theorem fF_Jo_22 : qFlRF "QueryFleet$Job" 22 8 7 := ⟨⟨by decide, by decide, F_Jo, rfl, ws_Jo, ty_Jo, nm_Jo, rfl, rfl, (qw2 109 rfl rfl)⟩, fun _ _ _ _ => rfl, fun _ => ⟨rfl, rfl⟩⟩
theorem fR_Jo_26 : qFlR "QueryFleet$Job" 26 8 8 true := ⟨⟨by decide, by decide, R_Jo, F_Jo, rfl, ws_Jo, ty_Jo, nm_Jo, rfl, rfl, Or.inl (qw2 111 rfl rfl)⟩, fun _ _ _ _ => rfl, fun _ => ⟨rfl, rfl⟩⟩
theorem fF_Jo_26 : qFlRF "QueryFleet$Job" 26 8 8 := ⟨⟨by decide, by decide, F_Jo, rfl, ws_Jo, ty_Jo, nm_Jo, rfl, rfl, (qw2 111 rfl rfl)⟩, fun _ _ _ _ => rfl, fun _ => ⟨rfl, rfl⟩⟩
theorem fI_Jo_31 : qFlI "QueryFleet$Job" 31 8 0 false := ⟨⟨by decide, by decide, R_Jo, F_Jo, rfl, ws_Jo, ty_Jo, nm_Jo, rfl, rfl, Or.inl (qw2 97 rfl rfl)⟩, fun _ _ _ _ => rfl⟩
theorem fI_Jo_35 : qFlI "QueryFleet$Job" 35 8 1 false := ⟨⟨by decide, by decide, R_Jo, F_Jo, rfl, ws_Jo, ty_Jo, nm_Jo, rfl, rfl, Or.inl (qw2 99 rfl rfl)⟩, fun _ _ _ _ => rfl⟩
theorem fI_Jo_39 : qFlI "QueryFleet$Job" 39 8 3 false := ⟨⟨by decide, by decide, R_Jo, F_Jo, rfl, ws_Jo, ty_Jo, nm_Jo, rfl, rfl, Or.inl (qw2 103 rfl rfl)⟩, fun _ _ _ _ => rfl⟩
theorem fI_Jo_42 : qFlI "QueryFleet$Job" 42 8 4 false := ⟨⟨by decide, by decide, R_Jo, F_Jo, rfl, ws_Jo, ty_Jo, nm_Jo, rfl, rfl, Or.inl (qw2 105 rfl rfl)⟩, fun _ _ _ _ => rfl⟩
theorem fI_Jo_45 : qFlI "QueryFleet$Job" 45 8 5 false := ⟨⟨by decide, by decide, R_Jo, F_Jo, rfl, ws_Jo, ty_Jo, nm_Jo, rfl, rfl, Or.inl (qw2 106 rfl rfl)⟩, fun _ _ _ _ => rfl⟩
theorem fI_Jo_51 : qFlI "QueryFleet$Job" 51 9 3 false := ⟨⟨by decide, by decide, R_Li, F_Li, rfl, ws_Li, ty_Li, nm_Li, rfl, rfl, Or.inr ⟨"QueryFleet", List.mem_of_getElem? (i := 38) rfl⟩⟩, fun _ _ _ _ => rfl⟩
theorem fI_Jo_58 : qFlI "QueryFleet$Job" 58 10 3 false := ⟨⟨by decide, by decide, R_Ta, F_Ta, rfl, ws_Ta, ty_Ta, nm_Ta, rfl, rfl, Or.inr ⟨"QueryFleet", List.mem_of_getElem? (i := 43) rfl⟩⟩, fun _ _ _ _ => rfl⟩
theorem fI_Jo_61 : qFlI "QueryFleet$Job" 61 10 0 false := ⟨⟨by decide, by decide, R_Ta, F_Ta, rfl, ws_Ta, ty_Ta, nm_Ta, rfl, rfl, Or.inr ⟨"QueryFleet", List.mem_of_getElem? (i := 40) rfl⟩⟩, fun _ _ _ _ => rfl⟩
theorem fI_Jo_71 : qFlI "QueryFleet$Job" 71 10 5 false := ⟨⟨by decide, by decide, R_Ta, F_Ta, rfl, ws_Ta, ty_Ta, nm_Ta, rfl, rfl, Or.inr ⟨"QueryFleet", List.mem_of_getElem? (i := 45) rfl⟩⟩, fun _ _ _ _ => rfl⟩
theorem fI_Jo_78 : qFlI "QueryFleet$Job" 78 8 6 false := ⟨⟨by decide, by decide, R_Jo, F_Jo, rfl, ws_Jo, ty_Jo, nm_Jo, rfl, rfl, Or.inl (qw2 108 rfl rfl)⟩, fun _ _ _ _ => rfl⟩
theorem fI_Jo_81 : qFlI "QueryFleet$Job" 81 10 4 false := ⟨⟨by decide, by decide, R_Ta, F_Ta, rfl, ws_Ta, ty_Ta, nm_Ta, rfl, rfl, Or.inr ⟨"QueryFleet", List.mem_of_getElem? (i := 44) rfl⟩⟩, fun _ _ _ _ => rfl⟩
theorem fI_Jo_84 : qFlI "QueryFleet$Job" 84 10 1 false := ⟨⟨by decide, by decide, R_Ta, F_Ta, rfl, ws_Ta, ty_Ta, nm_Ta, rfl, rfl, Or.inr ⟨"QueryFleet", List.mem_of_getElem? (i := 41) rfl⟩⟩, fun _ _ _ _ => rfl⟩
theorem fR_Jo_93 : qFlR "QueryFleet$Job" 93 9 0 true := ⟨⟨by decide, by decide, R_Li, F_Li, rfl, ws_Li, ty_Li, nm_Li, rfl, rfl, Or.inr ⟨"QueryFleet", List.mem_of_getElem? (i := 35) rfl⟩⟩, fun _ _ _ _ => rfl, fun _ => ⟨rfl, rfl⟩⟩
theorem fR_Jo_97 : qFlR "QueryFleet$Job" 97 9 1 true := ⟨⟨by decide, by decide, R_Li, F_Li, rfl, ws_Li, ty_Li, nm_Li, rfl, rfl, Or.inr ⟨"QueryFleet", List.mem_of_getElem? (i := 36) rfl⟩⟩, fun _ _ _ _ => rfl, fun _ => ⟨rfl, rfl⟩⟩
theorem fR_Jo_99 : qFlR "QueryFleet$Job" 99 9 2 true := ⟨⟨by decide, by decide, R_Li, F_Li, rfl, ws_Li, ty_Li, nm_Li, rfl, rfl, Or.inr ⟨"QueryFleet", List.mem_of_getElem? (i := 37) rfl⟩⟩, fun _ _ _ _ => rfl, fun _ => ⟨rfl, rfl⟩⟩
theorem fI_Jo_113 : qFlI "QueryFleet$Job" 113 10 2 false := ⟨⟨by decide, by decide, R_Ta, F_Ta, rfl, ws_Ta, ty_Ta, nm_Ta, rfl, rfl, Or.inr ⟨"QueryFleet", List.mem_of_getElem? (i := 42) rfl⟩⟩, fun _ _ _ _ => rfl⟩
theorem fR_Li_7 : qFlR "QueryFleet$Line" 7 9 0 true := ⟨⟨by decide, by decide, R_Li, F_Li, rfl, ws_Li, ty_Li, nm_Li, rfl, rfl, Or.inl (qw2 48 rfl rfl)⟩, fun _ _ _ _ => rfl, fun _ => ⟨rfl, rfl⟩⟩
theorem fF_Li_7 : qFlRF "QueryFleet$Line" 7 9 0 := ⟨⟨by decide, by decide, F_Li, rfl, ws_Li, ty_Li, nm_Li, rfl, rfl, (qw2 48 rfl rfl)⟩, fun _ _ _ _ => rfl, fun _ => ⟨rfl, rfl⟩⟩
theorem fR_Li_13 : qFlR "QueryFleet$Line" 13 9 1 true := ⟨⟨by decide, by decide, R_Li, F_Li, rfl, ws_Li, ty_Li, nm_Li, rfl, rfl, Or.inl (qw2 50 rfl rfl)⟩, fun _ _ _ _ => rfl, fun _ => ⟨rfl, rfl⟩⟩
theorem fF_Li_13 : qFlRF "QueryFleet$Line" 13 9 1 := ⟨⟨by decide, by decide, F_Li, rfl, ws_Li, ty_Li, nm_Li, rfl, rfl, (qw2 50 rfl rfl)⟩, fun _ _ _ _ => rfl, fun _ => ⟨rfl, rfl⟩⟩
theorem fR_Li_16 : qFlR "QueryFleet$Line" 16 9 2 true := ⟨⟨by decide, by decide, R_Li, F_Li, rfl, ws_Li, ty_Li, nm_Li, rfl, rfl, Or.inl (qw2 52 rfl rfl)⟩, fun _ _ _ _ => rfl, fun _ => ⟨rfl, rfl⟩⟩
theorem fF_Li_16 : qFlRF "QueryFleet$Line" 16 9 2 := ⟨⟨by decide, by decide, F_Li, rfl, ws_Li, ty_Li, nm_Li, rfl, rfl, (qw2 52 rfl rfl)⟩, fun _ _ _ _ => rfl, fun _ => ⟨rfl, rfl⟩⟩
theorem fI_Li_19 : qFlI "QueryFleet$Line" 19 9 3 false := ⟨⟨by decide, by decide, R_Li, F_Li, rfl, ws_Li, ty_Li, nm_Li, rfl, rfl, Or.inl (qw2 54 rfl rfl)⟩, fun _ _ _ _ => rfl⟩
theorem fR_Ma_9 : qFlR "QueryFleet$Machine" 9 4 0 true := ⟨⟨by decide, by decide, R_Ma, F_Ma, rfl, ws_Ma, ty_Ma, nm_Ma, rfl, rfl, Or.inl (qw1 147 rfl rfl)⟩, fun _ _ _ _ => rfl, fun _ => ⟨rfl, rfl⟩⟩
theorem fF_Ma_9 : qFlRF "QueryFleet$Machine" 9 4 0 := ⟨⟨by decide, by decide, F_Ma, rfl, ws_Ma, ty_Ma, nm_Ma, rfl, rfl, (qw1 147 rfl rfl)⟩, fun _ _ _ _ => rfl, fun _ => ⟨rfl, rfl⟩⟩
theorem fR_Ma_15 : qFlR "QueryFleet$Machine" 15 4 1 true := ⟨⟨by decide, by decide, R_Ma, F_Ma, rfl, ws_Ma, ty_Ma, nm_Ma, rfl, rfl, Or.inl (qw1 149 rfl rfl)⟩, fun _ _ _ _ => rfl, fun _ => ⟨rfl, rfl⟩⟩
theorem fF_Ma_15 : qFlRF "QueryFleet$Machine" 15 4 1 := ⟨⟨by decide, by decide, F_Ma, rfl, ws_Ma, ty_Ma, nm_Ma, rfl, rfl, (qw1 149 rfl rfl)⟩, fun _ _ _ _ => rfl, fun _ => ⟨rfl, rfl⟩⟩
theorem fR_Ma_19 : qFlR "QueryFleet$Machine" 19 4 2 true := ⟨⟨by decide, by decide, R_Ma, F_Ma, rfl, ws_Ma, ty_Ma, nm_Ma, rfl, rfl, Or.inl (qw1 151 rfl rfl)⟩, fun _ _ _ _ => rfl, fun _ => ⟨rfl, rfl⟩⟩
theorem fF_Ma_19 : qFlRF "QueryFleet$Machine" 19 4 2 := ⟨⟨by decide, by decide, F_Ma, rfl, ws_Ma, ty_Ma, nm_Ma, rfl, rfl, (qw1 151 rfl rfl)⟩, fun _ _ _ _ => rfl, fun _ => ⟨rfl, rfl⟩⟩
theorem fR_Ma_22 : qFlR "QueryFleet$Machine" 22 4 3 true := ⟨⟨by decide, by decide, R_Ma, F_Ma, rfl, ws_Ma, ty_Ma, nm_Ma, rfl, rfl, Or.inl (qw1 152 rfl rfl)⟩, fun _ _ _ _ => rfl, fun _ => ⟨rfl, rfl⟩⟩
theorem fF_Ma_22 : qFlRF "QueryFleet$Machine" 22 4 3 := ⟨⟨by decide, by decide, F_Ma, rfl, ws_Ma, ty_Ma, nm_Ma, rfl, rfl, (qw1 152 rfl rfl)⟩, fun _ _ _ _ => rfl, fun _ => ⟨rfl, rfl⟩⟩
theorem fI_Ma_39 : qFlI "QueryFleet$Machine" 39 3 2 false := ⟨⟨by decide, by decide, R_Ex, F_Ex, rfl, ws_Ex, ty_Ex, nm_Ex, rfl, rfl, Or.inr ⟨"QueryFleet", List.mem_of_getElem? (i := 2) rfl⟩⟩, fun _ _ _ _ => rfl⟩
theorem fR_Ma_45 : qFlR "QueryFleet$Machine" 45 3 0 true := ⟨⟨by decide, by decide, R_Ex, F_Ex, rfl, ws_Ex, ty_Ex, nm_Ex, rfl, rfl, Or.inr ⟨"QueryFleet", List.mem_of_getElem? (i := 0) rfl⟩⟩, fun _ _ _ _ => rfl, fun _ => ⟨rfl, rfl⟩⟩
theorem fR_Ma_49 : qFlR "QueryFleet$Machine" 49 3 1 true := ⟨⟨by decide, by decide, R_Ex, F_Ex, rfl, ws_Ex, ty_Ex, nm_Ex, rfl, rfl, Or.inr ⟨"QueryFleet", List.mem_of_getElem? (i := 1) rfl⟩⟩, fun _ _ _ _ => rfl, fun _ => ⟨rfl, rfl⟩⟩
theorem fR_Pl_11 : qFlR "QueryFleet$Plan" 11 1 0 true := ⟨⟨by decide, by decide, R_Pl, F_Pl, rfl, ws_Pl, ty_Pl, nm_Pl, rfl, rfl, Or.inl (qw1 205 rfl rfl)⟩, fun _ _ _ _ => rfl, fun _ => ⟨rfl, rfl⟩⟩
theorem fF_Pl_11 : qFlRF "QueryFleet$Plan" 11 1 0 := ⟨⟨by decide, by decide, F_Pl, rfl, ws_Pl, ty_Pl, nm_Pl, rfl, rfl, (qw1 205 rfl rfl)⟩, fun _ _ _ _ => rfl, fun _ => ⟨rfl, rfl⟩⟩
theorem fR_Pl_20 : qFlR "QueryFleet$Plan" 20 1 1 true := ⟨⟨by decide, by decide, R_Pl, F_Pl, rfl, ws_Pl, ty_Pl, nm_Pl, rfl, rfl, Or.inl (qw1 207 rfl rfl)⟩, fun _ _ _ _ => rfl, fun _ => ⟨rfl, rfl⟩⟩
theorem fF_Pl_20 : qFlRF "QueryFleet$Plan" 20 1 1 := ⟨⟨by decide, by decide, F_Pl, rfl, ws_Pl, ty_Pl, nm_Pl, rfl, rfl, (qw1 207 rfl rfl)⟩, fun _ _ _ _ => rfl, fun _ => ⟨rfl, rfl⟩⟩
theorem fR_Pl_27 : qFlR "QueryFleet$Plan" 27 1 2 true := ⟨⟨by decide, by decide, R_Pl, F_Pl, rfl, ws_Pl, ty_Pl, nm_Pl, rfl, rfl, Or.inl (qw1 209 rfl rfl)⟩, fun _ _ _ _ => rfl, fun _ => ⟨rfl, rfl⟩⟩
theorem fF_Pl_27 : qFlRF "QueryFleet$Plan" 27 1 2 := ⟨⟨by decide, by decide, F_Pl, rfl, ws_Pl, ty_Pl, nm_Pl, rfl, rfl, (qw1 209 rfl rfl)⟩, fun _ _ _ _ => rfl, fun _ => ⟨rfl, rfl⟩⟩
theorem fR_Pl_34 : qFlR "QueryFleet$Plan" 34 1 3 true := ⟨⟨by decide, by decide, R_Pl, F_Pl, rfl, ws_Pl, ty_Pl, nm_Pl, rfl, rfl, Or.inl (qw1 210 rfl rfl)⟩, fun _ _ _ _ => rfl, fun _ => ⟨rfl, rfl⟩⟩
theorem fF_Pl_34 : qFlRF "QueryFleet$Plan" 34 1 3 := ⟨⟨by decide, by decide, F_Pl, rfl, ws_Pl, ty_Pl, nm_Pl, rfl, rfl, (qw1 210 rfl rfl)⟩, fun _ _ _ _ => rfl, fun _ => ⟨rfl, rfl⟩⟩
theorem fR_Pl_38 : qFlR "QueryFleet$Plan" 38 1 4 true := ⟨⟨by decide, by decide, R_Pl, F_Pl, rfl, ws_Pl, ty_Pl, nm_Pl, rfl, rfl, Or.inl (qw1 211 rfl rfl)⟩, fun _ _ _ _ => rfl, fun _ => ⟨rfl, rfl⟩⟩
theorem fF_Pl_38 : qFlRF "QueryFleet$Plan" 38 1 4 := ⟨⟨by decide, by decide, F_Pl, rfl, ws_Pl, ty_Pl, nm_Pl, rfl, rfl, (qw1 211 rfl rfl)⟩, fun _ _ _ _ => rfl, fun _ => ⟨rfl, rfl⟩⟩
theorem fR_Pl_42 : qFlR "QueryFleet$Plan" 42 1 5 true := ⟨⟨by decide, by decide, R_Pl, F_Pl, rfl, ws_Pl, ty_Pl, nm_Pl, rfl, rfl, Or.inl (qw1 212 rfl rfl)⟩, fun _ _ _ _ => rfl, fun _ => ⟨rfl, rfl⟩⟩
theorem fF_Pl_42 : qFlRF "QueryFleet$Plan" 42 1 5 := ⟨⟨by decide, by decide, F_Pl, rfl, ws_Pl, ty_Pl, nm_Pl, rfl, rfl, (qw1 212 rfl rfl)⟩, fun _ _ _ _ => rfl, fun _ => ⟨rfl, rfl⟩⟩
theorem fR_Pl_45 : qFlR "QueryFleet$Plan" 45 1 7 true := ⟨⟨by decide, by decide, R_Pl, F_Pl, rfl, ws_Pl, ty_Pl, nm_Pl, rfl, rfl, Or.inl (qw1 214 rfl rfl)⟩, fun _ _ _ _ => rfl, fun _ => ⟨rfl, rfl⟩⟩
theorem fF_Pl_45 : qFlRF "QueryFleet$Plan" 45 1 7 := ⟨⟨by decide, by decide, F_Pl, rfl, ws_Pl, ty_Pl, nm_Pl, rfl, rfl, (qw1 214 rfl rfl)⟩, fun _ _ _ _ => rfl, fun _ => ⟨rfl, rfl⟩⟩
theorem fR_Pl_48 : qFlR "QueryFleet$Plan" 48 1 8 true := ⟨⟨by decide, by decide, R_Pl, F_Pl, rfl, ws_Pl, ty_Pl, nm_Pl, rfl, rfl, Or.inl (qw1 215 rfl rfl)⟩, fun _ _ _ _ => rfl, fun _ => ⟨rfl, rfl⟩⟩
theorem fF_Pl_48 : qFlRF "QueryFleet$Plan" 48 1 8 := ⟨⟨by decide, by decide, F_Pl, rfl, ws_Pl, ty_Pl, nm_Pl, rfl, rfl, (qw1 215 rfl rfl)⟩, fun _ _ _ _ => rfl, fun _ => ⟨rfl, rfl⟩⟩
theorem fR_Pl_52 : qFlR "QueryFleet$Plan" 52 1 9 true := ⟨⟨by decide, by decide, R_Pl, F_Pl, rfl, ws_Pl, ty_Pl, nm_Pl, rfl, rfl, Or.inl (qw1 216 rfl rfl)⟩, fun _ _ _ _ => rfl, fun _ => ⟨rfl, rfl⟩⟩
theorem fF_Pl_52 : qFlRF "QueryFleet$Plan" 52 1 9 := ⟨⟨by decide, by decide, F_Pl, rfl, ws_Pl, ty_Pl, nm_Pl, rfl, rfl, (qw1 216 rfl rfl)⟩, fun _ _ _ _ => rfl, fun _ => ⟨rfl, rfl⟩⟩
theorem fI_Pl_57 : qFlI "QueryFleet$Plan" 57 2 2 false := ⟨⟨by decide, by decide, R_Qu, F_Qu, rfl, ws_Qu, ty_Qu, nm_Qu, rfl, rfl, Or.inr ⟨"QueryFleet", List.mem_of_getElem? (i := 7) rfl⟩⟩, fun _ _ _ _ => rfl⟩
theorem fI_Pl_61 : qFlI "QueryFleet$Plan" 61 2 3 false := ⟨⟨by decide, by decide, R_Qu, F_Qu, rfl, ws_Qu, ty_Qu, nm_Qu, rfl, rfl, Or.inr ⟨"QueryFleet", List.mem_of_getElem? (i := 8) rfl⟩⟩, fun _ _ _ _ => rfl⟩
theorem fI_Pl_68 : qFlI "QueryFleet$Plan" 68 6 2 false := ⟨⟨by decide, by decide, R_Tb, F_Tb, rfl, ws_Tb, ty_Tb, nm_Tb, rfl, rfl, Or.inr ⟨"QueryFleet", List.mem_of_getElem? (i := 27) rfl⟩⟩, fun _ _ _ _ => rfl⟩
theorem fI_Pl_71 : qFlI "QueryFleet$Plan" 71 1 6 false := ⟨⟨by decide, by decide, R_Pl, F_Pl, rfl, ws_Pl, ty_Pl, nm_Pl, rfl, rfl, Or.inl (qw1 213 rfl rfl)⟩, fun _ _ _ _ => rfl⟩
theorem fI_Pl_82 : qFlI "QueryFleet$Plan" 82 2 1 false := ⟨⟨by decide, by decide, R_Qu, F_Qu, rfl, ws_Qu, ty_Qu, nm_Qu, rfl, rfl, Or.inr ⟨"QueryFleet", List.mem_of_getElem? (i := 6) rfl⟩⟩, fun _ _ _ _ => rfl⟩
theorem fI_Pl_85 : qFlI "QueryFleet$Plan" 85 2 4 false := ⟨⟨by decide, by decide, R_Qu, F_Qu, rfl, ws_Qu, ty_Qu, nm_Qu, rfl, rfl, Or.inr ⟨"QueryFleet", List.mem_of_getElem? (i := 9) rfl⟩⟩, fun _ _ _ _ => rfl⟩
theorem fI_Pl_92 : qFlI "QueryFleet$Plan" 92 2 5 false := ⟨⟨by decide, by decide, R_Qu, F_Qu, rfl, ws_Qu, ty_Qu, nm_Qu, rfl, rfl, Or.inr ⟨"QueryFleet", List.mem_of_getElem? (i := 10) rfl⟩⟩, fun _ _ _ _ => rfl⟩
theorem fI_Pl_102 : qFlI "QueryFleet$Plan" 102 2 9 false := ⟨⟨by decide, by decide, R_Qu, F_Qu, rfl, ws_Qu, ty_Qu, nm_Qu, rfl, rfl, Or.inr ⟨"QueryFleet", List.mem_of_getElem? (i := 13) rfl⟩⟩, fun _ _ _ _ => rfl⟩
theorem fR_Pl_105 : qFlR "QueryFleet$Plan" 105 2 8 true := ⟨⟨by decide, by decide, R_Qu, F_Qu, rfl, ws_Qu, ty_Qu, nm_Qu, rfl, rfl, Or.inr ⟨"QueryFleet", List.mem_of_getElem? (i := 12) rfl⟩⟩, fun _ _ _ _ => rfl, fun _ => ⟨rfl, rfl⟩⟩
theorem fI_Pl_123 : qFlI "QueryFleet$Plan" 123 1 10 false := ⟨⟨by decide, by decide, R_Pl, F_Pl, rfl, ws_Pl, ty_Pl, nm_Pl, rfl, rfl, Or.inl (qw1 217 rfl rfl)⟩, fun _ _ _ _ => rfl⟩
theorem fR_Pl_130 : qFlR "QueryFleet$Plan" 130 4 0 true := ⟨⟨by decide, by decide, R_Ma, F_Ma, rfl, ws_Ma, ty_Ma, nm_Ma, rfl, rfl, Or.inr ⟨"QueryFleet", List.mem_of_getElem? (i := 25) rfl⟩⟩, fun _ _ _ _ => rfl, fun _ => ⟨rfl, rfl⟩⟩
theorem fI_Pl_133 : qFlI "QueryFleet$Plan" 133 2 13 false := ⟨⟨by decide, by decide, R_Qu, F_Qu, rfl, ws_Qu, ty_Qu, nm_Qu, rfl, rfl, Or.inr ⟨"QueryFleet", List.mem_of_getElem? (i := 17) rfl⟩⟩, fun _ _ _ _ => rfl⟩
theorem fR_Pl_136 : qFlR "QueryFleet$Plan" 136 4 1 true := ⟨⟨by decide, by decide, R_Ma, F_Ma, rfl, ws_Ma, ty_Ma, nm_Ma, rfl, rfl, Or.inr ⟨"QueryFleet", List.mem_of_getElem? (i := 26) rfl⟩⟩, fun _ _ _ _ => rfl, fun _ => ⟨rfl, rfl⟩⟩
theorem fI_Pl_143 : qFlI "QueryFleet$Plan" 143 7 4 false := ⟨⟨by decide, by decide, R_Re, F_Re, rfl, ws_Re, ty_Re, nm_Re, rfl, rfl, Or.inr ⟨"QueryFleet", List.mem_of_getElem? (i := 31) rfl⟩⟩, fun _ _ _ _ => rfl⟩
theorem fI_Pl_151 : qFlI "QueryFleet$Plan" 151 7 3 false := ⟨⟨by decide, by decide, R_Re, F_Re, rfl, ws_Re, ty_Re, nm_Re, rfl, rfl, Or.inr ⟨"QueryFleet", List.mem_of_getElem? (i := 30) rfl⟩⟩, fun _ _ _ _ => rfl⟩
theorem fI_Pl_161 : qFlI "QueryFleet$Plan" 161 2 12 false := ⟨⟨by decide, by decide, R_Qu, F_Qu, rfl, ws_Qu, ty_Qu, nm_Qu, rfl, rfl, Or.inr ⟨"QueryFleet", List.mem_of_getElem? (i := 16) rfl⟩⟩, fun _ _ _ _ => rfl⟩
theorem fR_Pl_164 : qFlR "QueryFleet$Plan" 164 2 10 true := ⟨⟨by decide, by decide, R_Qu, F_Qu, rfl, ws_Qu, ty_Qu, nm_Qu, rfl, rfl, Or.inr ⟨"QueryFleet", List.mem_of_getElem? (i := 14) rfl⟩⟩, fun _ _ _ _ => rfl, fun _ => ⟨rfl, rfl⟩⟩
theorem fR_Pl_180 : qFlR "QueryFleet$Plan" 180 2 11 true := ⟨⟨by decide, by decide, R_Qu, F_Qu, rfl, ws_Qu, ty_Qu, nm_Qu, rfl, rfl, Or.inr ⟨"QueryFleet", List.mem_of_getElem? (i := 15) rfl⟩⟩, fun _ _ _ _ => rfl, fun _ => ⟨rfl, rfl⟩⟩
theorem fR_Qu_15 : qFlR "QueryFleet$Query" 15 2 6 true := ⟨⟨by decide, by decide, R_Qu, F_Qu, rfl, ws_Qu, ty_Qu, nm_Qu, rfl, rfl, Or.inl (qw1 81 rfl rfl)⟩, fun _ _ _ _ => rfl, fun _ => ⟨rfl, rfl⟩⟩
theorem fF_Qu_15 : qFlRF "QueryFleet$Query" 15 2 6 := ⟨⟨by decide, by decide, F_Qu, rfl, ws_Qu, ty_Qu, nm_Qu, rfl, rfl, (qw1 81 rfl rfl)⟩, fun _ _ _ _ => rfl, fun _ => ⟨rfl, rfl⟩⟩
theorem fR_Qu_19 : qFlR "QueryFleet$Query" 19 2 8 true := ⟨⟨by decide, by decide, R_Qu, F_Qu, rfl, ws_Qu, ty_Qu, nm_Qu, rfl, rfl, Or.inl (qw1 84 rfl rfl)⟩, fun _ _ _ _ => rfl, fun _ => ⟨rfl, rfl⟩⟩
theorem fF_Qu_19 : qFlRF "QueryFleet$Query" 19 2 8 := ⟨⟨by decide, by decide, F_Qu, rfl, ws_Qu, ty_Qu, nm_Qu, rfl, rfl, (qw1 84 rfl rfl)⟩, fun _ _ _ _ => rfl, fun _ => ⟨rfl, rfl⟩⟩
theorem fR_Qu_22 : qFlR "QueryFleet$Query" 22 2 10 true := ⟨⟨by decide, by decide, R_Qu, F_Qu, rfl, ws_Qu, ty_Qu, nm_Qu, rfl, rfl, Or.inl (qw1 88 rfl rfl)⟩, fun _ _ _ _ => rfl, fun _ => ⟨rfl, rfl⟩⟩
theorem fF_Qu_22 : qFlRF "QueryFleet$Query" 22 2 10 := ⟨⟨by decide, by decide, F_Qu, rfl, ws_Qu, ty_Qu, nm_Qu, rfl, rfl, (qw1 88 rfl rfl)⟩, fun _ _ _ _ => rfl, fun _ => ⟨rfl, rfl⟩⟩
theorem fR_Qu_25 : qFlR "QueryFleet$Query" 25 2 11 true := ⟨⟨by decide, by decide, R_Qu, F_Qu, rfl, ws_Qu, ty_Qu, nm_Qu, rfl, rfl, Or.inl (qw1 90 rfl rfl)⟩, fun _ _ _ _ => rfl, fun _ => ⟨rfl, rfl⟩⟩
theorem fF_Qu_25 : qFlRF "QueryFleet$Query" 25 2 11 := ⟨⟨by decide, by decide, F_Qu, rfl, ws_Qu, ty_Qu, nm_Qu, rfl, rfl, (qw1 90 rfl rfl)⟩, fun _ _ _ _ => rfl, fun _ => ⟨rfl, rfl⟩⟩
theorem fI_Qu_29 : qFlI "QueryFleet$Query" 29 2 13 false := ⟨⟨by decide, by decide, R_Qu, F_Qu, rfl, ws_Qu, ty_Qu, nm_Qu, rfl, rfl, Or.inl (qw1 94 rfl rfl)⟩, fun _ _ _ _ => rfl⟩
theorem fI_Qu_33 : qFlI "QueryFleet$Query" 33 2 16 false := ⟨⟨by decide, by decide, R_Qu, F_Qu, rfl, ws_Qu, ty_Qu, nm_Qu, rfl, rfl, Or.inl (qw1 103 rfl rfl)⟩, fun _ _ _ _ => rfl⟩
theorem fI_Qu_39 : qFlI "QueryFleet$Query" 39 2 0 false := ⟨⟨by decide, by decide, R_Qu, F_Qu, rfl, ws_Qu, ty_Qu, nm_Qu, rfl, rfl, Or.inl (qw1 69 rfl rfl)⟩, fun _ _ _ _ => rfl⟩
theorem fI_Qu_43 : qFlI "QueryFleet$Query" 43 2 1 false := ⟨⟨by decide, by decide, R_Qu, F_Qu, rfl, ws_Qu, ty_Qu, nm_Qu, rfl, rfl, Or.inl (qw1 72 rfl rfl)⟩, fun _ _ _ _ => rfl⟩
theorem fI_Qu_46 : qFlI "QueryFleet$Query" 46 2 2 false := ⟨⟨by decide, by decide, R_Qu, F_Qu, rfl, ws_Qu, ty_Qu, nm_Qu, rfl, rfl, Or.inl (qw1 74 rfl rfl)⟩, fun _ _ _ _ => rfl⟩
theorem fI_Qu_49 : qFlI "QueryFleet$Query" 49 2 3 false := ⟨⟨by decide, by decide, R_Qu, F_Qu, rfl, ws_Qu, ty_Qu, nm_Qu, rfl, rfl, Or.inl (qw1 76 rfl rfl)⟩, fun _ _ _ _ => rfl⟩
theorem fI_Qu_52 : qFlI "QueryFleet$Query" 52 2 4 false := ⟨⟨by decide, by decide, R_Qu, F_Qu, rfl, ws_Qu, ty_Qu, nm_Qu, rfl, rfl, Or.inl (qw1 78 rfl rfl)⟩, fun _ _ _ _ => rfl⟩
theorem fI_Qu_55 : qFlI "QueryFleet$Query" 55 2 5 false := ⟨⟨by decide, by decide, R_Qu, F_Qu, rfl, ws_Qu, ty_Qu, nm_Qu, rfl, rfl, Or.inl (qw1 80 rfl rfl)⟩, fun _ _ _ _ => rfl⟩
theorem fI_Qu_58 : qFlI "QueryFleet$Query" 58 2 7 false := ⟨⟨by decide, by decide, R_Qu, F_Qu, rfl, ws_Qu, ty_Qu, nm_Qu, rfl, rfl, Or.inl (qw1 82 rfl rfl)⟩, fun _ _ _ _ => rfl⟩
theorem fI_Qu_61 : qFlI "QueryFleet$Query" 61 2 9 false := ⟨⟨by decide, by decide, R_Qu, F_Qu, rfl, ws_Qu, ty_Qu, nm_Qu, rfl, rfl, Or.inl (qw1 86 rfl rfl)⟩, fun _ _ _ _ => rfl⟩
theorem fI_Qu_64 : qFlI "QueryFleet$Query" 64 2 12 false := ⟨⟨by decide, by decide, R_Qu, F_Qu, rfl, ws_Qu, ty_Qu, nm_Qu, rfl, rfl, Or.inl (qw1 92 rfl rfl)⟩, fun _ _ _ _ => rfl⟩
theorem fI_Qu_67 : qFlI "QueryFleet$Query" 67 2 14 false := ⟨⟨by decide, by decide, R_Qu, F_Qu, rfl, ws_Qu, ty_Qu, nm_Qu, rfl, rfl, Or.inl (qw1 97 rfl rfl)⟩, fun _ _ _ _ => rfl⟩
theorem fI_Qu_70 : qFlI "QueryFleet$Query" 70 2 15 false := ⟨⟨by decide, by decide, R_Qu, F_Qu, rfl, ws_Qu, ty_Qu, nm_Qu, rfl, rfl, Or.inl (qw1 100 rfl rfl)⟩, fun _ _ _ _ => rfl⟩
theorem fI_Qu_96 : qFlI "QueryFleet$Query" 96 3 3 false := ⟨⟨by decide, by decide, R_Ex, F_Ex, rfl, ws_Ex, ty_Ex, nm_Ex, rfl, rfl, Or.inr ⟨"QueryFleet", List.mem_of_getElem? (i := 4) rfl⟩⟩, fun _ _ _ _ => rfl⟩
theorem fI_Qu_99 : qFlI "QueryFleet$Query" 99 3 2 false := ⟨⟨by decide, by decide, R_Ex, F_Ex, rfl, ws_Ex, ty_Ex, nm_Ex, rfl, rfl, Or.inr ⟨"QueryFleet", List.mem_of_getElem? (i := 3) rfl⟩⟩, fun _ _ _ _ => rfl⟩
theorem fR_Re_9 : qFlR "QueryFleet$Result" 9 7 0 true := ⟨⟨by decide, by decide, R_Re, F_Re, rfl, ws_Re, ty_Re, nm_Re, rfl, rfl, Or.inl (qw2 7 rfl rfl)⟩, fun _ _ _ _ => rfl, fun _ => ⟨rfl, rfl⟩⟩
theorem fF_Re_9 : qFlRF "QueryFleet$Result" 9 7 0 := ⟨⟨by decide, by decide, F_Re, rfl, ws_Re, ty_Re, nm_Re, rfl, rfl, (qw2 7 rfl rfl)⟩, fun _ _ _ _ => rfl, fun _ => ⟨rfl, rfl⟩⟩
theorem fR_Re_15 : qFlR "QueryFleet$Result" 15 7 1 true := ⟨⟨by decide, by decide, R_Re, F_Re, rfl, ws_Re, ty_Re, nm_Re, rfl, rfl, Or.inl (qw2 8 rfl rfl)⟩, fun _ _ _ _ => rfl, fun _ => ⟨rfl, rfl⟩⟩
theorem fF_Re_15 : qFlRF "QueryFleet$Result" 15 7 1 := ⟨⟨by decide, by decide, F_Re, rfl, ws_Re, ty_Re, nm_Re, rfl, rfl, (qw2 8 rfl rfl)⟩, fun _ _ _ _ => rfl, fun _ => ⟨rfl, rfl⟩⟩
theorem fR_Re_19 : qFlR "QueryFleet$Result" 19 7 2 true := ⟨⟨by decide, by decide, R_Re, F_Re, rfl, ws_Re, ty_Re, nm_Re, rfl, rfl, Or.inl (qw2 9 rfl rfl)⟩, fun _ _ _ _ => rfl, fun _ => ⟨rfl, rfl⟩⟩
theorem fF_Re_19 : qFlRF "QueryFleet$Result" 19 7 2 := ⟨⟨by decide, by decide, F_Re, rfl, ws_Re, ty_Re, nm_Re, rfl, rfl, (qw2 9 rfl rfl)⟩, fun _ _ _ _ => rfl, fun _ => ⟨rfl, rfl⟩⟩
theorem fI_Re_23 : qFlI "QueryFleet$Result" 23 2 14 false := ⟨⟨by decide, by decide, R_Qu, F_Qu, rfl, ws_Qu, ty_Qu, nm_Qu, rfl, rfl, Or.inr ⟨"QueryFleet", List.mem_of_getElem? (i := 19) rfl⟩⟩, fun _ _ _ _ => rfl⟩
theorem fI_Re_29 : qFlI "QueryFleet$Result" 29 7 4 false := ⟨⟨by decide, by decide, R_Re, F_Re, rfl, ws_Re, ty_Re, nm_Re, rfl, rfl, Or.inl (qw2 12 rfl rfl)⟩, fun _ _ _ _ => rfl⟩
theorem fI_Re_32 : qFlI "QueryFleet$Result" 32 7 3 false := ⟨⟨by decide, by decide, R_Re, F_Re, rfl, ws_Re, ty_Re, nm_Re, rfl, rfl, Or.inl (qw2 10 rfl rfl)⟩, fun _ _ _ _ => rfl⟩
theorem fI_Re_35 : qFlI "QueryFleet$Result" 35 2 15 false := ⟨⟨by decide, by decide, R_Qu, F_Qu, rfl, ws_Qu, ty_Qu, nm_Qu, rfl, rfl, Or.inr ⟨"QueryFleet", List.mem_of_getElem? (i := 21) rfl⟩⟩, fun _ _ _ _ => rfl⟩
theorem fI_Re_43 : qFlI "QueryFleet$Result" 43 2 16 false := ⟨⟨by decide, by decide, R_Qu, F_Qu, rfl, ws_Qu, ty_Qu, nm_Qu, rfl, rfl, Or.inr ⟨"QueryFleet", List.mem_of_getElem? (i := 23) rfl⟩⟩, fun _ _ _ _ => rfl⟩
theorem fI_Re_52 : qFlI "QueryFleet$Result" 52 7 5 false := ⟨⟨by decide, by decide, R_Re, F_Re, rfl, ws_Re, ty_Re, nm_Re, rfl, rfl, Or.inl (qw2 15 rfl rfl)⟩, fun _ _ _ _ => rfl⟩
theorem fI_Re_64 : qFlI "QueryFleet$Result" 64 7 6 false := ⟨⟨by decide, by decide, R_Re, F_Re, rfl, ws_Re, ty_Re, nm_Re, rfl, rfl, Or.inl (qw2 17 rfl rfl)⟩, fun _ _ _ _ => rfl⟩
theorem fR_Tb_9 : qFlR "QueryFleet$Table" 9 6 0 true := ⟨⟨by decide, by decide, R_Tb, F_Tb, rfl, ws_Tb, ty_Tb, nm_Tb, rfl, rfl, Or.inl (qw1 194 rfl rfl)⟩, fun _ _ _ _ => rfl, fun _ => ⟨rfl, rfl⟩⟩
theorem fF_Tb_9 : qFlRF "QueryFleet$Table" 9 6 0 := ⟨⟨by decide, by decide, F_Tb, rfl, ws_Tb, ty_Tb, nm_Tb, rfl, rfl, (qw1 194 rfl rfl)⟩, fun _ _ _ _ => rfl, fun _ => ⟨rfl, rfl⟩⟩
theorem fR_Tb_15 : qFlR "QueryFleet$Table" 15 6 1 true := ⟨⟨by decide, by decide, R_Tb, F_Tb, rfl, ws_Tb, ty_Tb, nm_Tb, rfl, rfl, Or.inl (qw1 195 rfl rfl)⟩, fun _ _ _ _ => rfl, fun _ => ⟨rfl, rfl⟩⟩
theorem fF_Tb_15 : qFlRF "QueryFleet$Table" 15 6 1 := ⟨⟨by decide, by decide, F_Tb, rfl, ws_Tb, ty_Tb, nm_Tb, rfl, rfl, (qw1 195 rfl rfl)⟩, fun _ _ _ _ => rfl, fun _ => ⟨rfl, rfl⟩⟩
theorem fI_Tb_19 : qFlI "QueryFleet$Table" 19 6 2 false := ⟨⟨by decide, by decide, R_Tb, F_Tb, rfl, ws_Tb, ty_Tb, nm_Tb, rfl, rfl, Or.inl (qw1 196 rfl rfl)⟩, fun _ _ _ _ => rfl⟩
theorem fI_Ta_9 : qFlI "QueryFleet$Task" 9 10 0 false := ⟨⟨by decide, by decide, R_Ta, F_Ta, rfl, ws_Ta, ty_Ta, nm_Ta, rfl, rfl, Or.inl (qw2 72 rfl rfl)⟩, fun _ _ _ _ => rfl⟩
theorem fI_Ta_15 : qFlI "QueryFleet$Task" 15 10 1 false := ⟨⟨by decide, by decide, R_Ta, F_Ta, rfl, ws_Ta, ty_Ta, nm_Ta, rfl, rfl, Or.inl (qw2 74 rfl rfl)⟩, fun _ _ _ _ => rfl⟩
theorem fI_Ta_18 : qFlI "QueryFleet$Task" 18 10 2 false := ⟨⟨by decide, by decide, R_Ta, F_Ta, rfl, ws_Ta, ty_Ta, nm_Ta, rfl, rfl, Or.inl (qw2 76 rfl rfl)⟩, fun _ _ _ _ => rfl⟩
theorem fI_Ta_21 : qFlI "QueryFleet$Task" 21 10 3 false := ⟨⟨by decide, by decide, R_Ta, F_Ta, rfl, ws_Ta, ty_Ta, nm_Ta, rfl, rfl, Or.inl (qw2 78 rfl rfl)⟩, fun _ _ _ _ => rfl⟩
theorem fI_Ta_24 : qFlI "QueryFleet$Task" 24 10 4 false := ⟨⟨by decide, by decide, R_Ta, F_Ta, rfl, ws_Ta, ty_Ta, nm_Ta, rfl, rfl, Or.inl (qw2 80 rfl rfl)⟩, fun _ _ _ _ => rfl⟩
theorem fI_Ta_27 : qFlI "QueryFleet$Task" 27 10 5 false := ⟨⟨by decide, by decide, R_Ta, F_Ta, rfl, ws_Ta, ty_Ta, nm_Ta, rfl, rfl, Or.inl (qw2 82 rfl rfl)⟩, fun _ _ _ _ => rfl⟩
theorem fR_QM_7 : qFlR "QueryFleetModel" 7 11 0 false := ⟨⟨by decide, by decide, R_QM, F_QM, rfl, ws_QM, ty_QM, nm_QM, rfl, rfl, Or.inl (qw4 105 rfl rfl)⟩, fun _ _ _ _ => rfl, fun _ => ⟨rfl, rfl⟩⟩
theorem fR_QM_13 : qFlR "QueryFleetModel" 13 11 1 false := ⟨⟨by decide, by decide, R_QM, F_QM, rfl, ws_QM, ty_QM, nm_QM, rfl, rfl, Or.inl (qw4 106 rfl rfl)⟩, fun _ _ _ _ => rfl, fun _ => ⟨rfl, rfl⟩⟩
theorem fR_QM_17 : qFlR "QueryFleetModel" 17 11 2 false := ⟨⟨by decide, by decide, R_QM, F_QM, rfl, ws_QM, ty_QM, nm_QM, rfl, rfl, Or.inl (qw4 107 rfl rfl)⟩, fun _ _ _ _ => rfl, fun _ => ⟨rfl, rfl⟩⟩
theorem fR_QM_21 : qFlR "QueryFleetModel" 21 11 16 false := ⟨⟨by decide, by decide, R_QM, F_QM, rfl, ws_QM, ty_QM, nm_QM, rfl, rfl, Or.inl (qw4 121 rfl rfl)⟩, fun _ _ _ _ => rfl, fun _ => ⟨rfl, rfl⟩⟩
theorem fR_QM_24 : qFlR "QueryFleetModel" 24 11 17 false := ⟨⟨by decide, by decide, R_QM, F_QM, rfl, ws_QM, ty_QM, nm_QM, rfl, rfl, Or.inl (qw4 122 rfl rfl)⟩, fun _ _ _ _ => rfl, fun _ => ⟨rfl, rfl⟩⟩
theorem fR_QM_27 : qFlR "QueryFleetModel" 27 11 18 false := ⟨⟨by decide, by decide, R_QM, F_QM, rfl, ws_QM, ty_QM, nm_QM, rfl, rfl, Or.inl (qw4 123 rfl rfl)⟩, fun _ _ _ _ => rfl, fun _ => ⟨rfl, rfl⟩⟩
theorem fR_QM_30 : qFlR "QueryFleetModel" 30 11 19 false := ⟨⟨by decide, by decide, R_QM, F_QM, rfl, ws_QM, ty_QM, nm_QM, rfl, rfl, Or.inl (qw4 124 rfl rfl)⟩, fun _ _ _ _ => rfl, fun _ => ⟨rfl, rfl⟩⟩
theorem fR_QM_33 : qFlR "QueryFleetModel" 33 11 20 false := ⟨⟨by decide, by decide, R_QM, F_QM, rfl, ws_QM, ty_QM, nm_QM, rfl, rfl, Or.inl (qw4 125 rfl rfl)⟩, fun _ _ _ _ => rfl, fun _ => ⟨rfl, rfl⟩⟩
theorem fR_QM_36 : qFlR "QueryFleetModel" 36 11 21 false := ⟨⟨by decide, by decide, R_QM, F_QM, rfl, ws_QM, ty_QM, nm_QM, rfl, rfl, Or.inl (qw4 126 rfl rfl)⟩, fun _ _ _ _ => rfl, fun _ => ⟨rfl, rfl⟩⟩
theorem fR_QM_39 : qFlR "QueryFleetModel" 39 11 22 false := ⟨⟨by decide, by decide, R_QM, F_QM, rfl, ws_QM, ty_QM, nm_QM, rfl, rfl, Or.inl (qw4 127 rfl rfl)⟩, fun _ _ _ _ => rfl, fun _ => ⟨rfl, rfl⟩⟩
theorem fR_QM_42 : qFlR "QueryFleetModel" 42 11 23 false := ⟨⟨by decide, by decide, R_QM, F_QM, rfl, ws_QM, ty_QM, nm_QM, rfl, rfl, Or.inl (qw4 128 rfl rfl)⟩, fun _ _ _ _ => rfl, fun _ => ⟨rfl, rfl⟩⟩
theorem fR_QM_45 : qFlR "QueryFleetModel" 45 11 24 false := ⟨⟨by decide, by decide, R_QM, F_QM, rfl, ws_QM, ty_QM, nm_QM, rfl, rfl, Or.inl (qw4 129 rfl rfl)⟩, fun _ _ _ _ => rfl, fun _ => ⟨rfl, rfl⟩⟩
theorem fR_QM_48 : qFlR "QueryFleetModel" 48 11 26 false := ⟨⟨by decide, by decide, R_QM, F_QM, rfl, ws_QM, ty_QM, nm_QM, rfl, rfl, Or.inl (qw4 131 rfl rfl)⟩, fun _ _ _ _ => rfl, fun _ => ⟨rfl, rfl⟩⟩
theorem fR_QM_51 : qFlR "QueryFleetModel" 51 11 27 false := ⟨⟨by decide, by decide, R_QM, F_QM, rfl, ws_QM, ty_QM, nm_QM, rfl, rfl, Or.inl (qw4 132 rfl rfl)⟩, fun _ _ _ _ => rfl, fun _ => ⟨rfl, rfl⟩⟩
theorem fR_QM_54 : qFlR "QueryFleetModel" 54 11 30 false := ⟨⟨by decide, by decide, R_QM, F_QM, rfl, ws_QM, ty_QM, nm_QM, rfl, rfl, Or.inl (qw4 135 rfl rfl)⟩, fun _ _ _ _ => rfl, fun _ => ⟨rfl, rfl⟩⟩
theorem fR_QM_57 : qFlR "QueryFleetModel" 57 11 31 false := ⟨⟨by decide, by decide, R_QM, F_QM, rfl, ws_QM, ty_QM, nm_QM, rfl, rfl, Or.inl (qw4 136 rfl rfl)⟩, fun _ _ _ _ => rfl, fun _ => ⟨rfl, rfl⟩⟩
theorem fR_QM_60 : qFlR "QueryFleetModel" 60 11 32 false := ⟨⟨by decide, by decide, R_QM, F_QM, rfl, ws_QM, ty_QM, nm_QM, rfl, rfl, Or.inl (qw4 137 rfl rfl)⟩, fun _ _ _ _ => rfl, fun _ => ⟨rfl, rfl⟩⟩
theorem fR_QM_63 : qFlR "QueryFleetModel" 63 11 41 false := ⟨⟨by decide, by decide, R_QM, F_QM, rfl, ws_QM, ty_QM, nm_QM, rfl, rfl, Or.inl (qw4 146 rfl rfl)⟩, fun _ _ _ _ => rfl, fun _ => ⟨rfl, rfl⟩⟩
theorem fR_QM_66 : qFlR "QueryFleetModel" 66 11 42 false := ⟨⟨by decide, by decide, R_QM, F_QM, rfl, ws_QM, ty_QM, nm_QM, rfl, rfl, Or.inl (qw4 147 rfl rfl)⟩, fun _ _ _ _ => rfl, fun _ => ⟨rfl, rfl⟩⟩
theorem fR_QM_69 : qFlR "QueryFleetModel" 69 11 43 false := ⟨⟨by decide, by decide, R_QM, F_QM, rfl, ws_QM, ty_QM, nm_QM, rfl, rfl, Or.inl (qw4 148 rfl rfl)⟩, fun _ _ _ _ => rfl, fun _ => ⟨rfl, rfl⟩⟩
theorem fR_QM_72 : qFlR "QueryFleetModel" 72 11 44 false := ⟨⟨by decide, by decide, R_QM, F_QM, rfl, ws_QM, ty_QM, nm_QM, rfl, rfl, Or.inl (qw4 149 rfl rfl)⟩, fun _ _ _ _ => rfl, fun _ => ⟨rfl, rfl⟩⟩
theorem fR_QM_75 : qFlR "QueryFleetModel" 75 11 45 false := ⟨⟨by decide, by decide, R_QM, F_QM, rfl, ws_QM, ty_QM, nm_QM, rfl, rfl, Or.inl (qw4 150 rfl rfl)⟩, fun _ _ _ _ => rfl, fun _ => ⟨rfl, rfl⟩⟩
theorem fR_QM_78 : qFlR "QueryFleetModel" 78 11 46 false := ⟨⟨by decide, by decide, R_QM, F_QM, rfl, ws_QM, ty_QM, nm_QM, rfl, rfl, Or.inl (qw4 151 rfl rfl)⟩, fun _ _ _ _ => rfl, fun _ => ⟨rfl, rfl⟩⟩
theorem fR_QM_81 : qFlR "QueryFleetModel" 81 11 50 false := ⟨⟨by decide, by decide, R_QM, F_QM, rfl, ws_QM, ty_QM, nm_QM, rfl, rfl, Or.inl (qw4 155 rfl rfl)⟩, fun _ _ _ _ => rfl, fun _ => ⟨rfl, rfl⟩⟩
theorem fR_QM_84 : qFlR "QueryFleetModel" 84 11 51 false := ⟨⟨by decide, by decide, R_QM, F_QM, rfl, ws_QM, ty_QM, nm_QM, rfl, rfl, Or.inl (qw4 156 rfl rfl)⟩, fun _ _ _ _ => rfl, fun _ => ⟨rfl, rfl⟩⟩
theorem fR_QM_87 : qFlR "QueryFleetModel" 87 11 52 false := ⟨⟨by decide, by decide, R_QM, F_QM, rfl, ws_QM, ty_QM, nm_QM, rfl, rfl, Or.inl (qw4 157 rfl rfl)⟩, fun _ _ _ _ => rfl, fun _ => ⟨rfl, rfl⟩⟩
theorem fR_QM_90 : qFlR "QueryFleetModel" 90 11 53 false := ⟨⟨by decide, by decide, R_QM, F_QM, rfl, ws_QM, ty_QM, nm_QM, rfl, rfl, Or.inl (qw4 158 rfl rfl)⟩, fun _ _ _ _ => rfl, fun _ => ⟨rfl, rfl⟩⟩
theorem fR_QM_93 : qFlR "QueryFleetModel" 93 11 54 false := ⟨⟨by decide, by decide, R_QM, F_QM, rfl, ws_QM, ty_QM, nm_QM, rfl, rfl, Or.inl (qw4 159 rfl rfl)⟩, fun _ _ _ _ => rfl, fun _ => ⟨rfl, rfl⟩⟩
theorem fR_QM_96 : qFlR "QueryFleetModel" 96 11 55 false := ⟨⟨by decide, by decide, R_QM, F_QM, rfl, ws_QM, ty_QM, nm_QM, rfl, rfl, Or.inl (qw4 160 rfl rfl)⟩, fun _ _ _ _ => rfl, fun _ => ⟨rfl, rfl⟩⟩
theorem fI_QM_99 : qFlI "QueryFleetModel" 99 11 37 false := ⟨⟨by decide, by decide, R_QM, F_QM, rfl, ws_QM, ty_QM, nm_QM, rfl, rfl, Or.inl (qw4 142 rfl rfl)⟩, fun _ _ _ _ => rfl⟩
theorem fI_QM_107 : qFlI "QueryFleetModel" 107 11 3 false := ⟨⟨by decide, by decide, R_QM, F_QM, rfl, ws_QM, ty_QM, nm_QM, rfl, rfl, Or.inl (qw4 108 rfl rfl)⟩, fun _ _ _ _ => rfl⟩
theorem fI_QM_110 : qFlI "QueryFleetModel" 110 11 4 false := ⟨⟨by decide, by decide, R_QM, F_QM, rfl, ws_QM, ty_QM, nm_QM, rfl, rfl, Or.inl (qw4 109 rfl rfl)⟩, fun _ _ _ _ => rfl⟩
theorem fI_QM_114 : qFlI "QueryFleetModel" 114 11 5 false := ⟨⟨by decide, by decide, R_QM, F_QM, rfl, ws_QM, ty_QM, nm_QM, rfl, rfl, Or.inl (qw4 110 rfl rfl)⟩, fun _ _ _ _ => rfl⟩
theorem fI_QM_117 : qFlI "QueryFleetModel" 117 11 6 false := ⟨⟨by decide, by decide, R_QM, F_QM, rfl, ws_QM, ty_QM, nm_QM, rfl, rfl, Or.inl (qw4 111 rfl rfl)⟩, fun _ _ _ _ => rfl⟩
theorem fI_QM_120 : qFlI "QueryFleetModel" 120 11 7 false := ⟨⟨by decide, by decide, R_QM, F_QM, rfl, ws_QM, ty_QM, nm_QM, rfl, rfl, Or.inl (qw4 112 rfl rfl)⟩, fun _ _ _ _ => rfl⟩
theorem fI_QM_123 : qFlI "QueryFleetModel" 123 11 8 false := ⟨⟨by decide, by decide, R_QM, F_QM, rfl, ws_QM, ty_QM, nm_QM, rfl, rfl, Or.inl (qw4 113 rfl rfl)⟩, fun _ _ _ _ => rfl⟩
theorem fI_QM_126 : qFlI "QueryFleetModel" 126 11 9 false := ⟨⟨by decide, by decide, R_QM, F_QM, rfl, ws_QM, ty_QM, nm_QM, rfl, rfl, Or.inl (qw4 114 rfl rfl)⟩, fun _ _ _ _ => rfl⟩
theorem fI_QM_129 : qFlI "QueryFleetModel" 129 11 10 false := ⟨⟨by decide, by decide, R_QM, F_QM, rfl, ws_QM, ty_QM, nm_QM, rfl, rfl, Or.inl (qw4 115 rfl rfl)⟩, fun _ _ _ _ => rfl⟩
theorem fI_QM_132 : qFlI "QueryFleetModel" 132 11 11 false := ⟨⟨by decide, by decide, R_QM, F_QM, rfl, ws_QM, ty_QM, nm_QM, rfl, rfl, Or.inl (qw4 116 rfl rfl)⟩, fun _ _ _ _ => rfl⟩
theorem fI_QM_135 : qFlI "QueryFleetModel" 135 11 12 false := ⟨⟨by decide, by decide, R_QM, F_QM, rfl, ws_QM, ty_QM, nm_QM, rfl, rfl, Or.inl (qw4 117 rfl rfl)⟩, fun _ _ _ _ => rfl⟩
theorem fI_QM_138 : qFlI "QueryFleetModel" 138 11 13 false := ⟨⟨by decide, by decide, R_QM, F_QM, rfl, ws_QM, ty_QM, nm_QM, rfl, rfl, Or.inl (qw4 118 rfl rfl)⟩, fun _ _ _ _ => rfl⟩
theorem fI_QM_141 : qFlI "QueryFleetModel" 141 11 14 false := ⟨⟨by decide, by decide, R_QM, F_QM, rfl, ws_QM, ty_QM, nm_QM, rfl, rfl, Or.inl (qw4 119 rfl rfl)⟩, fun _ _ _ _ => rfl⟩
theorem fI_QM_144 : qFlI "QueryFleetModel" 144 11 15 false := ⟨⟨by decide, by decide, R_QM, F_QM, rfl, ws_QM, ty_QM, nm_QM, rfl, rfl, Or.inl (qw4 120 rfl rfl)⟩, fun _ _ _ _ => rfl⟩
theorem fI_QM_191 : qFlI "QueryFleetModel" 191 11 25 false := ⟨⟨by decide, by decide, R_QM, F_QM, rfl, ws_QM, ty_QM, nm_QM, rfl, rfl, Or.inl (qw4 130 rfl rfl)⟩, fun _ _ _ _ => rfl⟩
theorem fI_QM_207 : qFlI "QueryFleetModel" 207 11 28 false := ⟨⟨by decide, by decide, R_QM, F_QM, rfl, ws_QM, ty_QM, nm_QM, rfl, rfl, Or.inl (qw4 133 rfl rfl)⟩, fun _ _ _ _ => rfl⟩
theorem fI_QM_232 : qFlI "QueryFleetModel" 232 11 29 false := ⟨⟨by decide, by decide, R_QM, F_QM, rfl, ws_QM, ty_QM, nm_QM, rfl, rfl, Or.inl (qw4 134 rfl rfl)⟩, fun _ _ _ _ => rfl⟩
theorem fI_QM_248 : qFlI "QueryFleetModel" 248 11 38 false := ⟨⟨by decide, by decide, R_QM, F_QM, rfl, ws_QM, ty_QM, nm_QM, rfl, rfl, Or.inl (qw4 143 rfl rfl)⟩, fun _ _ _ _ => rfl⟩
theorem fI_QM_258 : qFlI "QueryFleetModel" 258 11 40 false := ⟨⟨by decide, by decide, R_QM, F_QM, rfl, ws_QM, ty_QM, nm_QM, rfl, rfl, Or.inl (qw4 145 rfl rfl)⟩, fun _ _ _ _ => rfl⟩
theorem fI_QM_272 : qFlI "QueryFleetModel" 272 11 39 false := ⟨⟨by decide, by decide, R_QM, F_QM, rfl, ws_QM, ty_QM, nm_QM, rfl, rfl, Or.inl (qw4 144 rfl rfl)⟩, fun _ _ _ _ => rfl⟩
theorem fI_QM_287 : qFlI "QueryFleetModel" 287 11 33 false := ⟨⟨by decide, by decide, R_QM, F_QM, rfl, ws_QM, ty_QM, nm_QM, rfl, rfl, Or.inl (qw4 138 rfl rfl)⟩, fun _ _ _ _ => rfl⟩
theorem fI_QM_290 : qFlI "QueryFleetModel" 290 11 34 false := ⟨⟨by decide, by decide, R_QM, F_QM, rfl, ws_QM, ty_QM, nm_QM, rfl, rfl, Or.inl (qw4 139 rfl rfl)⟩, fun _ _ _ _ => rfl⟩
theorem fI_QM_296 : qFlI "QueryFleetModel" 296 11 35 false := ⟨⟨by decide, by decide, R_QM, F_QM, rfl, ws_QM, ty_QM, nm_QM, rfl, rfl, Or.inl (qw4 140 rfl rfl)⟩, fun _ _ _ _ => rfl⟩
theorem fI_QM_299 : qFlI "QueryFleetModel" 299 11 36 false := ⟨⟨by decide, by decide, R_QM, F_QM, rfl, ws_QM, ty_QM, nm_QM, rfl, rfl, Or.inl (qw4 141 rfl rfl)⟩, fun _ _ _ _ => rfl⟩
theorem fI_QM_302 : qFlI "QueryFleetModel" 302 11 49 false := ⟨⟨by decide, by decide, R_QM, F_QM, rfl, ws_QM, ty_QM, nm_QM, rfl, rfl, Or.inl (qw4 154 rfl rfl)⟩, fun _ _ _ _ => rfl⟩
theorem fI_QM_305 : qFlI "QueryFleetModel" 305 11 48 false := ⟨⟨by decide, by decide, R_QM, F_QM, rfl, ws_QM, ty_QM, nm_QM, rfl, rfl, Or.inl (qw4 153 rfl rfl)⟩, fun _ _ _ _ => rfl⟩
theorem fI_QM_323 : qFlI "QueryFleetModel" 323 11 47 false := ⟨⟨by decide, by decide, R_QM, F_QM, rfl, ws_QM, ty_QM, nm_QM, rfl, rfl, Or.inl (qw4 152 rfl rfl)⟩, fun _ _ _ _ => rfl⟩
theorem nw_QF_9 : qNw "QueryFleet" 9 1 := ⟨by decide, R_Pl, F_Pl, rfl, ws_Pl, ty_Pl, nf_Pl, (qw1 23 rfl rfl), (qw1 24 rfl rfl), (qw1 2 rfl rfl)⟩
theorem nw_QF_26 : qNw "QueryFleet" 26 7 := ⟨by decide, R_Re, F_Re, rfl, ws_Re, ty_Re, nf_Re, (qw2 1 rfl rfl), (qw2 2 rfl rfl), (qw1 8 rfl rfl)⟩
theorem nw_QF_33 : qNw "QueryFleet" 33 8 := ⟨by decide, R_Jo, F_Jo, rfl, ws_Jo, ty_Jo, nf_Jo, (qw2 34 rfl rfl), (qw2 35 rfl rfl), (qw1 9 rfl rfl)⟩
theorem kl_Ag_24 : Jvm.Cond.constantLong "QueryFleet$Aggregate" 24 (9223372036854775807) ∈ qGW := (qw3 109 rfl rfl)
theorem kl_Ag_29 : Jvm.Cond.constantLong "QueryFleet$Aggregate" 29 (-9223372036854775808) ∈ qGW := (qw3 110 rfl rfl)
theorem kl_Ag_34 : Jvm.Cond.constantLong "QueryFleet$Aggregate" 34 (4294967295) ∈ qGW := (qw3 123 rfl rfl)
theorem cl_Jo_9 : Cond.classLink "QueryFleet$Job" 9 "QueryFleet$Task" ∈ qGW := (qw2 40 rfl rfl)
theorem cl_Jo_17 : Cond.classLink "QueryFleet$Job" 17 "QueryFleet$Line" ∈ qGW := (qw2 42 rfl rfl)
theorem nw_Jo_9 : qNw "QueryFleet$Job" 9 10 := ⟨by decide, R_Ta, F_Ta, rfl, ws_Ta, ty_Ta, nf_Ta, (qw2 40 rfl rfl), (qw2 67 rfl rfl), (qw1 11 rfl rfl)⟩
theorem nw_Jo_17 : qNw "QueryFleet$Job" 17 9 := ⟨by decide, R_Li, F_Li, rfl, ws_Li, ty_Li, nf_Li, (qw2 42 rfl rfl), (qw2 43 rfl rfl), (qw1 10 rfl rfl)⟩
theorem kl_Ma_68 : Jvm.Cond.constantLong "QueryFleet$Machine" 68 (-1) ∈ qGW := (qw3 66 rfl rfl)
theorem kl_Ma_70 : Jvm.Cond.constantLong "QueryFleet$Machine" 70 (-9223372036854775808) ∈ qGW := (qw3 67 rfl rfl)
theorem cl_Pl_9 : Cond.classLink "QueryFleet$Plan" 9 "QueryFleet$Table" ∈ qGW := (qw1 29 rfl rfl)
theorem nw_Pl_9 : qNw "QueryFleet$Plan" 9 6 := ⟨by decide, R_Tb, F_Tb, rfl, ws_Tb, ty_Tb, nf_Tb, (qw1 29 rfl rfl), (qw1 189 rfl rfl), (qw1 7 rfl rfl)⟩
theorem nw_Pl_17 : qNw "QueryFleet$Plan" 17 2 := ⟨by decide, R_Qu, F_Qu, rfl, ws_Qu, ty_Qu, nf_Qu, (qw1 31 rfl rfl), (qw1 32 rfl rfl), (qw1 3 rfl rfl)⟩
theorem nw_Pl_24 : qNw "QueryFleet$Plan" 24 4 := ⟨by decide, R_Ma, F_Ma, rfl, ws_Ma, ty_Ma, nf_Ma, (qw1 141 rfl rfl), (qw1 142 rfl rfl), (qw1 5 rfl rfl)⟩
theorem nw_Pl_31 : qNw "QueryFleet$Plan" 31 5 := ⟨by decide, R_Ag, F_Ag, rfl, ws_Ag, ty_Ag, nf_Ag, (qw1 164 rfl rfl), (qw1 165 rfl rfl), (qw1 6 rfl rfl)⟩
theorem cl_Qu_36 : Cond.classLink "QueryFleet$Query" 36 "QueryFleet$Expression" ∈ qGW := (qw1 40 rfl rfl)
theorem nw_Qu_36 : qNw "QueryFleet$Query" 36 3 := ⟨by decide, R_Ex, F_Ex, rfl, ws_Ex, ty_Ex, nf_Ex, (qw1 40 rfl rfl), (qw1 42 rfl rfl), (qw1 4 rfl rfl)⟩
theorem nw_La_7 : qNw "QueryFleetLaw" 7 0 := ⟨by decide, R_QF, F_QF, rfl, ws_QF, ty_QF, nf_QF, (qw1 15 rfl rfl), (qw1 16 rfl rfl), (qw1 1 rfl rfl)⟩
theorem nw_La_10 : qNw "QueryFleetLaw" 10 11 := ⟨by decide, R_QM, F_QM, rfl, ws_QM, ty_QM, nf_QM, (qw4 99 rfl rfl), (qw4 100 rfl rfl), (qw1 12 rfl rfl)⟩
theorem kl_QM_163 : Jvm.Cond.constantLong "QueryFleetModel" 163 (-9223372036854775808) ∈ qGW := (qw5 141 rfl rfl)
theorem kl_QM_165 : Jvm.Cond.constantLong "QueryFleetModel" 165 (-1) ∈ qGW := (qw5 142 rfl rfl)
theorem kl_QM_175 : Jvm.Cond.constantLong "QueryFleetModel" 175 (2) ∈ qGW := (qw5 133 rfl rfl)
theorem kl_QM_217 : Jvm.Cond.constantLong "QueryFleetModel" 217 (4294967295) ∈ qGW := (qw5 167 rfl rfl)
theorem kl_QM_219 : Jvm.Cond.constantLong "QueryFleetModel" 219 (-2147483648) ∈ qGW := (qw5 168 rfl rfl)
theorem kl_QM_221 : Jvm.Cond.constantLong "QueryFleetModel" 221 (2147483647) ∈ qGW := (qw5 169 rfl rfl)
theorem aw_int : Cond.arrayClass .int ∈ qGW := (qw1 68 rfl rfl)
theorem aw_long : Cond.arrayClass .long ∈ qGW := (qw1 162 rfl rfl)
theorem aw_boolean : Cond.arrayClass .boolean ∈ qGW := (qw1 163 rfl rfl)
theorem oi_QF_3 : Cond.methodLink "QueryFleet" 3 Lib.objectInit ∈ qGW ∧ Cond.instanceMethod Lib.objectInit ∈ qGW ∧ Cond.code Lib.objectInit ⟨#[0xb1]⟩ 1 none ∈ qGW := ⟨(qw1 20 rfl rfl), (qw1 21 rfl rfl), (qw1 22 rfl rfl)⟩
theorem lk_QF_11 : qLk "QueryFleet" 11 mi_Pl_init := Or.inl (qw1 25 rfl rfl)
theorem y_Pl_init : qY mi_Pl_init 0 := ⟨(qw1 27 rfl rfl), (qw1 2 rfl rfl), ⟨by decide, by decide, by decide +kernel⟩, by decide⟩
theorem i_Pl_init : mi_Pl_init.1.name = "<init>" ∧ mi_Pl_init.2.2.2 = none ∧ Cond.instanceMethod mi_Pl_init.1 ∈ qGW := ⟨rfl, rfl, (qw1 26 rfl rfl)⟩
theorem lk_QF_28 : qLk "QueryFleet" 28 mi_Re_init := Or.inr ⟨"QueryFleet", List.mem_of_getElem? (i := 5) rfl⟩
theorem y_Re_init : qY mi_Re_init 0 := ⟨(qw2 5 rfl rfl), (qw1 8 rfl rfl), ⟨by decide, by decide, by decide +kernel⟩, by decide⟩
theorem i_Re_init : mi_Re_init.1.name = "<init>" ∧ mi_Re_init.2.2.2 = none ∧ Cond.instanceMethod mi_Re_init.1 ∈ qGW := ⟨rfl, rfl, (qw2 4 rfl rfl)⟩
theorem lk_QF_35 : qLk "QueryFleet" 35 mi_Jo_init := Or.inl (qw2 36 rfl rfl)
theorem y_Jo_init : qY mi_Jo_init 0 := ⟨(qw2 38 rfl rfl), (qw1 9 rfl rfl), ⟨by decide, by decide, by decide +kernel⟩, by decide⟩
theorem i_Jo_init : mi_Jo_init.1.name = "<init>" ∧ mi_Jo_init.2.2.2 = none ∧ Cond.instanceMethod mi_Jo_init.1 ∈ qGW := ⟨rfl, rfl, (qw2 37 rfl rfl)⟩
theorem lk_QF_44 : qLk "QueryFleet" 44 mi_QF_isIn := Or.inl (qw2 152 rfl rfl)
theorem y_QF_isIn : qY mi_QF_isIn 2 := ⟨(qw2 154 rfl rfl), (qw1 1 rfl rfl), ⟨by decide, by decide, by decide +kernel⟩, by decide⟩
theorem s_QF_isIn : Cond.static mi_QF_isIn.1 ∈ qGW := (qw2 153 rfl rfl)
theorem lk_QF_48 : qLk "QueryFleet" 48 mi_Tb_add := Or.inl (qw2 155 rfl rfl)
theorem y_Tb_add : qY mi_Tb_add 3 := ⟨(qw2 158 rfl rfl), (qw1 7 rfl rfl), ⟨by decide, by decide, by decide +kernel⟩, by decide⟩
theorem v_Tb_add : Cond.instanceMethod mi_Tb_add.1 ∈ qGW ∧ Cond.selects mi_Tb_add.1.cls mi_Tb_add.1 mi_Tb_add.1 ∈ qGW := ⟨(qw2 156 rfl rfl), (qw2 157 rfl rfl)⟩
theorem lk_QF_54 : qLk "QueryFleet" 54 mi_Qu_begin := Or.inl (qw2 163 rfl rfl)
theorem y_Qu_begin : qY mi_Qu_begin 5 := ⟨(qw2 166 rfl rfl), (qw1 3 rfl rfl), ⟨by decide, by decide, by decide +kernel⟩, by decide⟩
theorem v_Qu_begin : Cond.instanceMethod mi_Qu_begin.1 ∈ qGW ∧ Cond.selects mi_Qu_begin.1.cls mi_Qu_begin.1 mi_Qu_begin.1 ∈ qGW := ⟨(qw2 164 rfl rfl), (qw2 165 rfl rfl)⟩
theorem lk_QF_60 : qLk "QueryFleet" 60 mi_QF_canChangeQuery := Or.inl (qw2 171 rfl rfl)
theorem y_QF_canChangeQuery : qY mi_QF_canChangeQuery 0 := ⟨(qw2 174 rfl rfl), (qw1 1 rfl rfl), ⟨by decide, by decide, by decide +kernel⟩, by decide⟩
theorem v_QF_canChangeQuery : Cond.instanceMethod mi_QF_canChangeQuery.1 ∈ qGW ∧ Cond.selects mi_QF_canChangeQuery.1.cls mi_QF_canChangeQuery.1 mi_QF_canChangeQuery.1 ∈ qGW := ⟨(qw2 173 rfl rfl), qw_s (q := (⟨"QueryFleet", "canChangeQuery", "()Z"⟩, _)) (by show _ ∈ lw_privs_1 ++ (lw_privs_2 ++ (lw_privs_3 ++ (lw_privs_4 ++ (lw_privs_5)))); exact List.mem_append_left _ (List.mem_of_getElem? (i := 0) rfl))⟩
theorem lk_QF_64 : qLk "QueryFleet" 64 mi_Qu_columns := Or.inl (qw2 175 rfl rfl)
theorem y_Qu_columns : qY mi_Qu_columns 0 := ⟨(qw2 178 rfl rfl), (qw1 3 rfl rfl), ⟨by decide, by decide, by decide +kernel⟩, by decide⟩
theorem v_Qu_columns : Cond.instanceMethod mi_Qu_columns.1 ∈ qGW ∧ Cond.selects mi_Qu_columns.1.cls mi_Qu_columns.1 mi_Qu_columns.1 ∈ qGW := ⟨(qw2 176 rfl rfl), (qw2 177 rfl rfl)⟩
theorem lk_QF_68 : qLk "QueryFleet" 68 mi_Qu_push := Or.inl (qw2 183 rfl rfl)
theorem y_Qu_push : qY mi_Qu_push 2 := ⟨(qw2 186 rfl rfl), (qw1 3 rfl rfl), ⟨by decide, by decide, by decide +kernel⟩, by decide⟩
theorem v_Qu_push : Cond.instanceMethod mi_Qu_push.1 ∈ qGW ∧ Cond.selects mi_Qu_push.1.cls mi_Qu_push.1 mi_Qu_push.1 ∈ qGW := ⟨(qw2 184 rfl rfl), (qw2 185 rfl rfl)⟩
theorem lk_QF_71 : qLk "QueryFleet" 71 mi_Qu_apply := Or.inl (qw2 203 rfl rfl)
theorem y_Qu_apply : qY mi_Qu_apply 1 := ⟨(qw2 206 rfl rfl), (qw1 3 rfl rfl), ⟨by decide, by decide, by decide +kernel⟩, by decide⟩
theorem v_Qu_apply : Cond.instanceMethod mi_Qu_apply.1 ∈ qGW ∧ Cond.selects mi_Qu_apply.1.cls mi_Qu_apply.1 mi_Qu_apply.1 ∈ qGW := ⟨(qw2 204 rfl rfl), (qw2 205 rfl rfl)⟩
theorem lk_QF_75 : qLk "QueryFleet" 75 mi_Qu_takeCondition := Or.inl (qw2 216 rfl rfl)
theorem y_Qu_takeCondition : qY mi_Qu_takeCondition 0 := ⟨(qw2 219 rfl rfl), (qw1 3 rfl rfl), ⟨by decide, by decide, by decide +kernel⟩, by decide⟩
theorem v_Qu_takeCondition : Cond.instanceMethod mi_Qu_takeCondition.1 ∈ qGW ∧ Cond.selects mi_Qu_takeCondition.1.cls mi_Qu_takeCondition.1 mi_Qu_takeCondition.1 ∈ qGW := ⟨(qw2 217 rfl rfl), (qw2 218 rfl rfl)⟩
theorem lk_QF_78 : qLk "QueryFleet" 78 mi_Qu_takeOutput := Or.inl (qw2 228 rfl rfl)
theorem y_Qu_takeOutput : qY mi_Qu_takeOutput 1 := ⟨(qw2 231 rfl rfl), (qw1 3 rfl rfl), ⟨by decide, by decide, by decide +kernel⟩, by decide⟩
theorem v_Qu_takeOutput : Cond.instanceMethod mi_Qu_takeOutput.1 ∈ qGW ∧ Cond.selects mi_Qu_takeOutput.1.cls mi_Qu_takeOutput.1 mi_Qu_takeOutput.1 ∈ qGW := ⟨(qw2 229 rfl rfl), (qw2 230 rfl rfl)⟩
theorem lk_QF_97 : qLk "QueryFleet" 97 mi_Qu_isWhole := Or.inl (qw3 4 rfl rfl)
theorem y_Qu_isWhole : qY mi_Qu_isWhole 0 := ⟨(qw3 7 rfl rfl), (qw1 3 rfl rfl), ⟨by decide, by decide, by decide +kernel⟩, by decide⟩
theorem v_Qu_isWhole : Cond.instanceMethod mi_Qu_isWhole.1 ∈ qGW ∧ Cond.selects mi_Qu_isWhole.1.cls mi_Qu_isWhole.1 mi_Qu_isWhole.1 ∈ qGW := ⟨(qw3 5 rfl rfl), (qw3 6 rfl rfl)⟩
theorem lk_QF_100 : qLk "QueryFleet" 100 mi_Pl_keepRows := Or.inl (qw3 16 rfl rfl)
theorem y_Pl_keepRows : qY mi_Pl_keepRows 0 := ⟨(qw3 19 rfl rfl), (qw1 2 rfl rfl), ⟨by decide, by decide, by decide +kernel⟩, by decide⟩
theorem v_Pl_keepRows : Cond.instanceMethod mi_Pl_keepRows.1 ∈ qGW ∧ Cond.selects mi_Pl_keepRows.1.cls mi_Pl_keepRows.1 mi_Pl_keepRows.1 ∈ qGW := ⟨(qw3 17 rfl rfl), (qw3 18 rfl rfl)⟩
theorem lk_QF_103 : qLk "QueryFleet" 103 mi_Pl_makeGroups := Or.inl (qw3 75 rfl rfl)
theorem y_Pl_makeGroups : qY mi_Pl_makeGroups 0 := ⟨(qw3 78 rfl rfl), (qw1 2 rfl rfl), ⟨by decide, by decide, by decide +kernel⟩, by decide⟩
theorem v_Pl_makeGroups : Cond.instanceMethod mi_Pl_makeGroups.1 ∈ qGW ∧ Cond.selects mi_Pl_makeGroups.1.cls mi_Pl_makeGroups.1 mi_Pl_makeGroups.1 ∈ qGW := ⟨(qw3 76 rfl rfl), (qw3 77 rfl rfl)⟩
theorem lk_QF_106 : qLk "QueryFleet" 106 mi_Pl_fillResult := Or.inl (qw3 84 rfl rfl)
theorem y_Pl_fillResult : qY mi_Pl_fillResult 1 := ⟨(qw3 87 rfl rfl), (qw1 2 rfl rfl), ⟨by decide, by decide, by decide +kernel⟩, by decide⟩
theorem v_Pl_fillResult : Cond.instanceMethod mi_Pl_fillResult.1 ∈ qGW ∧ Cond.selects mi_Pl_fillResult.1.cls mi_Pl_fillResult.1 mi_Pl_fillResult.1 ∈ qGW := ⟨(qw3 85 rfl rfl), (qw3 86 rfl rfl)⟩
theorem lk_QF_110 : qLk "QueryFleet" 110 mi_Re_sort := Or.inl (qw3 146 rfl rfl)
theorem y_Re_sort : qY mi_Re_sort 1 := ⟨(qw3 149 rfl rfl), (qw1 8 rfl rfl), ⟨by decide, by decide, by decide +kernel⟩, by decide⟩
theorem v_Re_sort : Cond.instanceMethod mi_Re_sort.1 ∈ qGW ∧ Cond.selects mi_Re_sort.1.cls mi_Re_sort.1 mi_Re_sort.1 ∈ qGW := ⟨(qw3 147 rfl rfl), (qw3 148 rfl rfl)⟩
theorem lk_QF_114 : qLk "QueryFleet" 114 mi_Re_countPasses := Or.inl (qw3 164 rfl rfl)
theorem y_Re_countPasses : qY mi_Re_countPasses 1 := ⟨(qw3 167 rfl rfl), (qw1 8 rfl rfl), ⟨by decide, by decide, by decide +kernel⟩, by decide⟩
theorem v_Re_countPasses : Cond.instanceMethod mi_Re_countPasses.1 ∈ qGW ∧ Cond.selects mi_Re_countPasses.1.cls mi_Re_countPasses.1 mi_Re_countPasses.1 ∈ qGW := ⟨(qw3 165 rfl rfl), (qw3 166 rfl rfl)⟩
theorem lk_QF_118 : qLk "QueryFleet" 118 mi_Jo_clear := Or.inl (qw3 168 rfl rfl)
theorem y_Jo_clear : qY mi_Jo_clear 1 := ⟨(qw3 171 rfl rfl), (qw1 9 rfl rfl), ⟨by decide, by decide, by decide +kernel⟩, by decide⟩
theorem v_Jo_clear : Cond.instanceMethod mi_Jo_clear.1 ∈ qGW ∧ Cond.selects mi_Jo_clear.1.cls mi_Jo_clear.1 mi_Jo_clear.1 ∈ qGW := ⟨(qw3 169 rfl rfl), (qw3 170 rfl rfl)⟩
theorem lk_QF_121 : qLk "QueryFleet" 121 mi_Qu_needs := Or.inl (qw3 176 rfl rfl)
theorem y_Qu_needs : qY mi_Qu_needs 1 := ⟨(qw3 179 rfl rfl), (qw1 3 rfl rfl), ⟨by decide, by decide, by decide +kernel⟩, by decide⟩
theorem v_Qu_needs : Cond.instanceMethod mi_Qu_needs.1 ∈ qGW ∧ Cond.selects mi_Qu_needs.1.cls mi_Qu_needs.1 mi_Qu_needs.1 ∈ qGW := ⟨(qw3 177 rfl rfl), (qw3 178 rfl rfl)⟩
theorem lk_QF_124 : qLk "QueryFleet" 124 mi_Pl_rowsOf := Or.inl (qw3 180 rfl rfl)
theorem y_Pl_rowsOf : qY mi_Pl_rowsOf 3 := ⟨(qw3 183 rfl rfl), (qw1 2 rfl rfl), ⟨by decide, by decide, by decide +kernel⟩, by decide⟩
theorem v_Pl_rowsOf : Cond.instanceMethod mi_Pl_rowsOf.1 ∈ qGW ∧ Cond.selects mi_Pl_rowsOf.1.cls mi_Pl_rowsOf.1 mi_Pl_rowsOf.1 ∈ qGW := ⟨(qw3 181 rfl rfl), (qw3 182 rfl rfl)⟩
theorem lk_QF_127 : qLk "QueryFleet" 127 mi_Jo_addTask := Or.inl (qw3 218 rfl rfl)
theorem y_Jo_addTask : qY mi_Jo_addTask 3 := ⟨(qw3 221 rfl rfl), (qw1 9 rfl rfl), ⟨by decide, by decide, by decide +kernel⟩, by decide⟩
theorem v_Jo_addTask : Cond.instanceMethod mi_Jo_addTask.1 ∈ qGW ∧ Cond.selects mi_Jo_addTask.1.cls mi_Jo_addTask.1 mi_Jo_addTask.1 ∈ qGW := ⟨(qw3 219 rfl rfl), (qw3 220 rfl rfl)⟩
theorem lk_QF_131 : qLk "QueryFleet" 131 mi_Jo_sendReady := Or.inl (qw3 226 rfl rfl)
theorem y_Jo_sendReady : qY mi_Jo_sendReady 0 := ⟨(qw3 229 rfl rfl), (qw1 9 rfl rfl), ⟨by decide, by decide, by decide +kernel⟩, by decide⟩
theorem v_Jo_sendReady : Cond.instanceMethod mi_Jo_sendReady.1 ∈ qGW ∧ Cond.selects mi_Jo_sendReady.1.cls mi_Jo_sendReady.1 mi_Jo_sendReady.1 ∈ qGW := ⟨(qw3 227 rfl rfl), (qw3 228 rfl rfl)⟩
theorem lk_QF_146 : qLk "QueryFleet" 146 mi_Jo_deliver := Or.inl (qw4 6 rfl rfl)
theorem y_Jo_deliver : qY mi_Jo_deliver 1 := ⟨(qw4 9 rfl rfl), (qw1 9 rfl rfl), ⟨by decide, by decide, by decide +kernel⟩, by decide⟩
theorem v_Jo_deliver : Cond.instanceMethod mi_Jo_deliver.1 ∈ qGW ∧ Cond.selects mi_Jo_deliver.1.cls mi_Jo_deliver.1 mi_Jo_deliver.1 ∈ qGW := ⟨(qw4 7 rfl rfl), (qw4 8 rfl rfl)⟩
theorem lk_QF_150 : qLk "QueryFleet" 150 mi_Li_removeAt := Or.inl (qw4 26 rfl rfl)
theorem y_Li_removeAt : qY mi_Li_removeAt 1 := ⟨(qw4 13 rfl rfl), (qw1 10 rfl rfl), ⟨by decide, by decide, by decide +kernel⟩, by decide⟩
theorem v_Li_removeAt : Cond.instanceMethod mi_Li_removeAt.1 ∈ qGW ∧ Cond.selects mi_Li_removeAt.1.cls mi_Li_removeAt.1 mi_Li_removeAt.1 ∈ qGW := ⟨(qw4 11 rfl rfl), (qw4 12 rfl rfl)⟩
theorem lk_QF_153 : qLk "QueryFleet" 153 mi_Jo_repeat := Or.inl (qw4 27 rfl rfl)
theorem y_Jo_repeat : qY mi_Jo_repeat 1 := ⟨(qw4 30 rfl rfl), (qw1 9 rfl rfl), ⟨by decide, by decide, by decide +kernel⟩, by decide⟩
theorem v_Jo_repeat : Cond.instanceMethod mi_Jo_repeat.1 ∈ qGW ∧ Cond.selects mi_Jo_repeat.1.cls mi_Jo_repeat.1 mi_Jo_repeat.1 ∈ qGW := ⟨(qw4 28 rfl rfl), (qw4 29 rfl rfl)⟩
theorem lk_QF_156 : qLk "QueryFleet" 156 mi_QF_isWorker := Or.inl (qw4 35 rfl rfl)
theorem y_QF_isWorker : qY mi_QF_isWorker 1 := ⟨(qw4 38 rfl rfl), (qw1 1 rfl rfl), ⟨by decide, by decide, by decide +kernel⟩, by decide⟩
theorem v_QF_isWorker : Cond.instanceMethod mi_QF_isWorker.1 ∈ qGW ∧ Cond.selects mi_QF_isWorker.1.cls mi_QF_isWorker.1 mi_QF_isWorker.1 ∈ qGW := ⟨(qw4 37 rfl rfl), qw_s (q := (⟨"QueryFleet", "isWorker", "(I)Z"⟩, _)) (by show _ ∈ lw_privs_1 ++ (lw_privs_2 ++ (lw_privs_3 ++ (lw_privs_4 ++ (lw_privs_5)))); exact List.mem_append_right _ (List.mem_append_left _ (List.mem_of_getElem? (i := 8) rfl)))⟩
theorem lk_QF_163 : qLk "QueryFleet" 163 mi_Jo_workOff := Or.inl (qw4 39 rfl rfl)
theorem y_Jo_workOff : qY mi_Jo_workOff 1 := ⟨(qw4 42 rfl rfl), (qw1 9 rfl rfl), ⟨by decide, by decide, by decide +kernel⟩, by decide⟩
theorem v_Jo_workOff : Cond.instanceMethod mi_Jo_workOff.1 ∈ qGW ∧ Cond.selects mi_Jo_workOff.1.cls mi_Jo_workOff.1 mi_Jo_workOff.1 ∈ qGW := ⟨(qw4 40 rfl rfl), (qw4 41 rfl rfl)⟩
theorem lk_QF_167 : qLk "QueryFleet" 167 mi_Jo_sendAgain := Or.inl (qw4 51 rfl rfl)
theorem y_Jo_sendAgain : qY mi_Jo_sendAgain 0 := ⟨(qw4 54 rfl rfl), (qw1 9 rfl rfl), ⟨by decide, by decide, by decide +kernel⟩, by decide⟩
theorem v_Jo_sendAgain : Cond.instanceMethod mi_Jo_sendAgain.1 ∈ qGW ∧ Cond.selects mi_Jo_sendAgain.1.cls mi_Jo_sendAgain.1 mi_Jo_sendAgain.1 ∈ qGW := ⟨(qw4 52 rfl rfl), (qw4 53 rfl rfl)⟩
theorem lk_QF_170 : qLk "QueryFleet" 170 mi_Jo_tell := Or.inl (qw4 59 rfl rfl)
theorem y_Jo_tell : qY mi_Jo_tell 2 := ⟨(qw4 62 rfl rfl), (qw1 9 rfl rfl), ⟨by decide, by decide, by decide +kernel⟩, by decide⟩
theorem v_Jo_tell : Cond.instanceMethod mi_Jo_tell.1 ∈ qGW ∧ Cond.selects mi_Jo_tell.1.cls mi_Jo_tell.1 mi_Jo_tell.1 ∈ qGW := ⟨(qw4 60 rfl rfl), (qw4 61 rfl rfl)⟩
theorem lk_QF_178 : qLk "QueryFleet" 178 mi_Ta_tell := Or.inl (qw4 67 rfl rfl)
theorem y_Ta_tell : qY mi_Ta_tell 1 := ⟨(qw4 70 rfl rfl), (qw1 11 rfl rfl), ⟨by decide, by decide, by decide +kernel⟩, by decide⟩
theorem v_Ta_tell : Cond.instanceMethod mi_Ta_tell.1 ∈ qGW ∧ Cond.selects mi_Ta_tell.1.cls mi_Ta_tell.1 mi_Ta_tell.1 ∈ qGW := ⟨(qw4 68 rfl rfl), (qw4 69 rfl rfl)⟩
theorem lk_QF_182 : qLk "QueryFleet" 182 mi_QF_hasResult := Or.inl (qw4 75 rfl rfl)
theorem y_QF_hasResult : qY mi_QF_hasResult 0 := ⟨(qw4 78 rfl rfl), (qw1 1 rfl rfl), ⟨by decide, by decide, by decide +kernel⟩, by decide⟩
theorem v_QF_hasResult : Cond.instanceMethod mi_QF_hasResult.1 ∈ qGW ∧ Cond.selects mi_QF_hasResult.1.cls mi_QF_hasResult.1 mi_QF_hasResult.1 ∈ qGW := ⟨(qw4 77 rfl rfl), qw_s (q := (⟨"QueryFleet", "hasResult", "()Z"⟩, _)) (by show _ ∈ lw_privs_1 ++ (lw_privs_2 ++ (lw_privs_3 ++ (lw_privs_4 ++ (lw_privs_5)))); exact List.mem_append_right _ (List.mem_append_left _ (List.mem_of_getElem? (i := 9) rfl)))⟩
theorem lk_QF_196 : qLk "QueryFleet" 196 mi_QF_hasCell := Or.inl (qw4 83 rfl rfl)
theorem y_QF_hasCell : qY mi_QF_hasCell 2 := ⟨(qw4 86 rfl rfl), (qw1 1 rfl rfl), ⟨by decide, by decide, by decide +kernel⟩, by decide⟩
theorem v_QF_hasCell : Cond.instanceMethod mi_QF_hasCell.1 ∈ qGW ∧ Cond.selects mi_QF_hasCell.1.cls mi_QF_hasCell.1 mi_QF_hasCell.1 ∈ qGW := ⟨(qw4 85 rfl rfl), qw_s (q := (⟨"QueryFleet", "hasCell", "(II)Z"⟩, _)) (by show _ ∈ lw_privs_1 ++ (lw_privs_2 ++ (lw_privs_3 ++ (lw_privs_4 ++ (lw_privs_5)))); exact List.mem_append_right _ (List.mem_append_left _ (List.mem_of_getElem? (i := 10) rfl)))⟩
theorem lk_QF_199 : qLk "QueryFleet" 199 mi_Re_isNull := Or.inl (qw4 87 rfl rfl)
theorem y_Re_isNull : qY mi_Re_isNull 2 := ⟨(qw4 90 rfl rfl), (qw1 8 rfl rfl), ⟨by decide, by decide, by decide +kernel⟩, by decide⟩
theorem v_Re_isNull : Cond.instanceMethod mi_Re_isNull.1 ∈ qGW ∧ Cond.selects mi_Re_isNull.1.cls mi_Re_isNull.1 mi_Re_isNull.1 ∈ qGW := ⟨(qw4 88 rfl rfl), (qw4 89 rfl rfl)⟩
theorem lk_QF_202 : qLk "QueryFleet" 202 mi_Re_value := Or.inl (qw4 91 rfl rfl)
theorem y_Re_value : qY mi_Re_value 2 := ⟨(qw4 94 rfl rfl), (qw1 8 rfl rfl), ⟨by decide, by decide, by decide +kernel⟩, by decide⟩
theorem v_Re_value : Cond.instanceMethod mi_Re_value.1 ∈ qGW ∧ Cond.selects mi_Re_value.1.cls mi_Re_value.1 mi_Re_value.1 ∈ qGW := ⟨(qw4 92 rfl rfl), (qw4 93 rfl rfl)⟩
theorem oi_Ag_3 : Cond.methodLink "QueryFleet$Aggregate" 3 Lib.objectInit ∈ qGW ∧ Cond.instanceMethod Lib.objectInit ∈ qGW ∧ Cond.code Lib.objectInit ⟨#[0xb1]⟩ 1 none ∈ qGW := ⟨(qw1 169 rfl rfl), (qw1 21 rfl rfl), (qw1 22 rfl rfl)⟩
theorem lk_Ag_36 : qLk "QueryFleet$Aggregate" 36 mi_JM_minJ := Or.inl (qw3 124 rfl rfl)
theorem y_JM_minJ : qY mi_JM_minJ 2 := ⟨(qw3 126 rfl rfl), (qw1 13 rfl rfl), ⟨by decide, by decide, by decide +kernel⟩, by decide⟩
theorem s_JM_minJ : Cond.static mi_JM_minJ.1 ∈ qGW := (qw3 125 rfl rfl)
theorem lk_Ag_42 : qLk "QueryFleet$Aggregate" 42 mi_JM_maxJ := Or.inl (qw3 127 rfl rfl)
theorem y_JM_maxJ : qY mi_JM_maxJ 2 := ⟨(qw3 129 rfl rfl), (qw1 13 rfl rfl), ⟨by decide, by decide, by decide +kernel⟩, by decide⟩
theorem s_JM_maxJ : Cond.static mi_JM_maxJ.1 ∈ qGW := (qw3 128 rfl rfl)
theorem lk_Ag_45 : qLk "QueryFleet$Aggregate" 45 mi_Ag_hasSum := Or.inl (qw3 138 rfl rfl)
theorem y_Ag_hasSum : qY mi_Ag_hasSum 0 := ⟨(qw3 141 rfl rfl), (qw1 6 rfl rfl), ⟨by decide, by decide, by decide +kernel⟩, by decide⟩
theorem v_Ag_hasSum : Cond.instanceMethod mi_Ag_hasSum.1 ∈ qGW ∧ Cond.selects mi_Ag_hasSum.1.cls mi_Ag_hasSum.1 mi_Ag_hasSum.1 ∈ qGW := ⟨(qw3 140 rfl rfl), qw_s (q := (⟨"QueryFleet$Aggregate", "hasSum", "()Z"⟩, _)) (by show _ ∈ lw_privs_1 ++ (lw_privs_2 ++ (lw_privs_3 ++ (lw_privs_4 ++ (lw_privs_5)))); exact List.mem_append_left _ (List.mem_of_getElem? (i := 11) rfl))⟩
theorem oi_Ex_3 : Cond.methodLink "QueryFleet$Expression" 3 Lib.objectInit ∈ qGW ∧ Cond.instanceMethod Lib.objectInit ∈ qGW ∧ Cond.code Lib.objectInit ⟨#[0xb1]⟩ 1 none ∈ qGW := ⟨(qw1 46 rfl rfl), (qw1 21 rfl rfl), (qw1 22 rfl rfl)⟩
theorem lk_Ex_29 : qLk "QueryFleet$Expression" 29 mi_Ex_addPart := Or.inl (qw2 211 rfl rfl)
theorem y_Ex_addPart : qY mi_Ex_addPart 2 := ⟨(qw2 194 rfl rfl), (qw1 4 rfl rfl), ⟨by decide, by decide, by decide +kernel⟩, by decide⟩
theorem v_Ex_addPart : Cond.instanceMethod mi_Ex_addPart.1 ∈ qGW ∧ Cond.selects mi_Ex_addPart.1.cls mi_Ex_addPart.1 mi_Ex_addPart.1 ∈ qGW := ⟨(qw2 192 rfl rfl), (qw2 193 rfl rfl)⟩
theorem oi_Jo_3 : Cond.methodLink "QueryFleet$Job" 3 Lib.objectInit ∈ qGW ∧ Cond.instanceMethod Lib.objectInit ∈ qGW ∧ Cond.code Lib.objectInit ⟨#[0xb1]⟩ 1 none ∈ qGW := ⟨(qw2 39 rfl rfl), (qw1 21 rfl rfl), (qw1 22 rfl rfl)⟩
theorem lk_Jo_19 : qLk "QueryFleet$Job" 19 mi_Li_init := Or.inl (qw2 44 rfl rfl)
theorem y_Li_init : qY mi_Li_init 1 := ⟨(qw2 46 rfl rfl), (qw1 10 rfl rfl), ⟨by decide, by decide, by decide +kernel⟩, by decide⟩
theorem i_Li_init : mi_Li_init.1.name = "<init>" ∧ mi_Li_init.2.2.2 = none ∧ Cond.instanceMethod mi_Li_init.1 ∈ qGW := ⟨rfl, rfl, (qw2 45 rfl rfl)⟩
theorem lk_Jo_30 : qLk "QueryFleet$Job" 30 mi_Ta_init := Or.inr ⟨"QueryFleet", List.mem_of_getElem? (i := 6) rfl⟩
theorem y_Ta_init : qY mi_Ta_init 0 := ⟨(qw2 70 rfl rfl), (qw1 11 rfl rfl), ⟨by decide, by decide, by decide +kernel⟩, by decide⟩
theorem i_Ta_init : mi_Ta_init.1.name = "<init>" ∧ mi_Ta_init.2.2.2 = none ∧ Cond.instanceMethod mi_Ta_init.1 ∈ qGW := ⟨rfl, rfl, (qw2 69 rfl rfl)⟩
theorem lk_Jo_48 : qLk "QueryFleet$Job" 48 mi_Jo_forgetMessages := Or.inl (qw3 172 rfl rfl)
theorem y_Jo_forgetMessages : qY mi_Jo_forgetMessages 0 := ⟨(qw3 175 rfl rfl), (qw1 9 rfl rfl), ⟨by decide, by decide, by decide +kernel⟩, by decide⟩
theorem v_Jo_forgetMessages : Cond.instanceMethod mi_Jo_forgetMessages.1 ∈ qGW ∧ Cond.selects mi_Jo_forgetMessages.1.cls mi_Jo_forgetMessages.1 mi_Jo_forgetMessages.1 ∈ qGW := ⟨(qw3 174 rfl rfl), qw_s (q := (⟨"QueryFleet$Job", "forgetMessages", "()V"⟩, _)) (by show _ ∈ lw_privs_1 ++ (lw_privs_2 ++ (lw_privs_3 ++ (lw_privs_4 ++ (lw_privs_5)))); exact List.mem_append_left _ (List.mem_of_getElem? (i := 15) rfl))⟩
theorem lk_Jo_54 : qLk "QueryFleet$Job" 54 mi_Ta_clear := Or.inl (qw3 222 rfl rfl)
theorem y_Ta_clear : qY mi_Ta_clear 3 := ⟨(qw3 225 rfl rfl), (qw1 11 rfl rfl), ⟨by decide, by decide, by decide +kernel⟩, by decide⟩
theorem v_Ta_clear : Cond.instanceMethod mi_Ta_clear.1 ∈ qGW ∧ Cond.selects mi_Ta_clear.1.cls mi_Ta_clear.1 mi_Ta_clear.1 ∈ qGW := ⟨(qw3 223 rfl rfl), (qw3 224 rfl rfl)⟩
theorem lk_Jo_64 : qLk "QueryFleet$Job" 64 mi_Jo_isReady := Or.inl (qw3 230 rfl rfl)
theorem y_Jo_isReady : qY mi_Jo_isReady 1 := ⟨(qw3 233 rfl rfl), (qw1 9 rfl rfl), ⟨by decide, by decide, by decide +kernel⟩, by decide⟩
theorem v_Jo_isReady : Cond.instanceMethod mi_Jo_isReady.1 ∈ qGW ∧ Cond.selects mi_Jo_isReady.1.cls mi_Jo_isReady.1 mi_Jo_isReady.1 ∈ qGW := ⟨(qw3 232 rfl rfl), qw_s (q := (⟨"QueryFleet$Job", "isReady", "(I)Z"⟩, _)) (by show _ ∈ lw_privs_1 ++ (lw_privs_2 ++ (lw_privs_3 ++ (lw_privs_4 ++ (lw_privs_5)))); exact List.mem_append_right _ (List.mem_append_left _ (List.mem_of_getElem? (i := 4) rfl)))⟩
theorem lk_Jo_68 : qLk "QueryFleet$Job" 68 mi_Jo_sendRun := Or.inl (qw3 234 rfl rfl)
theorem y_Jo_sendRun : qY mi_Jo_sendRun 1 := ⟨(qw3 237 rfl rfl), (qw1 9 rfl rfl), ⟨by decide, by decide, by decide +kernel⟩, by decide⟩
theorem v_Jo_sendRun : Cond.instanceMethod mi_Jo_sendRun.1 ∈ qGW ∧ Cond.selects mi_Jo_sendRun.1.cls mi_Jo_sendRun.1 mi_Jo_sendRun.1 ∈ qGW := ⟨(qw3 236 rfl rfl), qw_s (q := (⟨"QueryFleet$Job", "sendRun", "(I)V"⟩, _)) (by show _ ∈ lw_privs_1 ++ (lw_privs_2 ++ (lw_privs_3 ++ (lw_privs_4 ++ (lw_privs_5)))); exact List.mem_append_right _ (List.mem_append_left _ (List.mem_of_getElem? (i := 5) rfl)))⟩
theorem lk_Jo_74 : qLk "QueryFleet$Job" 74 mi_Li_add := Or.inl (qw3 238 rfl rfl)
theorem y_Li_add : qY mi_Li_add 3 := ⟨(qw4 1 rfl rfl), (qw1 10 rfl rfl), ⟨by decide, by decide, by decide +kernel⟩, by decide⟩
theorem v_Li_add : Cond.instanceMethod mi_Li_add.1 ∈ qGW ∧ Cond.selects mi_Li_add.1.cls mi_Li_add.1 mi_Li_add.1 ∈ qGW := ⟨(qw3 239 rfl rfl), (qw4 0 rfl rfl)⟩
theorem lk_Jo_87 : qLk "QueryFleet$Job" 87 mi_JM_floorModI := Or.inl (qw4 18 rfl rfl)
theorem y_JM_floorModI : qY mi_JM_floorModI 2 := ⟨(qw4 20 rfl rfl), (qw1 13 rfl rfl), ⟨by decide, by decide, by decide +kernel⟩, by decide⟩
theorem s_JM_floorModI : Cond.static mi_JM_floorModI.1 ∈ qGW := (qw4 19 rfl rfl)
theorem lk_Jo_101 : qLk "QueryFleet$Job" 101 mi_Li_removeAt := Or.inl (qw4 10 rfl rfl)
theorem lk_Jo_104 : qLk "QueryFleet$Job" 104 mi_Jo_workerOf := Or.inl (qw4 14 rfl rfl)
theorem y_Jo_workerOf : qY mi_Jo_workerOf 2 := ⟨(qw4 17 rfl rfl), (qw1 9 rfl rfl), ⟨by decide, by decide, by decide +kernel⟩, by decide⟩
theorem v_Jo_workerOf : Cond.instanceMethod mi_Jo_workerOf.1 ∈ qGW ∧ Cond.selects mi_Jo_workerOf.1.cls mi_Jo_workerOf.1 mi_Jo_workerOf.1 ∈ qGW := ⟨(qw4 16 rfl rfl), qw_s (q := (⟨"QueryFleet$Job", "workerOf", "(II)I"⟩, _)) (by show _ ∈ lw_privs_1 ++ (lw_privs_2 ++ (lw_privs_3 ++ (lw_privs_4 ++ (lw_privs_5)))); exact List.mem_append_right _ (List.mem_append_left _ (List.mem_of_getElem? (i := 6) rfl)))⟩
theorem lk_Jo_107 : qLk "QueryFleet$Job" 107 mi_Jo_finish := Or.inl (qw4 21 rfl rfl)
theorem y_Jo_finish : qY mi_Jo_finish 1 := ⟨(qw4 24 rfl rfl), (qw1 9 rfl rfl), ⟨by decide, by decide, by decide +kernel⟩, by decide⟩
theorem v_Jo_finish : Cond.instanceMethod mi_Jo_finish.1 ∈ qGW ∧ Cond.selects mi_Jo_finish.1.cls mi_Jo_finish.1 mi_Jo_finish.1 ∈ qGW := ⟨(qw4 23 rfl rfl), qw_s (q := (⟨"QueryFleet$Job", "finish", "(I)V"⟩, _)) (by show _ ∈ lw_privs_1 ++ (lw_privs_2 ++ (lw_privs_3 ++ (lw_privs_4 ++ (lw_privs_5)))); exact List.mem_append_right _ (List.mem_append_left _ (List.mem_of_getElem? (i := 7) rfl)))⟩
theorem lk_Jo_110 : qLk "QueryFleet$Job" 110 mi_Jo_sendReady := Or.inl (qw4 25 rfl rfl)
theorem oi_Li_1 : Cond.methodLink "QueryFleet$Line" 1 Lib.objectInit ∈ qGW ∧ Cond.instanceMethod Lib.objectInit ∈ qGW ∧ Cond.code Lib.objectInit ⟨#[0xb1]⟩ 1 none ∈ qGW := ⟨(qw2 47 rfl rfl), (qw1 21 rfl rfl), (qw1 22 rfl rfl)⟩
theorem oi_Ma_3 : Cond.methodLink "QueryFleet$Machine" 3 Lib.objectInit ∈ qGW ∧ Cond.instanceMethod Lib.objectInit ∈ qGW ∧ Cond.code Lib.objectInit ⟨#[0xb1]⟩ 1 none ∈ qGW := ⟨(qw1 146 rfl rfl), (qw1 21 rfl rfl), (qw1 22 rfl rfl)⟩
theorem lk_Ma_25 : qLk "QueryFleet$Machine" 25 mi_Tb_isNull := Or.inl (qw3 45 rfl rfl)
theorem y_Tb_isNull : qY mi_Tb_isNull 2 := ⟨(qw3 28 rfl rfl), (qw1 7 rfl rfl), ⟨by decide, by decide, by decide +kernel⟩, by decide⟩
theorem v_Tb_isNull : Cond.instanceMethod mi_Tb_isNull.1 ∈ qGW ∧ Cond.selects mi_Tb_isNull.1.cls mi_Tb_isNull.1 mi_Tb_isNull.1 ∈ qGW := ⟨(qw3 26 rfl rfl), (qw3 27 rfl rfl)⟩
theorem lk_Ma_31 : qLk "QueryFleet$Machine" 31 mi_Tb_value := Or.inl (qw3 46 rfl rfl)
theorem y_Tb_value : qY mi_Tb_value 2 := ⟨(qw3 32 rfl rfl), (qw1 7 rfl rfl), ⟨by decide, by decide, by decide +kernel⟩, by decide⟩
theorem v_Tb_value : Cond.instanceMethod mi_Tb_value.1 ∈ qGW ∧ Cond.selects mi_Tb_value.1.cls mi_Tb_value.1 mi_Tb_value.1 ∈ qGW := ⟨(qw3 30 rfl rfl), (qw3 31 rfl rfl)⟩
theorem lk_Ma_35 : qLk "QueryFleet$Machine" 35 mi_Ma_set := Or.inl (qw3 51 rfl rfl)
theorem y_Ma_set : qY mi_Ma_set 3 := ⟨(qw3 54 rfl rfl), (qw1 5 rfl rfl), ⟨by decide, by decide, by decide +kernel⟩, by decide⟩
theorem v_Ma_set : Cond.instanceMethod mi_Ma_set.1 ∈ qGW ∧ Cond.selects mi_Ma_set.1.cls mi_Ma_set.1 mi_Ma_set.1 ∈ qGW := ⟨(qw3 53 rfl rfl), qw_s (q := (⟨"QueryFleet$Machine", "set", "(IJZ)V"⟩, _)) (by show _ ∈ lw_privs_1 ++ (lw_privs_2 ++ (lw_privs_3 ++ (lw_privs_4 ++ (lw_privs_5)))); exact List.mem_append_left _ (List.mem_of_getElem? (i := 5) rfl))⟩
theorem lk_Ma_52 : qLk "QueryFleet$Machine" 52 mi_Ma_combine := Or.inl (qw3 55 rfl rfl)
theorem y_Ma_combine : qY mi_Ma_combine 3 := ⟨(qw3 58 rfl rfl), (qw1 5 rfl rfl), ⟨by decide, by decide, by decide +kernel⟩, by decide⟩
theorem v_Ma_combine : Cond.instanceMethod mi_Ma_combine.1 ∈ qGW ∧ Cond.selects mi_Ma_combine.1.cls mi_Ma_combine.1 mi_Ma_combine.1 ∈ qGW := ⟨(qw3 57 rfl rfl), qw_s (q := (⟨"QueryFleet$Machine", "combine", "(III)V"⟩, _)) (by show _ ∈ lw_privs_1 ++ (lw_privs_2 ++ (lw_privs_3 ++ (lw_privs_4 ++ (lw_privs_5)))); exact List.mem_append_left _ (List.mem_of_getElem? (i := 6) rfl))⟩
theorem lk_Ma_56 : qLk "QueryFleet$Machine" 56 mi_Ma_decide := Or.inl (qw3 59 rfl rfl)
theorem y_Ma_decide : qY mi_Ma_decide 3 := ⟨(qw3 62 rfl rfl), (qw1 5 rfl rfl), ⟨by decide, by decide, by decide +kernel⟩, by decide⟩
theorem v_Ma_decide : Cond.instanceMethod mi_Ma_decide.1 ∈ qGW ∧ Cond.selects mi_Ma_decide.1.cls mi_Ma_decide.1 mi_Ma_decide.1 ∈ qGW := ⟨(qw3 61 rfl rfl), qw_s (q := (⟨"QueryFleet$Machine", "decide", "(IIJ)V"⟩, _)) (by show _ ∈ lw_privs_1 ++ (lw_privs_2 ++ (lw_privs_3 ++ (lw_privs_4 ++ (lw_privs_5)))); exact List.mem_append_left _ (List.mem_of_getElem? (i := 7) rfl))⟩
theorem lk_Ma_60 : qLk "QueryFleet$Machine" 60 mi_Ma_isLong := Or.inl (qw3 63 rfl rfl)
theorem y_Ma_isLong : qY mi_Ma_isLong 3 := ⟨(qw3 65 rfl rfl), (qw1 5 rfl rfl), ⟨by decide, by decide, by decide +kernel⟩, by decide⟩
theorem s_Ma_isLong : Cond.static mi_Ma_isLong.1 ∈ qGW := (qw3 64 rfl rfl)
theorem lk_Ma_64 : qLk "QueryFleet$Machine" 64 mi_Ma_calculate := Or.inl (qw3 68 rfl rfl)
theorem y_Ma_calculate : qY mi_Ma_calculate 3 := ⟨(qw3 70 rfl rfl), (qw1 5 rfl rfl), ⟨by decide, by decide, by decide +kernel⟩, by decide⟩
theorem s_Ma_calculate : Cond.static mi_Ma_calculate.1 ∈ qGW := (qw3 69 rfl rfl)
theorem oi_Pl_3 : Cond.methodLink "QueryFleet$Plan" 3 Lib.objectInit ∈ qGW ∧ Cond.instanceMethod Lib.objectInit ∈ qGW ∧ Cond.code Lib.objectInit ⟨#[0xb1]⟩ 1 none ∈ qGW := ⟨(qw1 28 rfl rfl), (qw1 21 rfl rfl), (qw1 22 rfl rfl)⟩
theorem lk_Pl_19 : qLk "QueryFleet$Plan" 19 mi_Qu_init := Or.inr ⟨"QueryFleet", List.mem_of_getElem? (i := 0) rfl⟩
theorem y_Qu_init : qY mi_Qu_init 0 := ⟨(qw1 35 rfl rfl), (qw1 3 rfl rfl), ⟨by decide, by decide, by decide +kernel⟩, by decide⟩
theorem i_Qu_init : mi_Qu_init.1.name = "<init>" ∧ mi_Qu_init.2.2.2 = none ∧ Cond.instanceMethod mi_Qu_init.1 ∈ qGW := ⟨rfl, rfl, (qw1 34 rfl rfl)⟩
theorem lk_Pl_26 : qLk "QueryFleet$Plan" 26 mi_Ma_init := Or.inr ⟨"QueryFleet", List.mem_of_getElem? (i := 2) rfl⟩
theorem y_Ma_init : qY mi_Ma_init 0 := ⟨(qw1 145 rfl rfl), (qw1 5 rfl rfl), ⟨by decide, by decide, by decide +kernel⟩, by decide⟩
theorem i_Ma_init : mi_Ma_init.1.name = "<init>" ∧ mi_Ma_init.2.2.2 = none ∧ Cond.instanceMethod mi_Ma_init.1 ∈ qGW := ⟨rfl, rfl, (qw1 144 rfl rfl)⟩
theorem lk_Pl_33 : qLk "QueryFleet$Plan" 33 mi_Ag_init := Or.inr ⟨"QueryFleet", List.mem_of_getElem? (i := 3) rfl⟩
theorem y_Ag_init : qY mi_Ag_init 0 := ⟨(qw1 168 rfl rfl), (qw1 6 rfl rfl), ⟨by decide, by decide, by decide +kernel⟩, by decide⟩
theorem i_Ag_init : mi_Ag_init.1.name = "<init>" ∧ mi_Ag_init.2.2.2 = none ∧ Cond.instanceMethod mi_Ag_init.1 ∈ qGW := ⟨rfl, rfl, (qw1 167 rfl rfl)⟩
theorem lk_Pl_56 : qLk "QueryFleet$Plan" 56 mi_Tb_init := Or.inr ⟨"QueryFleet", List.mem_of_getElem? (i := 4) rfl⟩
theorem y_Tb_init : qY mi_Tb_init 0 := ⟨(qw1 192 rfl rfl), (qw1 7 rfl rfl), ⟨by decide, by decide, by decide +kernel⟩, by decide⟩
theorem i_Tb_init : mi_Tb_init.1.name = "<init>" ∧ mi_Tb_init.2.2.2 = none ∧ Cond.instanceMethod mi_Tb_init.1 ∈ qGW := ⟨rfl, rfl, (qw1 191 rfl rfl)⟩
theorem lk_Pl_64 : qLk "QueryFleet$Plan" 64 mi_Qu_isJoin := Or.inl (qw3 20 rfl rfl)
theorem y_Qu_isJoin : qY mi_Qu_isJoin 0 := ⟨(qw2 182 rfl rfl), (qw1 3 rfl rfl), ⟨by decide, by decide, by decide +kernel⟩, by decide⟩
theorem v_Qu_isJoin : Cond.instanceMethod mi_Qu_isJoin.1 ∈ qGW ∧ Cond.selects mi_Qu_isJoin.1.cls mi_Qu_isJoin.1 mi_Qu_isJoin.1 ∈ qGW := ⟨(qw2 180 rfl rfl), (qw2 181 rfl rfl)⟩
theorem lk_Pl_74 : qLk "QueryFleet$Plan" 74 mi_Pl_arePair := Or.inl (qw3 21 rfl rfl)
theorem y_Pl_arePair : qY mi_Pl_arePair 4 := ⟨(qw3 24 rfl rfl), (qw1 2 rfl rfl), ⟨by decide, by decide, by decide +kernel⟩, by decide⟩
theorem v_Pl_arePair : Cond.instanceMethod mi_Pl_arePair.1 ∈ qGW ∧ Cond.selects mi_Pl_arePair.1.cls mi_Pl_arePair.1 mi_Pl_arePair.1 ∈ qGW := ⟨(qw3 23 rfl rfl), qw_s (q := (⟨"QueryFleet$Plan", "arePair", "(LQueryFleet$Table;ILQueryFleet$Table;I)Z"⟩, _)) (by show _ ∈ lw_privs_1 ++ (lw_privs_2 ++ (lw_privs_3 ++ (lw_privs_4 ++ (lw_privs_5)))); exact List.mem_append_left _ (List.mem_of_getElem? (i := 2) rfl))⟩
theorem lk_Pl_78 : qLk "QueryFleet$Plan" 78 mi_Pl_keepIfAllTrue := Or.inl (qw3 33 rfl rfl)
theorem y_Pl_keepIfAllTrue : qY mi_Pl_keepIfAllTrue 2 := ⟨(qw3 36 rfl rfl), (qw1 2 rfl rfl), ⟨by decide, by decide, by decide +kernel⟩, by decide⟩
theorem v_Pl_keepIfAllTrue : Cond.instanceMethod mi_Pl_keepIfAllTrue.1 ∈ qGW ∧ Cond.selects mi_Pl_keepIfAllTrue.1.cls mi_Pl_keepIfAllTrue.1 mi_Pl_keepIfAllTrue.1 ∈ qGW := ⟨(qw3 35 rfl rfl), qw_s (q := (⟨"QueryFleet$Plan", "keepIfAllTrue", "(II)V"⟩, _)) (by show _ ∈ lw_privs_1 ++ (lw_privs_2 ++ (lw_privs_3 ++ (lw_privs_4 ++ (lw_privs_5)))); exact List.mem_append_left _ (List.mem_of_getElem? (i := 3) rfl))⟩
theorem lk_Pl_88 : qLk "QueryFleet$Plan" 88 mi_Tb_isNull := Or.inl (qw3 25 rfl rfl)
theorem lk_Pl_95 : qLk "QueryFleet$Plan" 95 mi_Tb_value := Or.inl (qw3 29 rfl rfl)
theorem lk_Pl_99 : qLk "QueryFleet$Plan" 99 mi_Pl_loadJoined := Or.inl (qw3 37 rfl rfl)
theorem y_Pl_loadJoined : qY mi_Pl_loadJoined 2 := ⟨(qw3 40 rfl rfl), (qw1 2 rfl rfl), ⟨by decide, by decide, by decide +kernel⟩, by decide⟩
theorem v_Pl_loadJoined : Cond.instanceMethod mi_Pl_loadJoined.1 ∈ qGW ∧ Cond.selects mi_Pl_loadJoined.1.cls mi_Pl_loadJoined.1 mi_Pl_loadJoined.1 ∈ qGW := ⟨(qw3 39 rfl rfl), qw_s (q := (⟨"QueryFleet$Plan", "loadJoined", "(II)V"⟩, _)) (by show _ ∈ lw_privs_1 ++ (lw_privs_2 ++ (lw_privs_3 ++ (lw_privs_4 ++ (lw_privs_5)))); exact List.mem_append_left _ (List.mem_of_getElem? (i := 4) rfl))⟩
theorem lk_Pl_109 : qLk "QueryFleet$Plan" 109 mi_Ma_evaluate := Or.inl (qw3 47 rfl rfl)
theorem y_Ma_evaluate : qY mi_Ma_evaluate 1 := ⟨(qw3 50 rfl rfl), (qw1 5 rfl rfl), ⟨by decide, by decide, by decide +kernel⟩, by decide⟩
theorem v_Ma_evaluate : Cond.instanceMethod mi_Ma_evaluate.1 ∈ qGW ∧ Cond.selects mi_Ma_evaluate.1.cls mi_Ma_evaluate.1 mi_Ma_evaluate.1 ∈ qGW := ⟨(qw3 48 rfl rfl), (qw3 49 rfl rfl)⟩
theorem lk_Pl_113 : qLk "QueryFleet$Plan" 113 mi_Ma_isTrue := Or.inl (qw3 71 rfl rfl)
theorem y_Ma_isTrue : qY mi_Ma_isTrue 0 := ⟨(qw3 74 rfl rfl), (qw1 5 rfl rfl), ⟨by decide, by decide, by decide +kernel⟩, by decide⟩
theorem v_Ma_isTrue : Cond.instanceMethod mi_Ma_isTrue.1 ∈ qGW ∧ Cond.selects mi_Ma_isTrue.1.cls mi_Ma_isTrue.1 mi_Ma_isTrue.1 ∈ qGW := ⟨(qw3 72 rfl rfl), (qw3 73 rfl rfl)⟩
theorem lk_Pl_116 : qLk "QueryFleet$Plan" 116 mi_Ma_load := Or.inl (qw3 41 rfl rfl)
theorem y_Ma_load : qY mi_Ma_load 3 := ⟨(qw3 44 rfl rfl), (qw1 5 rfl rfl), ⟨by decide, by decide, by decide +kernel⟩, by decide⟩
theorem v_Ma_load : Cond.instanceMethod mi_Ma_load.1 ∈ qGW ∧ Cond.selects mi_Ma_load.1.cls mi_Ma_load.1 mi_Ma_load.1 ∈ qGW := ⟨(qw3 42 rfl rfl), (qw3 43 rfl rfl)⟩
theorem lk_Pl_120 : qLk "QueryFleet$Plan" 120 mi_Qu_isGrouped := Or.inl (qw3 79 rfl rfl)
theorem y_Qu_isGrouped : qY mi_Qu_isGrouped 0 := ⟨(qw3 11 rfl rfl), (qw1 3 rfl rfl), ⟨by decide, by decide, by decide +kernel⟩, by decide⟩
theorem v_Qu_isGrouped : Cond.instanceMethod mi_Qu_isGrouped.1 ∈ qGW ∧ Cond.selects mi_Qu_isGrouped.1.cls mi_Qu_isGrouped.1 mi_Qu_isGrouped.1 ∈ qGW := ⟨(qw3 9 rfl rfl), (qw3 10 rfl rfl)⟩
theorem lk_Pl_126 : qLk "QueryFleet$Plan" 126 mi_Pl_findGroup := Or.inl (qw3 80 rfl rfl)
theorem y_Pl_findGroup : qY mi_Pl_findGroup 1 := ⟨(qw3 83 rfl rfl), (qw1 2 rfl rfl), ⟨by decide, by decide, by decide +kernel⟩, by decide⟩
theorem v_Pl_findGroup : Cond.instanceMethod mi_Pl_findGroup.1 ∈ qGW ∧ Cond.selects mi_Pl_findGroup.1.cls mi_Pl_findGroup.1 mi_Pl_findGroup.1 ∈ qGW := ⟨(qw3 82 rfl rfl), qw_s (q := (⟨"QueryFleet$Plan", "findGroup", "(I)I"⟩, _)) (by show _ ∈ lw_privs_1 ++ (lw_privs_2 ++ (lw_privs_3 ++ (lw_privs_4 ++ (lw_privs_5)))); exact List.mem_append_left _ (List.mem_of_getElem? (i := 8) rfl))⟩
theorem lk_Pl_139 : qLk "QueryFleet$Plan" 139 mi_Qu_resultColumns := Or.inl (qw3 88 rfl rfl)
theorem y_Qu_resultColumns : qY mi_Qu_resultColumns 0 := ⟨(qw3 91 rfl rfl), (qw1 3 rfl rfl), ⟨by decide, by decide, by decide +kernel⟩, by decide⟩
theorem v_Qu_resultColumns : Cond.instanceMethod mi_Qu_resultColumns.1 ∈ qGW ∧ Cond.selects mi_Qu_resultColumns.1.cls mi_Qu_resultColumns.1 mi_Qu_resultColumns.1 ∈ qGW := ⟨(qw3 89 rfl rfl), (qw3 90 rfl rfl)⟩
theorem lk_Pl_148 : qLk "QueryFleet$Plan" 148 mi_Qu_isAggregate := Or.inl (qw3 92 rfl rfl)
theorem y_Qu_isAggregate : qY mi_Qu_isAggregate 0 := ⟨(qw3 15 rfl rfl), (qw1 3 rfl rfl), ⟨by decide, by decide, by decide +kernel⟩, by decide⟩
theorem v_Qu_isAggregate : Cond.instanceMethod mi_Qu_isAggregate.1 ∈ qGW ∧ Cond.selects mi_Qu_isAggregate.1.cls mi_Qu_isAggregate.1 mi_Qu_isAggregate.1 ∈ qGW := ⟨(qw3 13 rfl rfl), (qw3 14 rfl rfl)⟩
theorem lk_Pl_154 : qLk "QueryFleet$Plan" 154 mi_Pl_fillGroup := Or.inl (qw3 93 rfl rfl)
theorem y_Pl_fillGroup : qY mi_Pl_fillGroup 2 := ⟨(qw3 96 rfl rfl), (qw1 2 rfl rfl), ⟨by decide, by decide, by decide +kernel⟩, by decide⟩
theorem v_Pl_fillGroup : Cond.instanceMethod mi_Pl_fillGroup.1 ∈ qGW ∧ Cond.selects mi_Pl_fillGroup.1.cls mi_Pl_fillGroup.1 mi_Pl_fillGroup.1 ∈ qGW := ⟨(qw3 95 rfl rfl), qw_s (q := (⟨"QueryFleet$Plan", "fillGroup", "(LQueryFleet$Result;I)V"⟩, _)) (by show _ ∈ lw_privs_1 ++ (lw_privs_2 ++ (lw_privs_3 ++ (lw_privs_4 ++ (lw_privs_5)))); exact List.mem_append_left _ (List.mem_of_getElem? (i := 9) rfl))⟩
theorem lk_Pl_158 : qLk "QueryFleet$Plan" 158 mi_Pl_fillPlain := Or.inl (qw3 142 rfl rfl)
theorem y_Pl_fillPlain : qY mi_Pl_fillPlain 2 := ⟨(qw3 145 rfl rfl), (qw1 2 rfl rfl), ⟨by decide, by decide, by decide +kernel⟩, by decide⟩
theorem v_Pl_fillPlain : Cond.instanceMethod mi_Pl_fillPlain.1 ∈ qGW ∧ Cond.selects mi_Pl_fillPlain.1.cls mi_Pl_fillPlain.1 mi_Pl_fillPlain.1 ∈ qGW := ⟨(qw3 144 rfl rfl), qw_s (q := (⟨"QueryFleet$Plan", "fillPlain", "(LQueryFleet$Result;I)V"⟩, _)) (by show _ ∈ lw_privs_1 ++ (lw_privs_2 ++ (lw_privs_3 ++ (lw_privs_4 ++ (lw_privs_5)))); exact List.mem_append_left _ (List.mem_of_getElem? (i := 12) rfl))⟩
theorem lk_Pl_167 : qLk "QueryFleet$Plan" 167 mi_Ma_value := Or.inl (qw3 111 rfl rfl)
theorem y_Ma_value : qY mi_Ma_value 0 := ⟨(qw3 114 rfl rfl), (qw1 5 rfl rfl), ⟨by decide, by decide, by decide +kernel⟩, by decide⟩
theorem v_Ma_value : Cond.instanceMethod mi_Ma_value.1 ∈ qGW ∧ Cond.selects mi_Ma_value.1.cls mi_Ma_value.1 mi_Ma_value.1 ∈ qGW := ⟨(qw3 112 rfl rfl), (qw3 113 rfl rfl)⟩
theorem lk_Pl_170 : qLk "QueryFleet$Plan" 170 mi_Ma_isNull := Or.inl (qw3 115 rfl rfl)
theorem y_Ma_isNull : qY mi_Ma_isNull 0 := ⟨(qw3 118 rfl rfl), (qw1 5 rfl rfl), ⟨by decide, by decide, by decide +kernel⟩, by decide⟩
theorem v_Ma_isNull : Cond.instanceMethod mi_Ma_isNull.1 ∈ qGW ∧ Cond.selects mi_Ma_isNull.1.cls mi_Ma_isNull.1 mi_Ma_isNull.1 ∈ qGW := ⟨(qw3 116 rfl rfl), (qw3 117 rfl rfl)⟩
theorem lk_Pl_172 : qLk "QueryFleet$Plan" 172 mi_Re_set := Or.inl (qw3 97 rfl rfl)
theorem y_Re_set : qY mi_Re_set 4 := ⟨(qw3 100 rfl rfl), (qw1 8 rfl rfl), ⟨by decide, by decide, by decide +kernel⟩, by decide⟩
theorem v_Re_set : Cond.instanceMethod mi_Re_set.1 ∈ qGW ∧ Cond.selects mi_Re_set.1.cls mi_Re_set.1 mi_Re_set.1 ∈ qGW := ⟨(qw3 98 rfl rfl), (qw3 99 rfl rfl)⟩
theorem lk_Pl_176 : qLk "QueryFleet$Plan" 176 mi_Pl_addUp := Or.inl (qw3 101 rfl rfl)
theorem y_Pl_addUp : qY mi_Pl_addUp 2 := ⟨(qw3 104 rfl rfl), (qw1 2 rfl rfl), ⟨by decide, by decide, by decide +kernel⟩, by decide⟩
theorem v_Pl_addUp : Cond.instanceMethod mi_Pl_addUp.1 ∈ qGW ∧ Cond.selects mi_Pl_addUp.1.cls mi_Pl_addUp.1 mi_Pl_addUp.1 ∈ qGW := ⟨(qw3 103 rfl rfl), qw_s (q := (⟨"QueryFleet$Plan", "addUp", "(LQueryFleet$Expression;I)V"⟩, _)) (by show _ ∈ lw_privs_1 ++ (lw_privs_2 ++ (lw_privs_3 ++ (lw_privs_4 ++ (lw_privs_5)))); exact List.mem_append_left _ (List.mem_of_getElem? (i := 10) rfl))⟩
theorem lk_Pl_183 : qLk "QueryFleet$Plan" 183 mi_Ag_value := Or.inl (qw3 130 rfl rfl)
theorem y_Ag_value : qY mi_Ag_value 1 := ⟨(qw3 133 rfl rfl), (qw1 6 rfl rfl), ⟨by decide, by decide, by decide +kernel⟩, by decide⟩
theorem v_Ag_value : Cond.instanceMethod mi_Ag_value.1 ∈ qGW ∧ Cond.selects mi_Ag_value.1.cls mi_Ag_value.1 mi_Ag_value.1 ∈ qGW := ⟨(qw3 131 rfl rfl), (qw3 132 rfl rfl)⟩
theorem lk_Pl_186 : qLk "QueryFleet$Plan" 186 mi_Ag_isNull := Or.inl (qw3 134 rfl rfl)
theorem y_Ag_isNull : qY mi_Ag_isNull 1 := ⟨(qw3 137 rfl rfl), (qw1 6 rfl rfl), ⟨by decide, by decide, by decide +kernel⟩, by decide⟩
theorem v_Ag_isNull : Cond.instanceMethod mi_Ag_isNull.1 ∈ qGW ∧ Cond.selects mi_Ag_isNull.1.cls mi_Ag_isNull.1 mi_Ag_isNull.1 ∈ qGW := ⟨(qw3 135 rfl rfl), (qw3 136 rfl rfl)⟩
theorem lk_Pl_189 : qLk "QueryFleet$Plan" 189 mi_Ag_clear := Or.inl (qw3 105 rfl rfl)
theorem y_Ag_clear : qY mi_Ag_clear 0 := ⟨(qw3 108 rfl rfl), (qw1 6 rfl rfl), ⟨by decide, by decide, by decide +kernel⟩, by decide⟩
theorem v_Ag_clear : Cond.instanceMethod mi_Ag_clear.1 ∈ qGW ∧ Cond.selects mi_Ag_clear.1.cls mi_Ag_clear.1 mi_Ag_clear.1 ∈ qGW := ⟨(qw3 106 rfl rfl), (qw3 107 rfl rfl)⟩
theorem lk_Pl_192 : qLk "QueryFleet$Plan" 192 mi_Ag_add := Or.inl (qw3 119 rfl rfl)
theorem y_Ag_add : qY mi_Ag_add 2 := ⟨(qw3 122 rfl rfl), (qw1 6 rfl rfl), ⟨by decide, by decide, by decide +kernel⟩, by decide⟩
theorem v_Ag_add : Cond.instanceMethod mi_Ag_add.1 ∈ qGW ∧ Cond.selects mi_Ag_add.1.cls mi_Ag_add.1 mi_Ag_add.1 ∈ qGW := ⟨(qw3 120 rfl rfl), (qw3 121 rfl rfl)⟩
theorem lk_Pl_196 : qLk "QueryFleet$Plan" 196 mi_Pl_scannedRows := Or.inl (qw3 184 rfl rfl)
theorem y_Pl_scannedRows : qY mi_Pl_scannedRows 4 := ⟨(qw3 187 rfl rfl), (qw1 2 rfl rfl), ⟨by decide, by decide, by decide +kernel⟩, by decide⟩
theorem v_Pl_scannedRows : Cond.instanceMethod mi_Pl_scannedRows.1 ∈ qGW ∧ Cond.selects mi_Pl_scannedRows.1.cls mi_Pl_scannedRows.1 mi_Pl_scannedRows.1 ∈ qGW := ⟨(qw3 186 rfl rfl), qw_s (q := (⟨"QueryFleet$Plan", "scannedRows", "(IIII)I"⟩, _)) (by show _ ∈ lw_privs_1 ++ (lw_privs_2 ++ (lw_privs_3 ++ (lw_privs_4 ++ (lw_privs_5)))); exact List.mem_append_right _ (List.mem_append_left _ (List.mem_of_getElem? (i := 0) rfl)))⟩
theorem lk_Pl_200 : qLk "QueryFleet$Plan" 200 mi_Pl_joinedRows := Or.inl (qw3 210 rfl rfl)
theorem y_Pl_joinedRows : qY mi_Pl_joinedRows 2 := ⟨(qw3 213 rfl rfl), (qw1 2 rfl rfl), ⟨by decide, by decide, by decide +kernel⟩, by decide⟩
theorem v_Pl_joinedRows : Cond.instanceMethod mi_Pl_joinedRows.1 ∈ qGW ∧ Cond.selects mi_Pl_joinedRows.1.cls mi_Pl_joinedRows.1 mi_Pl_joinedRows.1 ∈ qGW := ⟨(qw3 212 rfl rfl), qw_s (q := (⟨"QueryFleet$Plan", "joinedRows", "(II)I"⟩, _)) (by show _ ∈ lw_privs_1 ++ (lw_privs_2 ++ (lw_privs_3 ++ (lw_privs_4 ++ (lw_privs_5)))); exact List.mem_append_right _ (List.mem_append_left _ (List.mem_of_getElem? (i := 2) rfl)))⟩
theorem lk_Pl_203 : qLk "QueryFleet$Plan" 203 mi_Pl_groupsOfPart := Or.inl (qw3 214 rfl rfl)
theorem y_Pl_groupsOfPart : qY mi_Pl_groupsOfPart 2 := ⟨(qw3 217 rfl rfl), (qw1 2 rfl rfl), ⟨by decide, by decide, by decide +kernel⟩, by decide⟩
theorem v_Pl_groupsOfPart : Cond.instanceMethod mi_Pl_groupsOfPart.1 ∈ qGW ∧ Cond.selects mi_Pl_groupsOfPart.1.cls mi_Pl_groupsOfPart.1 mi_Pl_groupsOfPart.1 ∈ qGW := ⟨(qw3 216 rfl rfl), qw_s (q := (⟨"QueryFleet$Plan", "groupsOfPart", "(II)I"⟩, _)) (by show _ ∈ lw_privs_1 ++ (lw_privs_2 ++ (lw_privs_3 ++ (lw_privs_4 ++ (lw_privs_5)))); exact List.mem_append_right _ (List.mem_append_left _ (List.mem_of_getElem? (i := 3) rfl)))⟩
theorem lk_Pl_206 : qLk "QueryFleet$Plan" 206 mi_Pl_partOf := Or.inl (qw3 188 rfl rfl)
theorem y_Pl_partOf : qY mi_Pl_partOf 3 := ⟨(qw3 190 rfl rfl), (qw1 2 rfl rfl), ⟨by decide, by decide, by decide +kernel⟩, by decide⟩
theorem s_Pl_partOf : Cond.static mi_Pl_partOf.1 ∈ qGW := (qw3 189 rfl rfl)
theorem lk_Pl_210 : qLk "QueryFleet$Plan" 210 mi_Pl_passesPushed := Or.inl (qw3 194 rfl rfl)
theorem y_Pl_passesPushed : qY mi_Pl_passesPushed 1 := ⟨(qw3 197 rfl rfl), (qw1 2 rfl rfl), ⟨by decide, by decide, by decide +kernel⟩, by decide⟩
theorem v_Pl_passesPushed : Cond.instanceMethod mi_Pl_passesPushed.1 ∈ qGW ∧ Cond.selects mi_Pl_passesPushed.1.cls mi_Pl_passesPushed.1 mi_Pl_passesPushed.1 ∈ qGW := ⟨(qw3 196 rfl rfl), qw_s (q := (⟨"QueryFleet$Plan", "passesPushed", "(I)Z"⟩, _)) (by show _ ∈ lw_privs_1 ++ (lw_privs_2 ++ (lw_privs_3 ++ (lw_privs_4 ++ (lw_privs_5)))); exact List.mem_append_right _ (List.mem_append_left _ (List.mem_of_getElem? (i := 1) rfl)))⟩
theorem lk_Pl_213 : qLk "QueryFleet$Plan" 213 mi_Qu_isPushed := Or.inl (qw3 198 rfl rfl)
theorem y_Qu_isPushed : qY mi_Qu_isPushed 2 := ⟨(qw3 201 rfl rfl), (qw1 3 rfl rfl), ⟨by decide, by decide, by decide +kernel⟩, by decide⟩
theorem v_Qu_isPushed : Cond.instanceMethod mi_Qu_isPushed.1 ∈ qGW ∧ Cond.selects mi_Qu_isPushed.1.cls mi_Qu_isPushed.1 mi_Qu_isPushed.1 ∈ qGW := ⟨(qw3 199 rfl rfl), (qw3 200 rfl rfl)⟩
theorem lk_Pl_217 : qLk "QueryFleet$Plan" 217 mi_JM_floorModJ := Or.inl (qw3 191 rfl rfl)
theorem y_JM_floorModJ : qY mi_JM_floorModJ 2 := ⟨(qw3 193 rfl rfl), (qw1 13 rfl rfl), ⟨by decide, by decide, by decide +kernel⟩, by decide⟩
theorem s_JM_floorModJ : Cond.static mi_JM_floorModJ.1 ∈ qGW := (qw3 192 rfl rfl)
theorem oi_Qu_3 : Cond.methodLink "QueryFleet$Query" 3 Lib.objectInit ∈ qGW ∧ Cond.instanceMethod Lib.objectInit ∈ qGW ∧ Cond.code Lib.objectInit ⟨#[0xb1]⟩ 1 none ∈ qGW := ⟨(qw1 36 rfl rfl), (qw1 21 rfl rfl), (qw1 22 rfl rfl)⟩
theorem lk_Qu_9 : qLk "QueryFleet$Query" 9 mi_Qu_makeExpressions := Or.inl (qw1 37 rfl rfl)
theorem y_Qu_makeExpressions : qY mi_Qu_makeExpressions 1 := ⟨(qw1 39 rfl rfl), (qw1 3 rfl rfl), ⟨by decide, by decide, by decide +kernel⟩, by decide⟩
theorem s_Qu_makeExpressions : Cond.static mi_Qu_makeExpressions.1 ∈ qGW := (qw1 38 rfl rfl)
theorem lk_Qu_38 : qLk "QueryFleet$Query" 38 mi_Ex_init := Or.inr ⟨"QueryFleet", List.mem_of_getElem? (i := 1) rfl⟩
theorem y_Ex_init : qY mi_Ex_init 0 := ⟨(qw1 45 rfl rfl), (qw1 4 rfl rfl), ⟨by decide, by decide, by decide +kernel⟩, by decide⟩
theorem i_Ex_init : mi_Ex_init.1.name = "<init>" ∧ mi_Ex_init.2.2.2 = none ∧ Cond.instanceMethod mi_Ex_init.1 ∈ qGW := ⟨rfl, rfl, (qw1 44 rfl rfl)⟩
theorem lk_Qu_73 : qLk "QueryFleet$Query" 73 mi_Qu_isJoin := Or.inl (qw2 179 rfl rfl)
theorem lk_Qu_77 : qLk "QueryFleet$Query" 77 mi_Qu_isGrouped := Or.inl (qw3 8 rfl rfl)
theorem lk_Qu_80 : qLk "QueryFleet$Query" 80 mi_Qu_isAggregate := Or.inl (qw3 12 rfl rfl)
theorem lk_Qu_83 : qLk "QueryFleet$Query" 83 mi_Ex_namesSecond := Or.inl (qw3 202 rfl rfl)
theorem y_Ex_namesSecond : qY mi_Ex_namesSecond 0 := ⟨(qw3 205 rfl rfl), (qw1 4 rfl rfl), ⟨by decide, by decide, by decide +kernel⟩, by decide⟩
theorem v_Ex_namesSecond : Cond.instanceMethod mi_Ex_namesSecond.1 ∈ qGW ∧ Cond.selects mi_Ex_namesSecond.1.cls mi_Ex_namesSecond.1 mi_Ex_namesSecond.1 ∈ qGW := ⟨(qw3 203 rfl rfl), (qw3 204 rfl rfl)⟩
theorem lk_Qu_86 : qLk "QueryFleet$Query" 86 mi_Ex_namesFirst := Or.inl (qw3 206 rfl rfl)
theorem y_Ex_namesFirst : qY mi_Ex_namesFirst 0 := ⟨(qw3 209 rfl rfl), (qw1 4 rfl rfl), ⟨by decide, by decide, by decide +kernel⟩, by decide⟩
theorem v_Ex_namesFirst : Cond.instanceMethod mi_Ex_namesFirst.1 ∈ qGW ∧ Cond.selects mi_Ex_namesFirst.1.cls mi_Ex_namesFirst.1 mi_Ex_namesFirst.1 ∈ qGW := ⟨(qw3 207 rfl rfl), (qw3 208 rfl rfl)⟩
theorem lk_Qu_89 : qLk "QueryFleet$Query" 89 mi_Ex_clear := Or.inl (qw2 187 rfl rfl)
theorem y_Ex_clear : qY mi_Ex_clear 0 := ⟨(qw2 190 rfl rfl), (qw1 4 rfl rfl), ⟨by decide, by decide, by decide +kernel⟩, by decide⟩
theorem v_Ex_clear : Cond.instanceMethod mi_Ex_clear.1 ∈ qGW ∧ Cond.selects mi_Ex_clear.1.cls mi_Ex_clear.1 mi_Ex_clear.1 ∈ qGW := ⟨(qw2 188 rfl rfl), (qw2 189 rfl rfl)⟩
theorem lk_Qu_92 : qLk "QueryFleet$Query" 92 mi_Ex_addPart := Or.inl (qw2 191 rfl rfl)
theorem lk_Qu_102 : qLk "QueryFleet$Query" 102 mi_Ex_addAll := Or.inl (qw2 207 rfl rfl)
theorem y_Ex_addAll : qY mi_Ex_addAll 1 := ⟨(qw2 210 rfl rfl), (qw1 4 rfl rfl), ⟨by decide, by decide, by decide +kernel⟩, by decide⟩
theorem v_Ex_addAll : Cond.instanceMethod mi_Ex_addAll.1 ∈ qGW ∧ Cond.selects mi_Ex_addAll.1.cls mi_Ex_addAll.1 mi_Ex_addAll.1 ∈ qGW := ⟨(qw2 208 rfl rfl), (qw2 209 rfl rfl)⟩
theorem lk_Qu_106 : qLk "QueryFleet$Query" 106 mi_Qu_moveOffStack := Or.inl (qw2 220 rfl rfl)
theorem y_Qu_moveOffStack : qY mi_Qu_moveOffStack 2 := ⟨(qw2 223 rfl rfl), (qw1 3 rfl rfl), ⟨by decide, by decide, by decide +kernel⟩, by decide⟩
theorem v_Qu_moveOffStack : Cond.instanceMethod mi_Qu_moveOffStack.1 ∈ qGW ∧ Cond.selects mi_Qu_moveOffStack.1.cls mi_Qu_moveOffStack.1 mi_Qu_moveOffStack.1 ∈ qGW := ⟨(qw2 222 rfl rfl), qw_s (q := (⟨"QueryFleet$Query", "moveOffStack", "([LQueryFleet$Expression;I)V"⟩, _)) (by show _ ∈ lw_privs_1 ++ (lw_privs_2 ++ (lw_privs_3 ++ (lw_privs_4 ++ (lw_privs_5)))); exact List.mem_append_left _ (List.mem_of_getElem? (i := 1) rfl))⟩
theorem oi_Re_3 : Cond.methodLink "QueryFleet$Result" 3 Lib.objectInit ∈ qGW ∧ Cond.instanceMethod Lib.objectInit ∈ qGW ∧ Cond.code Lib.objectInit ⟨#[0xb1]⟩ 1 none ∈ qGW := ⟨(qw2 6 rfl rfl), (qw1 21 rfl rfl), (qw1 22 rfl rfl)⟩
theorem lk_Re_39 : qLk "QueryFleet$Result" 39 mi_Re_compare := Or.inl (qw3 150 rfl rfl)
theorem y_Re_compare : qY mi_Re_compare 4 := ⟨(qw3 153 rfl rfl), (qw1 8 rfl rfl), ⟨by decide, by decide, by decide +kernel⟩, by decide⟩
theorem v_Re_compare : Cond.instanceMethod mi_Re_compare.1 ∈ qGW ∧ Cond.selects mi_Re_compare.1.cls mi_Re_compare.1 mi_Re_compare.1 ∈ qGW := ⟨(qw3 152 rfl rfl), qw_s (q := (⟨"QueryFleet$Result", "compare", "(IIIZ)I"⟩, _)) (by show _ ∈ lw_privs_1 ++ (lw_privs_2 ++ (lw_privs_3 ++ (lw_privs_4 ++ (lw_privs_5)))); exact List.mem_append_left _ (List.mem_of_getElem? (i := 13) rfl))⟩
theorem lk_Re_46 : qLk "QueryFleet$Result" 46 mi_JM_minI := Or.inl (qw3 161 rfl rfl)
theorem y_JM_minI : qY mi_JM_minI 2 := ⟨(qw3 163 rfl rfl), (qw1 13 rfl rfl), ⟨by decide, by decide, by decide +kernel⟩, by decide⟩
theorem s_JM_minI : Cond.static mi_JM_minI.1 ∈ qGW := (qw3 162 rfl rfl)
theorem lk_Re_55 : qLk "QueryFleet$Result" 55 mi_Re_compareAt := Or.inl (qw3 154 rfl rfl)
theorem y_Re_compareAt : qY mi_Re_compareAt 3 := ⟨(qw3 157 rfl rfl), (qw1 8 rfl rfl), ⟨by decide, by decide, by decide +kernel⟩, by decide⟩
theorem v_Re_compareAt : Cond.instanceMethod mi_Re_compareAt.1 ∈ qGW ∧ Cond.selects mi_Re_compareAt.1.cls mi_Re_compareAt.1 mi_Re_compareAt.1 ∈ qGW := ⟨(qw3 156 rfl rfl), qw_s (q := (⟨"QueryFleet$Result", "compareAt", "(III)I"⟩, _)) (by show _ ∈ lw_privs_1 ++ (lw_privs_2 ++ (lw_privs_3 ++ (lw_privs_4 ++ (lw_privs_5)))); exact List.mem_append_left _ (List.mem_of_getElem? (i := 14) rfl))⟩
theorem lk_Re_59 : qLk "QueryFleet$Result" 59 mi_JL_compare := Or.inl (qw3 158 rfl rfl)
theorem y_JL_compare : qY mi_JL_compare 2 := ⟨(qw3 160 rfl rfl), (qw1 14 rfl rfl), ⟨by decide, by decide, by decide +kernel⟩, by decide⟩
theorem s_JL_compare : Cond.static mi_JL_compare.1 ∈ qGW := (qw3 159 rfl rfl)
theorem oi_Tb_3 : Cond.methodLink "QueryFleet$Table" 3 Lib.objectInit ∈ qGW ∧ Cond.instanceMethod Lib.objectInit ∈ qGW ∧ Cond.code Lib.objectInit ⟨#[0xb1]⟩ 1 none ∈ qGW := ⟨(qw1 193 rfl rfl), (qw1 21 rfl rfl), (qw1 22 rfl rfl)⟩
theorem oi_Ta_3 : Cond.methodLink "QueryFleet$Task" 3 Lib.objectInit ∈ qGW ∧ Cond.instanceMethod Lib.objectInit ∈ qGW ∧ Cond.code Lib.objectInit ⟨#[0xb1]⟩ 1 none ∈ qGW := ⟨(qw2 71 rfl rfl), (qw1 21 rfl rfl), (qw1 22 rfl rfl)⟩
theorem lk_La_9 : qLk "QueryFleetLaw" 9 mi_QF_init := Or.inl (qw1 17 rfl rfl)
theorem y_QF_init : qY mi_QF_init 0 := ⟨(qw1 19 rfl rfl), (qw1 1 rfl rfl), ⟨by decide, by decide, by decide +kernel⟩, by decide⟩
theorem i_QF_init : mi_QF_init.1.name = "<init>" ∧ mi_QF_init.2.2.2 = none ∧ Cond.instanceMethod mi_QF_init.1 ∈ qGW := ⟨rfl, rfl, (qw1 18 rfl rfl)⟩
theorem lk_La_12 : qLk "QueryFleetLaw" 12 mi_QM_init := Or.inl (qw4 101 rfl rfl)
theorem y_QM_init : qY mi_QM_init 0 := ⟨(qw4 103 rfl rfl), (qw1 12 rfl rfl), ⟨by decide, by decide, by decide +kernel⟩, by decide⟩
theorem i_QM_init : mi_QM_init.1.name = "<init>" ∧ mi_QM_init.2.2.2 = none ∧ Cond.instanceMethod mi_QM_init.1 ∈ qGW := ⟨rfl, rfl, (qw4 102 rfl rfl)⟩
theorem lk_La_13 : qLk "QueryFleetLaw" 13 mi_QF_row := Or.inl (qw2 148 rfl rfl)
theorem y_QF_row : qY mi_QF_row 4 := ⟨(qw2 151 rfl rfl), (qw1 1 rfl rfl), ⟨by decide, by decide, by decide +kernel⟩, by decide⟩
theorem v_QF_row : Cond.instanceMethod mi_QF_row.1 ∈ qGW ∧ Cond.selects mi_QF_row.1.cls mi_QF_row.1 mi_QF_row.1 ∈ qGW := ⟨(qw2 149 rfl rfl), (qw2 150 rfl rfl)⟩
theorem lk_La_17 : qLk "QueryFleetLaw" 17 mi_QM_row := Or.inl (qw5 34 rfl rfl)
theorem y_QM_row : qY mi_QM_row 4 := ⟨(qw5 37 rfl rfl), (qw1 12 rfl rfl), ⟨by decide, by decide, by decide +kernel⟩, by decide⟩
theorem v_QM_row : Cond.instanceMethod mi_QM_row.1 ∈ qGW ∧ Cond.selects mi_QM_row.1.cls mi_QM_row.1 mi_QM_row.1 ∈ qGW := ⟨(qw5 35 rfl rfl), (qw5 36 rfl rfl)⟩
theorem lk_La_18 : qLk "QueryFleetLaw" 18 mi_QF_from := Or.inl (qw2 159 rfl rfl)
theorem y_QF_from : qY mi_QF_from 5 := ⟨(qw2 162 rfl rfl), (qw1 1 rfl rfl), ⟨by decide, by decide, by decide +kernel⟩, by decide⟩
theorem v_QF_from : Cond.instanceMethod mi_QF_from.1 ∈ qGW ∧ Cond.selects mi_QF_from.1.cls mi_QF_from.1 mi_QF_from.1 ∈ qGW := ⟨(qw2 160 rfl rfl), (qw2 161 rfl rfl)⟩
theorem lk_La_22 : qLk "QueryFleetLaw" 22 mi_QM_from := Or.inl (qw5 41 rfl rfl)
theorem y_QM_from : qY mi_QM_from 5 := ⟨(qw5 44 rfl rfl), (qw1 12 rfl rfl), ⟨by decide, by decide, by decide +kernel⟩, by decide⟩
theorem v_QM_from : Cond.instanceMethod mi_QM_from.1 ∈ qGW ∧ Cond.selects mi_QM_from.1.cls mi_QM_from.1 mi_QM_from.1 ∈ qGW := ⟨(qw5 42 rfl rfl), (qw5 43 rfl rfl)⟩
theorem lk_La_23 : qLk "QueryFleetLaw" 23 mi_QF_column := Or.inl (qw2 167 rfl rfl)
theorem y_QF_column : qY mi_QF_column 1 := ⟨(qw2 170 rfl rfl), (qw1 1 rfl rfl), ⟨by decide, by decide, by decide +kernel⟩, by decide⟩
theorem v_QF_column : Cond.instanceMethod mi_QF_column.1 ∈ qGW ∧ Cond.selects mi_QF_column.1.cls mi_QF_column.1 mi_QF_column.1 ∈ qGW := ⟨(qw2 168 rfl rfl), (qw2 169 rfl rfl)⟩
theorem lk_La_27 : qLk "QueryFleetLaw" 27 mi_QM_column := Or.inl (qw5 45 rfl rfl)
theorem y_QM_column : qY mi_QM_column 1 := ⟨(qw5 48 rfl rfl), (qw1 12 rfl rfl), ⟨by decide, by decide, by decide +kernel⟩, by decide⟩
theorem v_QM_column : Cond.instanceMethod mi_QM_column.1 ∈ qGW ∧ Cond.selects mi_QM_column.1.cls mi_QM_column.1 mi_QM_column.1 ∈ qGW := ⟨(qw5 46 rfl rfl), (qw5 47 rfl rfl)⟩
theorem lk_La_28 : qLk "QueryFleetLaw" 28 mi_QF_number := Or.inl (qw2 195 rfl rfl)
theorem y_QF_number : qY mi_QF_number 1 := ⟨(qw2 198 rfl rfl), (qw1 1 rfl rfl), ⟨by decide, by decide, by decide +kernel⟩, by decide⟩
theorem v_QF_number : Cond.instanceMethod mi_QF_number.1 ∈ qGW ∧ Cond.selects mi_QF_number.1.cls mi_QF_number.1 mi_QF_number.1 ∈ qGW := ⟨(qw2 196 rfl rfl), (qw2 197 rfl rfl)⟩
theorem lk_La_31 : qLk "QueryFleetLaw" 31 mi_QM_number := Or.inl (qw5 61 rfl rfl)
theorem y_QM_number : qY mi_QM_number 1 := ⟨(qw5 64 rfl rfl), (qw1 12 rfl rfl), ⟨by decide, by decide, by decide +kernel⟩, by decide⟩
theorem v_QM_number : Cond.instanceMethod mi_QM_number.1 ∈ qGW ∧ Cond.selects mi_QM_number.1.cls mi_QM_number.1 mi_QM_number.1 ∈ qGW := ⟨(qw5 62 rfl rfl), (qw5 63 rfl rfl)⟩
theorem lk_La_32 : qLk "QueryFleetLaw" 32 mi_QF_operate := Or.inl (qw2 199 rfl rfl)
theorem y_QF_operate : qY mi_QF_operate 1 := ⟨(qw2 202 rfl rfl), (qw1 1 rfl rfl), ⟨by decide, by decide, by decide +kernel⟩, by decide⟩
theorem v_QF_operate : Cond.instanceMethod mi_QF_operate.1 ∈ qGW ∧ Cond.selects mi_QF_operate.1.cls mi_QF_operate.1 mi_QF_operate.1 ∈ qGW := ⟨(qw2 200 rfl rfl), (qw2 201 rfl rfl)⟩
theorem lk_La_35 : qLk "QueryFleetLaw" 35 mi_QM_operate := Or.inl (qw5 65 rfl rfl)
theorem y_QM_operate : qY mi_QM_operate 1 := ⟨(qw5 68 rfl rfl), (qw1 12 rfl rfl), ⟨by decide, by decide, by decide +kernel⟩, by decide⟩
theorem v_QM_operate : Cond.instanceMethod mi_QM_operate.1 ∈ qGW ∧ Cond.selects mi_QM_operate.1.cls mi_QM_operate.1 mi_QM_operate.1 ∈ qGW := ⟨(qw5 66 rfl rfl), (qw5 67 rfl rfl)⟩
theorem lk_La_36 : qLk "QueryFleetLaw" 36 mi_QF_where := Or.inl (qw2 212 rfl rfl)
theorem y_QF_where : qY mi_QF_where 0 := ⟨(qw2 215 rfl rfl), (qw1 1 rfl rfl), ⟨by decide, by decide, by decide +kernel⟩, by decide⟩
theorem v_QF_where : Cond.instanceMethod mi_QF_where.1 ∈ qGW ∧ Cond.selects mi_QF_where.1.cls mi_QF_where.1 mi_QF_where.1 ∈ qGW := ⟨(qw2 213 rfl rfl), (qw2 214 rfl rfl)⟩
theorem lk_La_40 : qLk "QueryFleetLaw" 40 mi_QM_where := Or.inl (qw5 73 rfl rfl)
theorem y_QM_where : qY mi_QM_where 0 := ⟨(qw5 76 rfl rfl), (qw1 12 rfl rfl), ⟨by decide, by decide, by decide +kernel⟩, by decide⟩
theorem v_QM_where : Cond.instanceMethod mi_QM_where.1 ∈ qGW ∧ Cond.selects mi_QM_where.1.cls mi_QM_where.1 mi_QM_where.1 ∈ qGW := ⟨(qw5 74 rfl rfl), (qw5 75 rfl rfl)⟩
theorem lk_La_41 : qLk "QueryFleetLaw" 41 mi_QF_output := Or.inl (qw2 224 rfl rfl)
theorem y_QF_output : qY mi_QF_output 1 := ⟨(qw2 227 rfl rfl), (qw1 1 rfl rfl), ⟨by decide, by decide, by decide +kernel⟩, by decide⟩
theorem v_QF_output : Cond.instanceMethod mi_QF_output.1 ∈ qGW ∧ Cond.selects mi_QF_output.1.cls mi_QF_output.1 mi_QF_output.1 ∈ qGW := ⟨(qw2 225 rfl rfl), (qw2 226 rfl rfl)⟩
theorem lk_La_44 : qLk "QueryFleetLaw" 44 mi_QM_output := Or.inl (qw5 77 rfl rfl)
theorem y_QM_output : qY mi_QM_output 1 := ⟨(qw5 80 rfl rfl), (qw1 12 rfl rfl), ⟨by decide, by decide, by decide +kernel⟩, by decide⟩
theorem v_QM_output : Cond.instanceMethod mi_QM_output.1 ∈ qGW ∧ Cond.selects mi_QM_output.1.cls mi_QM_output.1 mi_QM_output.1 ∈ qGW := ⟨(qw5 78 rfl rfl), (qw5 79 rfl rfl)⟩
theorem lk_La_45 : qLk "QueryFleetLaw" 45 mi_QF_group := Or.inl (qw2 232 rfl rfl)
theorem y_QF_group : qY mi_QF_group 1 := ⟨(qw2 235 rfl rfl), (qw1 1 rfl rfl), ⟨by decide, by decide, by decide +kernel⟩, by decide⟩
theorem v_QF_group : Cond.instanceMethod mi_QF_group.1 ∈ qGW ∧ Cond.selects mi_QF_group.1.cls mi_QF_group.1 mi_QF_group.1 ∈ qGW := ⟨(qw2 233 rfl rfl), (qw2 234 rfl rfl)⟩
theorem lk_La_48 : qLk "QueryFleetLaw" 48 mi_QM_group := Or.inl (qw5 81 rfl rfl)
theorem y_QM_group : qY mi_QM_group 1 := ⟨(qw5 84 rfl rfl), (qw1 12 rfl rfl), ⟨by decide, by decide, by decide +kernel⟩, by decide⟩
theorem v_QM_group : Cond.instanceMethod mi_QM_group.1 ∈ qGW ∧ Cond.selects mi_QM_group.1.cls mi_QM_group.1 mi_QM_group.1 ∈ qGW := ⟨(qw5 82 rfl rfl), (qw5 83 rfl rfl)⟩
theorem lk_La_49 : qLk "QueryFleetLaw" 49 mi_QF_order := Or.inl (qw2 236 rfl rfl)
theorem y_QF_order : qY mi_QF_order 3 := ⟨(qw2 239 rfl rfl), (qw1 1 rfl rfl), ⟨by decide, by decide, by decide +kernel⟩, by decide⟩
theorem v_QF_order : Cond.instanceMethod mi_QF_order.1 ∈ qGW ∧ Cond.selects mi_QF_order.1.cls mi_QF_order.1 mi_QF_order.1 ∈ qGW := ⟨(qw2 237 rfl rfl), (qw2 238 rfl rfl)⟩
theorem lk_La_53 : qLk "QueryFleetLaw" 53 mi_QM_order := Or.inl (qw5 85 rfl rfl)
theorem y_QM_order : qY mi_QM_order 3 := ⟨(qw5 88 rfl rfl), (qw1 12 rfl rfl), ⟨by decide, by decide, by decide +kernel⟩, by decide⟩
theorem v_QM_order : Cond.instanceMethod mi_QM_order.1 ∈ qGW ∧ Cond.selects mi_QM_order.1.cls mi_QM_order.1 mi_QM_order.1 ∈ qGW := ⟨(qw5 86 rfl rfl), (qw5 87 rfl rfl)⟩
theorem lk_La_54 : qLk "QueryFleetLaw" 54 mi_QF_start := Or.inl (qw3 0 rfl rfl)
theorem y_QF_start : qY mi_QF_start 2 := ⟨(qw3 3 rfl rfl), (qw1 1 rfl rfl), ⟨by decide, by decide, by decide +kernel⟩, by decide⟩
theorem v_QF_start : Cond.instanceMethod mi_QF_start.1 ∈ qGW ∧ Cond.selects mi_QF_start.1.cls mi_QF_start.1 mi_QF_start.1 ∈ qGW := ⟨(qw3 1 rfl rfl), (qw3 2 rfl rfl)⟩
theorem lk_La_58 : qLk "QueryFleetLaw" 58 mi_QM_start := Or.inl (qw5 89 rfl rfl)
theorem y_QM_start : qY mi_QM_start 2 := ⟨(qw5 92 rfl rfl), (qw1 12 rfl rfl), ⟨by decide, by decide, by decide +kernel⟩, by decide⟩
theorem v_QM_start : Cond.instanceMethod mi_QM_start.1 ∈ qGW ∧ Cond.selects mi_QM_start.1.cls mi_QM_start.1 mi_QM_start.1 ∈ qGW := ⟨(qw5 90 rfl rfl), (qw5 91 rfl rfl)⟩
theorem lk_La_59 : qLk "QueryFleetLaw" 59 mi_QF_pass := Or.inl (qw4 2 rfl rfl)
theorem y_QF_pass : qY mi_QF_pass 2 := ⟨(qw4 5 rfl rfl), (qw1 1 rfl rfl), ⟨by decide, by decide, by decide +kernel⟩, by decide⟩
theorem v_QF_pass : Cond.instanceMethod mi_QF_pass.1 ∈ qGW ∧ Cond.selects mi_QF_pass.1.cls mi_QF_pass.1 mi_QF_pass.1 ∈ qGW := ⟨(qw4 3 rfl rfl), (qw4 4 rfl rfl)⟩
theorem lk_La_62 : qLk "QueryFleetLaw" 62 mi_QM_pass := Or.inl (qw5 234 rfl rfl)
theorem y_QM_pass : qY mi_QM_pass 2 := ⟨(qw5 237 rfl rfl), (qw1 12 rfl rfl), ⟨by decide, by decide, by decide +kernel⟩, by decide⟩
theorem v_QM_pass : Cond.instanceMethod mi_QM_pass.1 ∈ qGW ∧ Cond.selects mi_QM_pass.1.cls mi_QM_pass.1 mi_QM_pass.1 ∈ qGW := ⟨(qw5 235 rfl rfl), (qw5 236 rfl rfl)⟩
theorem lk_La_63 : qLk "QueryFleetLaw" 63 mi_QF_work := Or.inl (qw4 31 rfl rfl)
theorem y_QF_work : qY mi_QF_work 1 := ⟨(qw4 34 rfl rfl), (qw1 1 rfl rfl), ⟨by decide, by decide, by decide +kernel⟩, by decide⟩
theorem v_QF_work : Cond.instanceMethod mi_QF_work.1 ∈ qGW ∧ Cond.selects mi_QF_work.1.cls mi_QF_work.1 mi_QF_work.1 ∈ qGW := ⟨(qw4 32 rfl rfl), (qw4 33 rfl rfl)⟩
theorem lk_La_67 : qLk "QueryFleetLaw" 67 mi_QM_work := Or.inl (qw6 10 rfl rfl)
theorem y_QM_work : qY mi_QM_work 1 := ⟨(qw6 13 rfl rfl), (qw1 12 rfl rfl), ⟨by decide, by decide, by decide +kernel⟩, by decide⟩
theorem v_QM_work : Cond.instanceMethod mi_QM_work.1 ∈ qGW ∧ Cond.selects mi_QM_work.1.cls mi_QM_work.1 mi_QM_work.1 ∈ qGW := ⟨(qw6 11 rfl rfl), (qw6 12 rfl rfl)⟩
theorem lk_La_68 : qLk "QueryFleetLaw" 68 mi_QF_crash := Or.inl (qw4 43 rfl rfl)
theorem y_QF_crash : qY mi_QF_crash 1 := ⟨(qw4 46 rfl rfl), (qw1 1 rfl rfl), ⟨by decide, by decide, by decide +kernel⟩, by decide⟩
theorem v_QF_crash : Cond.instanceMethod mi_QF_crash.1 ∈ qGW ∧ Cond.selects mi_QF_crash.1.cls mi_QF_crash.1 mi_QF_crash.1 ∈ qGW := ⟨(qw4 44 rfl rfl), (qw4 45 rfl rfl)⟩
theorem lk_La_71 : qLk "QueryFleetLaw" 71 mi_QM_crash := Or.inl (qw6 18 rfl rfl)
theorem y_QM_crash : qY mi_QM_crash 1 := ⟨(qw6 21 rfl rfl), (qw1 12 rfl rfl), ⟨by decide, by decide, by decide +kernel⟩, by decide⟩
theorem v_QM_crash : Cond.instanceMethod mi_QM_crash.1 ∈ qGW ∧ Cond.selects mi_QM_crash.1.cls mi_QM_crash.1 mi_QM_crash.1 ∈ qGW := ⟨(qw6 19 rfl rfl), (qw6 20 rfl rfl)⟩
theorem lk_La_72 : qLk "QueryFleetLaw" 72 mi_QF_tick := Or.inl (qw4 47 rfl rfl)
theorem y_QF_tick : qY mi_QF_tick 0 := ⟨(qw4 50 rfl rfl), (qw1 1 rfl rfl), ⟨by decide, by decide, by decide +kernel⟩, by decide⟩
theorem v_QF_tick : Cond.instanceMethod mi_QF_tick.1 ∈ qGW ∧ Cond.selects mi_QF_tick.1.cls mi_QF_tick.1 mi_QF_tick.1 ∈ qGW := ⟨(qw4 48 rfl rfl), (qw4 49 rfl rfl)⟩
theorem lk_La_76 : qLk "QueryFleetLaw" 76 mi_QM_tick := Or.inl (qw6 22 rfl rfl)
theorem y_QM_tick : qY mi_QM_tick 0 := ⟨(qw6 25 rfl rfl), (qw1 12 rfl rfl), ⟨by decide, by decide, by decide +kernel⟩, by decide⟩
theorem v_QM_tick : Cond.instanceMethod mi_QM_tick.1 ∈ qGW ∧ Cond.selects mi_QM_tick.1.cls mi_QM_tick.1 mi_QM_tick.1 ∈ qGW := ⟨(qw6 23 rfl rfl), (qw6 24 rfl rfl)⟩
theorem lk_La_77 : qLk "QueryFleetLaw" 77 mi_QF_message := Or.inl (qw4 55 rfl rfl)
theorem y_QF_message : qY mi_QF_message 2 := ⟨(qw4 58 rfl rfl), (qw1 1 rfl rfl), ⟨by decide, by decide, by decide +kernel⟩, by decide⟩
theorem v_QF_message : Cond.instanceMethod mi_QF_message.1 ∈ qGW ∧ Cond.selects mi_QF_message.1.cls mi_QF_message.1 mi_QF_message.1 ∈ qGW := ⟨(qw4 56 rfl rfl), (qw4 57 rfl rfl)⟩
theorem lk_La_80 : qLk "QueryFleetLaw" 80 mi_QM_message := Or.inl (qw6 26 rfl rfl)
theorem y_QM_message : qY mi_QM_message 2 := ⟨(qw6 29 rfl rfl), (qw1 12 rfl rfl), ⟨by decide, by decide, by decide +kernel⟩, by decide⟩
theorem v_QM_message : Cond.instanceMethod mi_QM_message.1 ∈ qGW ∧ Cond.selects mi_QM_message.1.cls mi_QM_message.1 mi_QM_message.1 ∈ qGW := ⟨(qw6 27 rfl rfl), (qw6 28 rfl rfl)⟩
theorem lk_La_81 : qLk "QueryFleetLaw" 81 mi_QF_task := Or.inl (qw4 63 rfl rfl)
theorem y_QF_task : qY mi_QF_task 2 := ⟨(qw4 66 rfl rfl), (qw1 1 rfl rfl), ⟨by decide, by decide, by decide +kernel⟩, by decide⟩
theorem v_QF_task : Cond.instanceMethod mi_QF_task.1 ∈ qGW ∧ Cond.selects mi_QF_task.1.cls mi_QF_task.1 mi_QF_task.1 ∈ qGW := ⟨(qw4 64 rfl rfl), (qw4 65 rfl rfl)⟩
theorem lk_La_84 : qLk "QueryFleetLaw" 84 mi_QM_task := Or.inl (qw6 30 rfl rfl)
theorem y_QM_task : qY mi_QM_task 2 := ⟨(qw6 33 rfl rfl), (qw1 12 rfl rfl), ⟨by decide, by decide, by decide +kernel⟩, by decide⟩
theorem v_QM_task : Cond.instanceMethod mi_QM_task.1 ∈ qGW ∧ Cond.selects mi_QM_task.1.cls mi_QM_task.1 mi_QM_task.1 ∈ qGW := ⟨(qw6 31 rfl rfl), (qw6 32 rfl rfl)⟩
theorem lk_La_85 : qLk "QueryFleetLaw" 85 mi_QF_ended := Or.inl (qw4 71 rfl rfl)
theorem y_QF_ended : qY mi_QF_ended 1 := ⟨(qw4 74 rfl rfl), (qw1 1 rfl rfl), ⟨by decide, by decide, by decide +kernel⟩, by decide⟩
theorem v_QF_ended : Cond.instanceMethod mi_QF_ended.1 ∈ qGW ∧ Cond.selects mi_QF_ended.1.cls mi_QF_ended.1 mi_QF_ended.1 ∈ qGW := ⟨(qw4 72 rfl rfl), (qw4 73 rfl rfl)⟩
theorem lk_La_88 : qLk "QueryFleetLaw" 88 mi_QM_ended := Or.inl (qw6 34 rfl rfl)
theorem y_QM_ended : qY mi_QM_ended 1 := ⟨(qw6 37 rfl rfl), (qw1 12 rfl rfl), ⟨by decide, by decide, by decide +kernel⟩, by decide⟩
theorem v_QM_ended : Cond.instanceMethod mi_QM_ended.1 ∈ qGW ∧ Cond.selects mi_QM_ended.1.cls mi_QM_ended.1 mi_QM_ended.1 ∈ qGW := ⟨(qw6 35 rfl rfl), (qw6 36 rfl rfl)⟩
theorem lk_La_89 : qLk "QueryFleetLaw" 89 mi_QF_cell := Or.inl (qw4 79 rfl rfl)
theorem y_QF_cell : qY mi_QF_cell 2 := ⟨(qw4 82 rfl rfl), (qw1 1 rfl rfl), ⟨by decide, by decide, by decide +kernel⟩, by decide⟩
theorem v_QF_cell : Cond.instanceMethod mi_QF_cell.1 ∈ qGW ∧ Cond.selects mi_QF_cell.1.cls mi_QF_cell.1 mi_QF_cell.1 ∈ qGW := ⟨(qw4 80 rfl rfl), (qw4 81 rfl rfl)⟩
theorem lk_La_93 : qLk "QueryFleetLaw" 93 mi_QM_cell := Or.inl (qw6 38 rfl rfl)
theorem y_QM_cell : qY mi_QM_cell 2 := ⟨(qw6 41 rfl rfl), (qw1 12 rfl rfl), ⟨by decide, by decide, by decide +kernel⟩, by decide⟩
theorem v_QM_cell : Cond.instanceMethod mi_QM_cell.1 ∈ qGW ∧ Cond.selects mi_QM_cell.1.cls mi_QM_cell.1 mi_QM_cell.1 ∈ qGW := ⟨(qw6 39 rfl rfl), (qw6 40 rfl rfl)⟩
theorem lk_La_94 : qLk "QueryFleetLaw" 94 mi_QF_missing := Or.inl (qw4 95 rfl rfl)
theorem y_QF_missing : qY mi_QF_missing 2 := ⟨(qw4 98 rfl rfl), (qw1 1 rfl rfl), ⟨by decide, by decide, by decide +kernel⟩, by decide⟩
theorem v_QF_missing : Cond.instanceMethod mi_QF_missing.1 ∈ qGW ∧ Cond.selects mi_QF_missing.1.cls mi_QF_missing.1 mi_QF_missing.1 ∈ qGW := ⟨(qw4 96 rfl rfl), (qw4 97 rfl rfl)⟩
theorem lk_La_98 : qLk "QueryFleetLaw" 98 mi_QM_missing := Or.inl (qw6 46 rfl rfl)
theorem y_QM_missing : qY mi_QM_missing 2 := ⟨(qw6 49 rfl rfl), (qw1 12 rfl rfl), ⟨by decide, by decide, by decide +kernel⟩, by decide⟩
theorem v_QM_missing : Cond.instanceMethod mi_QM_missing.1 ∈ qGW ∧ Cond.selects mi_QM_missing.1.cls mi_QM_missing.1 mi_QM_missing.1 ∈ qGW := ⟨(qw6 47 rfl rfl), (qw6 48 rfl rfl)⟩
theorem oi_QM_1 : Cond.methodLink "QueryFleetModel" 1 Lib.objectInit ∈ qGW ∧ Cond.instanceMethod Lib.objectInit ∈ qGW ∧ Cond.code Lib.objectInit ⟨#[0xb1]⟩ 1 none ∈ qGW := ⟨(qw4 104 rfl rfl), (qw1 21 rfl rfl), (qw1 22 rfl rfl)⟩
theorem lk_QM_103 : qLk "QueryFleetModel" 103 mi_QM_within := Or.inl (qw5 38 rfl rfl)
theorem y_QM_within : qY mi_QM_within 3 := ⟨(qw5 40 rfl rfl), (qw1 12 rfl rfl), ⟨by decide, by decide, by decide +kernel⟩, by decide⟩
theorem s_QM_within : Cond.static mi_QM_within.1 ∈ qGW := (qw5 39 rfl rfl)
theorem lk_QM_147 : qLk "QueryFleetModel" 147 mi_QM_open := Or.inl (qw5 49 rfl rfl)
theorem y_QM_open : qY mi_QM_open 0 := ⟨(qw5 52 rfl rfl), (qw1 12 rfl rfl), ⟨by decide, by decide, by decide +kernel⟩, by decide⟩
theorem v_QM_open : Cond.instanceMethod mi_QM_open.1 ∈ qGW ∧ Cond.selects mi_QM_open.1.cls mi_QM_open.1 mi_QM_open.1 ∈ qGW := ⟨(qw5 51 rfl rfl), qw_s (q := (⟨"QueryFleetModel", "open", "()Z"⟩, _)) (by show _ ∈ lw_privs_1 ++ (lw_privs_2 ++ (lw_privs_3 ++ (lw_privs_4 ++ (lw_privs_5)))); exact List.mem_append_right _ (List.mem_append_left _ (List.mem_of_getElem? (i := 11) rfl)))⟩
theorem lk_QM_151 : qLk "QueryFleetModel" 151 mi_QM_isColumn := Or.inl (qw5 53 rfl rfl)
theorem y_QM_isColumn : qY mi_QM_isColumn 1 := ⟨(qw5 56 rfl rfl), (qw1 12 rfl rfl), ⟨by decide, by decide, by decide +kernel⟩, by decide⟩
theorem v_QM_isColumn : Cond.instanceMethod mi_QM_isColumn.1 ∈ qGW ∧ Cond.selects mi_QM_isColumn.1.cls mi_QM_isColumn.1 mi_QM_isColumn.1 ∈ qGW := ⟨(qw5 55 rfl rfl), qw_s (q := (⟨"QueryFleetModel", "isColumn", "(I)Z"⟩, _)) (by show _ ∈ lw_privs_1 ++ (lw_privs_2 ++ (lw_privs_3 ++ (lw_privs_4 ++ (lw_privs_5)))); exact List.mem_append_right _ (List.mem_append_left _ (List.mem_of_getElem? (i := 12) rfl)))⟩
theorem lk_QM_155 : qLk "QueryFleetModel" 155 mi_QM_push := Or.inl (qw5 57 rfl rfl)
theorem y_QM_push : qY mi_QM_push 2 := ⟨(qw5 60 rfl rfl), (qw1 12 rfl rfl), ⟨by decide, by decide, by decide +kernel⟩, by decide⟩
theorem v_QM_push : Cond.instanceMethod mi_QM_push.1 ∈ qGW ∧ Cond.selects mi_QM_push.1.cls mi_QM_push.1 mi_QM_push.1 ∈ qGW := ⟨(qw5 59 rfl rfl), qw_s (q := (⟨"QueryFleetModel", "push", "(IJ)V"⟩, _)) (by show _ ∈ lw_privs_1 ++ (lw_privs_2 ++ (lw_privs_3 ++ (lw_privs_4 ++ (lw_privs_5)))); exact List.mem_append_right _ (List.mem_append_left _ (List.mem_of_getElem? (i := 13) rfl)))⟩
theorem lk_QM_159 : qLk "QueryFleetModel" 159 mi_QM_copy := Or.inl (qw5 69 rfl rfl)
theorem y_QM_copy : qY mi_QM_copy 3 := ⟨(qw5 72 rfl rfl), (qw1 12 rfl rfl), ⟨by decide, by decide, by decide +kernel⟩, by decide⟩
theorem v_QM_copy : Cond.instanceMethod mi_QM_copy.1 ∈ qGW ∧ Cond.selects mi_QM_copy.1.cls mi_QM_copy.1 mi_QM_copy.1 ∈ qGW := ⟨(qw5 71 rfl rfl), qw_s (q := (⟨"QueryFleetModel", "copy", "(III)V"⟩, _)) (by show _ ∈ lw_privs_1 ++ (lw_privs_2 ++ (lw_privs_3 ++ (lw_privs_4 ++ (lw_privs_5)))); exact List.mem_append_right _ (List.mem_append_left _ (List.mem_of_getElem? (i := 14) rfl)))⟩
theorem lk_QM_167 : qLk "QueryFleetModel" 167 mi_QM_overflows := Or.inl (qw5 138 rfl rfl)
theorem y_QM_overflows : qY mi_QM_overflows 3 := ⟨(qw5 140 rfl rfl), (qw1 12 rfl rfl), ⟨by decide, by decide, by decide +kernel⟩, by decide⟩
theorem s_QM_overflows : Cond.static mi_QM_overflows.1 ∈ qGW := (qw5 139 rfl rfl)
theorem lk_QM_171 : qLk "QueryFleetModel" 171 mi_QM_set := Or.inl (qw5 129 rfl rfl)
theorem y_QM_set : qY mi_QM_set 3 := ⟨(qw5 132 rfl rfl), (qw1 12 rfl rfl), ⟨by decide, by decide, by decide +kernel⟩, by decide⟩
theorem v_QM_set : Cond.instanceMethod mi_QM_set.1 ∈ qGW ∧ Cond.selects mi_QM_set.1.cls mi_QM_set.1 mi_QM_set.1 ∈ qGW := ⟨(qw5 131 rfl rfl), qw_s (q := (⟨"QueryFleetModel", "set", "(IJZ)V"⟩, _)) (by show _ ∈ lw_privs_1 ++ (lw_privs_2 ++ (lw_privs_3 ++ (lw_privs_4 ++ (lw_privs_5)))); exact List.mem_append_right _ (List.mem_append_right _ (List.mem_append_left _ (List.mem_of_getElem? (i := 8) rfl))))⟩
theorem lk_QM_177 : qLk "QueryFleetModel" 177 mi_QM_calculate := Or.inl (qw5 134 rfl rfl)
theorem y_QM_calculate : qY mi_QM_calculate 2 := ⟨(qw5 137 rfl rfl), (qw1 12 rfl rfl), ⟨by decide, by decide, by decide +kernel⟩, by decide⟩
theorem v_QM_calculate : Cond.instanceMethod mi_QM_calculate.1 ∈ qGW ∧ Cond.selects mi_QM_calculate.1.cls mi_QM_calculate.1 mi_QM_calculate.1 ∈ qGW := ⟨(qw5 136 rfl rfl), qw_s (q := (⟨"QueryFleetModel", "calculate", "(II)V"⟩, _)) (by show _ ∈ lw_privs_1 ++ (lw_privs_2 ++ (lw_privs_3 ++ (lw_privs_4 ++ (lw_privs_5)))); exact List.mem_append_right _ (List.mem_append_right _ (List.mem_append_left _ (List.mem_of_getElem? (i := 9) rfl))))⟩
theorem lk_QM_181 : qLk "QueryFleetModel" 181 mi_QM_evaluate := Or.inl (qw5 125 rfl rfl)
theorem y_QM_evaluate : qY mi_QM_evaluate 1 := ⟨(qw5 128 rfl rfl), (qw1 12 rfl rfl), ⟨by decide, by decide, by decide +kernel⟩, by decide⟩
theorem v_QM_evaluate : Cond.instanceMethod mi_QM_evaluate.1 ∈ qGW ∧ Cond.selects mi_QM_evaluate.1.cls mi_QM_evaluate.1 mi_QM_evaluate.1 ∈ qGW := ⟨(qw5 127 rfl rfl), qw_s (q := (⟨"QueryFleetModel", "evaluate", "(I)V"⟩, _)) (by show _ ∈ lw_privs_1 ++ (lw_privs_2 ++ (lw_privs_3 ++ (lw_privs_4 ++ (lw_privs_5)))); exact List.mem_append_right _ (List.mem_append_right _ (List.mem_append_left _ (List.mem_of_getElem? (i := 7) rfl))))⟩
theorem lk_QM_185 : qLk "QueryFleetModel" 185 mi_QM_isTrue := Or.inl (qw5 121 rfl rfl)
theorem y_QM_isTrue : qY mi_QM_isTrue 1 := ⟨(qw5 124 rfl rfl), (qw1 12 rfl rfl), ⟨by decide, by decide, by decide +kernel⟩, by decide⟩
theorem v_QM_isTrue : Cond.instanceMethod mi_QM_isTrue.1 ∈ qGW ∧ Cond.selects mi_QM_isTrue.1.cls mi_QM_isTrue.1 mi_QM_isTrue.1 ∈ qGW := ⟨(qw5 123 rfl rfl), qw_s (q := (⟨"QueryFleetModel", "isTrue", "(I)Z"⟩, _)) (by show _ ∈ lw_privs_1 ++ (lw_privs_2 ++ (lw_privs_3 ++ (lw_privs_4 ++ (lw_privs_5)))); exact List.mem_append_right _ (List.mem_append_right _ (List.mem_append_left _ (List.mem_of_getElem? (i := 6) rfl))))⟩
theorem lk_QM_188 : qLk "QueryFleetModel" 188 mi_QM_passesAll := Or.inl (qw5 117 rfl rfl)
theorem y_QM_passesAll : qY mi_QM_passesAll 0 := ⟨(qw5 120 rfl rfl), (qw1 12 rfl rfl), ⟨by decide, by decide, by decide +kernel⟩, by decide⟩
theorem v_QM_passesAll : Cond.instanceMethod mi_QM_passesAll.1 ∈ qGW ∧ Cond.selects mi_QM_passesAll.1.cls mi_QM_passesAll.1 mi_QM_passesAll.1 ∈ qGW := ⟨(qw5 119 rfl rfl), qw_s (q := (⟨"QueryFleetModel", "passesAll", "()Z"⟩, _)) (by show _ ∈ lw_privs_1 ++ (lw_privs_2 ++ (lw_privs_3 ++ (lw_privs_4 ++ (lw_privs_5)))); exact List.mem_append_right _ (List.mem_append_right _ (List.mem_append_left _ (List.mem_of_getElem? (i := 5) rfl))))⟩
theorem lk_QM_194 : qLk "QueryFleetModel" 194 mi_QM_bring := Or.inl (qw5 101 rfl rfl)
theorem y_QM_bring : qY mi_QM_bring 2 := ⟨(qw5 104 rfl rfl), (qw1 12 rfl rfl), ⟨by decide, by decide, by decide +kernel⟩, by decide⟩
theorem v_QM_bring : Cond.instanceMethod mi_QM_bring.1 ∈ qGW ∧ Cond.selects mi_QM_bring.1.cls mi_QM_bring.1 mi_QM_bring.1 ∈ qGW := ⟨(qw5 103 rfl rfl), qw_s (q := (⟨"QueryFleetModel", "bring", "(II)V"⟩, _)) (by show _ ∈ lw_privs_1 ++ (lw_privs_2 ++ (lw_privs_3 ++ (lw_privs_4 ++ (lw_privs_5)))); exact List.mem_append_right _ (List.mem_append_right _ (List.mem_append_left _ (List.mem_of_getElem? (i := 1) rfl))))⟩
theorem lk_QM_197 : qLk "QueryFleetModel" 197 mi_QM_second0 := Or.inl (qw5 105 rfl rfl)
theorem y_QM_second0 : qY mi_QM_second0 0 := ⟨(qw5 108 rfl rfl), (qw1 12 rfl rfl), ⟨by decide, by decide, by decide +kernel⟩, by decide⟩
theorem v_QM_second0 : Cond.instanceMethod mi_QM_second0.1 ∈ qGW ∧ Cond.selects mi_QM_second0.1.cls mi_QM_second0.1 mi_QM_second0.1 ∈ qGW := ⟨(qw5 107 rfl rfl), qw_s (q := (⟨"QueryFleetModel", "second0", "()I"⟩, _)) (by show _ ∈ lw_privs_1 ++ (lw_privs_2 ++ (lw_privs_3 ++ (lw_privs_4 ++ (lw_privs_5)))); exact List.mem_append_right _ (List.mem_append_right _ (List.mem_append_left _ (List.mem_of_getElem? (i := 2) rfl))))⟩
theorem lk_QM_201 : qLk "QueryFleetModel" 201 mi_QM_matches := Or.inl (qw5 109 rfl rfl)
theorem y_QM_matches : qY mi_QM_matches 0 := ⟨(qw5 112 rfl rfl), (qw1 12 rfl rfl), ⟨by decide, by decide, by decide +kernel⟩, by decide⟩
theorem v_QM_matches : Cond.instanceMethod mi_QM_matches.1 ∈ qGW ∧ Cond.selects mi_QM_matches.1.cls mi_QM_matches.1 mi_QM_matches.1 ∈ qGW := ⟨(qw5 111 rfl rfl), qw_s (q := (⟨"QueryFleetModel", "matches", "()Z"⟩, _)) (by show _ ∈ lw_privs_1 ++ (lw_privs_2 ++ (lw_privs_3 ++ (lw_privs_4 ++ (lw_privs_5)))); exact List.mem_append_right _ (List.mem_append_right _ (List.mem_append_left _ (List.mem_of_getElem? (i := 3) rfl))))⟩
theorem lk_QM_204 : qLk "QueryFleetModel" 204 mi_QM_keep := Or.inl (qw5 113 rfl rfl)
theorem y_QM_keep : qY mi_QM_keep 0 := ⟨(qw5 116 rfl rfl), (qw1 12 rfl rfl), ⟨by decide, by decide, by decide +kernel⟩, by decide⟩
theorem v_QM_keep : Cond.instanceMethod mi_QM_keep.1 ∈ qGW ∧ Cond.selects mi_QM_keep.1.cls mi_QM_keep.1 mi_QM_keep.1 ∈ qGW := ⟨(qw5 115 rfl rfl), qw_s (q := (⟨"QueryFleetModel", "keep", "()V"⟩, _)) (by show _ ∈ lw_privs_1 ++ (lw_privs_2 ++ (lw_privs_3 ++ (lw_privs_4 ++ (lw_privs_5)))); exact List.mem_append_right _ (List.mem_append_right _ (List.mem_append_left _ (List.mem_of_getElem? (i := 4) rfl))))⟩
theorem lk_QM_210 : qLk "QueryFleetModel" 210 mi_QM_together := Or.inl (qw5 159 rfl rfl)
theorem y_QM_together : qY mi_QM_together 2 := ⟨(qw5 162 rfl rfl), (qw1 12 rfl rfl), ⟨by decide, by decide, by decide +kernel⟩, by decide⟩
theorem v_QM_together : Cond.instanceMethod mi_QM_together.1 ∈ qGW ∧ Cond.selects mi_QM_together.1.cls mi_QM_together.1 mi_QM_together.1 ∈ qGW := ⟨(qw5 161 rfl rfl), qw_s (q := (⟨"QueryFleetModel", "together", "(II)Z"⟩, _)) (by show _ ∈ lw_privs_1 ++ (lw_privs_2 ++ (lw_privs_3 ++ (lw_privs_4 ++ (lw_privs_5)))); exact List.mem_append_right _ (List.mem_append_right _ (List.mem_append_left _ (List.mem_of_getElem? (i := 14) rfl))))⟩
theorem lk_QM_214 : qLk "QueryFleetModel" 214 mi_QM_bringKept := Or.inl (qw5 163 rfl rfl)
theorem y_QM_bringKept : qY mi_QM_bringKept 1 := ⟨(qw5 166 rfl rfl), (qw1 12 rfl rfl), ⟨by decide, by decide, by decide +kernel⟩, by decide⟩
theorem v_QM_bringKept : Cond.instanceMethod mi_QM_bringKept.1 ∈ qGW ∧ Cond.selects mi_QM_bringKept.1.cls mi_QM_bringKept.1 mi_QM_bringKept.1 ∈ qGW := ⟨(qw5 165 rfl rfl), qw_s (q := (⟨"QueryFleetModel", "bringKept", "(I)V"⟩, _)) (by show _ ∈ lw_privs_1 ++ (lw_privs_2 ++ (lw_privs_3 ++ (lw_privs_4 ++ (lw_privs_5)))); exact List.mem_append_right _ (List.mem_append_right _ (List.mem_append_left _ (List.mem_of_getElem? (i := 15) rfl))))⟩
theorem lk_QM_223 : qLk "QueryFleetModel" 223 mi_QM_give := Or.inl (qw5 151 rfl rfl)
theorem y_QM_give : qY mi_QM_give 3 := ⟨(qw5 154 rfl rfl), (qw1 12 rfl rfl), ⟨by decide, by decide, by decide +kernel⟩, by decide⟩
theorem v_QM_give : Cond.instanceMethod mi_QM_give.1 ∈ qGW ∧ Cond.selects mi_QM_give.1.cls mi_QM_give.1 mi_QM_give.1 ∈ qGW := ⟨(qw5 153 rfl rfl), qw_s (q := (⟨"QueryFleetModel", "give", "(IJZ)V"⟩, _)) (by show _ ∈ lw_privs_1 ++ (lw_privs_2 ++ (lw_privs_3 ++ (lw_privs_4 ++ (lw_privs_5)))); exact List.mem_append_right _ (List.mem_append_right _ (List.mem_append_left _ (List.mem_of_getElem? (i := 12) rfl))))⟩
theorem lk_QM_226 : qLk "QueryFleetModel" 226 mi_QM_aggregate := Or.inl (qw5 155 rfl rfl)
theorem y_QM_aggregate : qY mi_QM_aggregate 3 := ⟨(qw5 158 rfl rfl), (qw1 12 rfl rfl), ⟨by decide, by decide, by decide +kernel⟩, by decide⟩
theorem v_QM_aggregate : Cond.instanceMethod mi_QM_aggregate.1 ∈ qGW ∧ Cond.selects mi_QM_aggregate.1.cls mi_QM_aggregate.1 mi_QM_aggregate.1 ∈ qGW := ⟨(qw5 157 rfl rfl), qw_s (q := (⟨"QueryFleetModel", "aggregate", "(III)V"⟩, _)) (by show _ ∈ lw_privs_1 ++ (lw_privs_2 ++ (lw_privs_3 ++ (lw_privs_4 ++ (lw_privs_5)))); exact List.mem_append_right _ (List.mem_append_right _ (List.mem_append_left _ (List.mem_of_getElem? (i := 13) rfl))))⟩
theorem lk_QM_229 : qLk "QueryFleetModel" 229 mi_QM_form := Or.inl (qw5 93 rfl rfl)
theorem y_QM_form : qY mi_QM_form 0 := ⟨(qw5 96 rfl rfl), (qw1 12 rfl rfl), ⟨by decide, by decide, by decide +kernel⟩, by decide⟩
theorem v_QM_form : Cond.instanceMethod mi_QM_form.1 ∈ qGW ∧ Cond.selects mi_QM_form.1.cls mi_QM_form.1 mi_QM_form.1 ∈ qGW := ⟨(qw5 95 rfl rfl), qw_s (q := (⟨"QueryFleetModel", "form", "()I"⟩, _)) (by show _ ∈ lw_privs_1 ++ (lw_privs_2 ++ (lw_privs_3 ++ (lw_privs_4 ++ (lw_privs_5)))); exact List.mem_append_right _ (List.mem_append_left _ (List.mem_of_getElem? (i := 15) rfl)))⟩
theorem lk_QM_235 : qLk "QueryFleetModel" 235 mi_QM_groupRow := Or.inl (qw5 147 rfl rfl)
theorem y_QM_groupRow : qY mi_QM_groupRow 1 := ⟨(qw5 150 rfl rfl), (qw1 12 rfl rfl), ⟨by decide, by decide, by decide +kernel⟩, by decide⟩
theorem v_QM_groupRow : Cond.instanceMethod mi_QM_groupRow.1 ∈ qGW ∧ Cond.selects mi_QM_groupRow.1.cls mi_QM_groupRow.1 mi_QM_groupRow.1 ∈ qGW := ⟨(qw5 149 rfl rfl), qw_s (q := (⟨"QueryFleetModel", "groupRow", "(I)V"⟩, _)) (by show _ ∈ lw_privs_1 ++ (lw_privs_2 ++ (lw_privs_3 ++ (lw_privs_4 ++ (lw_privs_5)))); exact List.mem_append_right _ (List.mem_append_right _ (List.mem_append_left _ (List.mem_of_getElem? (i := 11) rfl))))⟩
theorem lk_QM_238 : qLk "QueryFleetModel" 238 mi_QM_firstOfGroup := Or.inl (qw5 170 rfl rfl)
theorem y_QM_firstOfGroup : qY mi_QM_firstOfGroup 1 := ⟨(qw5 173 rfl rfl), (qw1 12 rfl rfl), ⟨by decide, by decide, by decide +kernel⟩, by decide⟩
theorem v_QM_firstOfGroup : Cond.instanceMethod mi_QM_firstOfGroup.1 ∈ qGW ∧ Cond.selects mi_QM_firstOfGroup.1.cls mi_QM_firstOfGroup.1 mi_QM_firstOfGroup.1 ∈ qGW := ⟨(qw5 172 rfl rfl), qw_s (q := (⟨"QueryFleetModel", "firstOfGroup", "(I)Z"⟩, _)) (by show _ ∈ lw_privs_1 ++ (lw_privs_2 ++ (lw_privs_3 ++ (lw_privs_4 ++ (lw_privs_5)))); exact List.mem_append_right _ (List.mem_append_right _ (List.mem_append_right _ (List.mem_append_left _ (List.mem_of_getElem? (i := 0) rfl)))))⟩
theorem lk_QM_241 : qLk "QueryFleetModel" 241 mi_QM_compare := Or.inl (qw5 182 rfl rfl)
theorem y_QM_compare : qY mi_QM_compare 3 := ⟨(qw5 185 rfl rfl), (qw1 12 rfl rfl), ⟨by decide, by decide, by decide +kernel⟩, by decide⟩
theorem v_QM_compare : Cond.instanceMethod mi_QM_compare.1 ∈ qGW ∧ Cond.selects mi_QM_compare.1.cls mi_QM_compare.1 mi_QM_compare.1 ∈ qGW := ⟨(qw5 184 rfl rfl), qw_s (q := (⟨"QueryFleetModel", "compare", "(III)I"⟩, _)) (by show _ ∈ lw_privs_1 ++ (lw_privs_2 ++ (lw_privs_3 ++ (lw_privs_4 ++ (lw_privs_5)))); exact List.mem_append_right _ (List.mem_append_right _ (List.mem_append_right _ (List.mem_append_left _ (List.mem_of_getElem? (i := 3) rfl)))))⟩
theorem lk_QM_245 : qLk "QueryFleetModel" 245 mi_QM_before := Or.inl (qw5 178 rfl rfl)
theorem y_QM_before : qY mi_QM_before 2 := ⟨(qw5 181 rfl rfl), (qw1 12 rfl rfl), ⟨by decide, by decide, by decide +kernel⟩, by decide⟩
theorem v_QM_before : Cond.instanceMethod mi_QM_before.1 ∈ qGW ∧ Cond.selects mi_QM_before.1.cls mi_QM_before.1 mi_QM_before.1 ∈ qGW := ⟨(qw5 180 rfl rfl), qw_s (q := (⟨"QueryFleetModel", "before", "(II)Z"⟩, _)) (by show _ ∈ lw_privs_1 ++ (lw_privs_2 ++ (lw_privs_3 ++ (lw_privs_4 ++ (lw_privs_5)))); exact List.mem_append_right _ (List.mem_append_right _ (List.mem_append_right _ (List.mem_append_left _ (List.mem_of_getElem? (i := 2) rfl)))))⟩
theorem lk_QM_251 : qLk "QueryFleetModel" 251 mi_QM_names := Or.inl (qw5 202 rfl rfl)
theorem y_QM_names : qY mi_QM_names 2 := ⟨(qw5 205 rfl rfl), (qw1 12 rfl rfl), ⟨by decide, by decide, by decide +kernel⟩, by decide⟩
theorem v_QM_names : Cond.instanceMethod mi_QM_names.1 ∈ qGW ∧ Cond.selects mi_QM_names.1.cls mi_QM_names.1 mi_QM_names.1 ∈ qGW := ⟨(qw5 204 rfl rfl), qw_s (q := (⟨"QueryFleetModel", "names", "(II)Z"⟩, _)) (by show _ ∈ lw_privs_1 ++ (lw_privs_2 ++ (lw_privs_3 ++ (lw_privs_4 ++ (lw_privs_5)))); exact List.mem_append_right _ (List.mem_append_right _ (List.mem_append_right _ (List.mem_append_left _ (List.mem_of_getElem? (i := 8) rfl)))))⟩
theorem lk_QM_254 : qLk "QueryFleetModel" 254 mi_QM_partOf := Or.inl (qw5 210 rfl rfl)
theorem y_QM_partOf : qY mi_QM_partOf 2 := ⟨(qw5 213 rfl rfl), (qw1 12 rfl rfl), ⟨by decide, by decide, by decide +kernel⟩, by decide⟩
theorem v_QM_partOf : Cond.instanceMethod mi_QM_partOf.1 ∈ qGW ∧ Cond.selects mi_QM_partOf.1.cls mi_QM_partOf.1 mi_QM_partOf.1 ∈ qGW := ⟨(qw5 212 rfl rfl), qw_s (q := (⟨"QueryFleetModel", "partOf", "(JZ)I"⟩, _)) (by show _ ∈ lw_privs_1 ++ (lw_privs_2 ++ (lw_privs_3 ++ (lw_privs_4 ++ (lw_privs_5)))); exact List.mem_append_right _ (List.mem_append_right _ (List.mem_append_right _ (List.mem_append_left _ (List.mem_of_getElem? (i := 10) rfl)))))⟩
theorem lk_QM_261 : qLk "QueryFleetModel" 261 mi_QM_scanRows := Or.inl (qw5 198 rfl rfl)
theorem y_QM_scanRows : qY mi_QM_scanRows 2 := ⟨(qw5 201 rfl rfl), (qw1 12 rfl rfl), ⟨by decide, by decide, by decide +kernel⟩, by decide⟩
theorem v_QM_scanRows : Cond.instanceMethod mi_QM_scanRows.1 ∈ qGW ∧ Cond.selects mi_QM_scanRows.1.cls mi_QM_scanRows.1 mi_QM_scanRows.1 ∈ qGW := ⟨(qw5 200 rfl rfl), qw_s (q := (⟨"QueryFleetModel", "scanRows", "(II)I"⟩, _)) (by show _ ∈ lw_privs_1 ++ (lw_privs_2 ++ (lw_privs_3 ++ (lw_privs_4 ++ (lw_privs_5)))); exact List.mem_append_right _ (List.mem_append_right _ (List.mem_append_right _ (List.mem_append_left _ (List.mem_of_getElem? (i := 7) rfl)))))⟩
theorem lk_QM_265 : qLk "QueryFleetModel" 265 mi_QM_joinRows := Or.inl (qw5 206 rfl rfl)
theorem y_QM_joinRows : qY mi_QM_joinRows 1 := ⟨(qw5 209 rfl rfl), (qw1 12 rfl rfl), ⟨by decide, by decide, by decide +kernel⟩, by decide⟩
theorem v_QM_joinRows : Cond.instanceMethod mi_QM_joinRows.1 ∈ qGW ∧ Cond.selects mi_QM_joinRows.1.cls mi_QM_joinRows.1 mi_QM_joinRows.1 ∈ qGW := ⟨(qw5 208 rfl rfl), qw_s (q := (⟨"QueryFleetModel", "joinRows", "(I)I"⟩, _)) (by show _ ∈ lw_privs_1 ++ (lw_privs_2 ++ (lw_privs_3 ++ (lw_privs_4 ++ (lw_privs_5)))); exact List.mem_append_right _ (List.mem_append_right _ (List.mem_append_right _ (List.mem_append_left _ (List.mem_of_getElem? (i := 9) rfl)))))⟩
theorem lk_QM_269 : qLk "QueryFleetModel" 269 mi_QM_groupRows := Or.inl (qw5 214 rfl rfl)
theorem y_QM_groupRows : qY mi_QM_groupRows 1 := ⟨(qw5 217 rfl rfl), (qw1 12 rfl rfl), ⟨by decide, by decide, by decide +kernel⟩, by decide⟩
theorem v_QM_groupRows : Cond.instanceMethod mi_QM_groupRows.1 ∈ qGW ∧ Cond.selects mi_QM_groupRows.1.cls mi_QM_groupRows.1 mi_QM_groupRows.1 ∈ qGW := ⟨(qw5 216 rfl rfl), qw_s (q := (⟨"QueryFleetModel", "groupRows", "(I)I"⟩, _)) (by show _ ∈ lw_privs_1 ++ (lw_privs_2 ++ (lw_privs_3 ++ (lw_privs_4 ++ (lw_privs_5)))); exact List.mem_append_right _ (List.mem_append_right _ (List.mem_append_right _ (List.mem_append_left _ (List.mem_of_getElem? (i := 11) rfl)))))⟩
theorem lk_QM_275 : qLk "QueryFleetModel" 275 mi_QM_joinAll := Or.inl (qw5 97 rfl rfl)
theorem y_QM_joinAll : qY mi_QM_joinAll 0 := ⟨(qw5 100 rfl rfl), (qw1 12 rfl rfl), ⟨by decide, by decide, by decide +kernel⟩, by decide⟩
theorem v_QM_joinAll : Cond.instanceMethod mi_QM_joinAll.1 ∈ qGW ∧ Cond.selects mi_QM_joinAll.1.cls mi_QM_joinAll.1 mi_QM_joinAll.1 ∈ qGW := ⟨(qw5 99 rfl rfl), qw_s (q := (⟨"QueryFleetModel", "joinAll", "()V"⟩, _)) (by show _ ∈ lw_privs_1 ++ (lw_privs_2 ++ (lw_privs_3 ++ (lw_privs_4 ++ (lw_privs_5)))); exact List.mem_append_right _ (List.mem_append_right _ (List.mem_append_left _ (List.mem_of_getElem? (i := 0) rfl))))⟩
theorem lk_QM_278 : qLk "QueryFleetModel" 278 mi_QM_makeResults := Or.inl (qw5 143 rfl rfl)
theorem y_QM_makeResults : qY mi_QM_makeResults 0 := ⟨(qw5 146 rfl rfl), (qw1 12 rfl rfl), ⟨by decide, by decide, by decide +kernel⟩, by decide⟩
theorem v_QM_makeResults : Cond.instanceMethod mi_QM_makeResults.1 ∈ qGW ∧ Cond.selects mi_QM_makeResults.1.cls mi_QM_makeResults.1 mi_QM_makeResults.1 ∈ qGW := ⟨(qw5 145 rfl rfl), qw_s (q := (⟨"QueryFleetModel", "makeResults", "()V"⟩, _)) (by show _ ∈ lw_privs_1 ++ (lw_privs_2 ++ (lw_privs_3 ++ (lw_privs_4 ++ (lw_privs_5)))); exact List.mem_append_right _ (List.mem_append_right _ (List.mem_append_left _ (List.mem_of_getElem? (i := 10) rfl))))⟩
theorem lk_QM_281 : qLk "QueryFleetModel" 281 mi_QM_sort := Or.inl (qw5 174 rfl rfl)
theorem y_QM_sort : qY mi_QM_sort 0 := ⟨(qw5 177 rfl rfl), (qw1 12 rfl rfl), ⟨by decide, by decide, by decide +kernel⟩, by decide⟩
theorem v_QM_sort : Cond.instanceMethod mi_QM_sort.1 ∈ qGW ∧ Cond.selects mi_QM_sort.1.cls mi_QM_sort.1 mi_QM_sort.1 ∈ qGW := ⟨(qw5 176 rfl rfl), qw_s (q := (⟨"QueryFleetModel", "sort", "()V"⟩, _)) (by show _ ∈ lw_privs_1 ++ (lw_privs_2 ++ (lw_privs_3 ++ (lw_privs_4 ++ (lw_privs_5)))); exact List.mem_append_right _ (List.mem_append_right _ (List.mem_append_right _ (List.mem_append_left _ (List.mem_of_getElem? (i := 1) rfl)))))⟩
theorem lk_QM_284 : qLk "QueryFleetModel" 284 mi_QM_shown := Or.inl (qw5 186 rfl rfl)
theorem y_QM_shown : qY mi_QM_shown 0 := ⟨(qw5 189 rfl rfl), (qw1 12 rfl rfl), ⟨by decide, by decide, by decide +kernel⟩, by decide⟩
theorem v_QM_shown : Cond.instanceMethod mi_QM_shown.1 ∈ qGW ∧ Cond.selects mi_QM_shown.1.cls mi_QM_shown.1 mi_QM_shown.1 ∈ qGW := ⟨(qw5 188 rfl rfl), qw_s (q := (⟨"QueryFleetModel", "shown", "()I"⟩, _)) (by show _ ∈ lw_privs_1 ++ (lw_privs_2 ++ (lw_privs_3 ++ (lw_privs_4 ++ (lw_privs_5)))); exact List.mem_append_right _ (List.mem_append_right _ (List.mem_append_right _ (List.mem_append_left _ (List.mem_of_getElem? (i := 4) rfl)))))⟩
theorem lk_QM_293 : qLk "QueryFleetModel" 293 mi_QM_passes := Or.inl (qw5 190 rfl rfl)
theorem y_QM_passes : qY mi_QM_passes 0 := ⟨(qw5 193 rfl rfl), (qw1 12 rfl rfl), ⟨by decide, by decide, by decide +kernel⟩, by decide⟩
theorem v_QM_passes : Cond.instanceMethod mi_QM_passes.1 ∈ qGW ∧ Cond.selects mi_QM_passes.1.cls mi_QM_passes.1 mi_QM_passes.1 ∈ qGW := ⟨(qw5 192 rfl rfl), qw_s (q := (⟨"QueryFleetModel", "passes", "()I"⟩, _)) (by show _ ∈ lw_privs_1 ++ (lw_privs_2 ++ (lw_privs_3 ++ (lw_privs_4 ++ (lw_privs_5)))); exact List.mem_append_right _ (List.mem_append_right _ (List.mem_append_right _ (List.mem_append_left _ (List.mem_of_getElem? (i := 5) rfl)))))⟩
theorem lk_QM_308 : qLk "QueryFleetModel" 308 mi_QM_addTasks := Or.inl (qw5 194 rfl rfl)
theorem y_QM_addTasks : qY mi_QM_addTasks 1 := ⟨(qw5 197 rfl rfl), (qw1 12 rfl rfl), ⟨by decide, by decide, by decide +kernel⟩, by decide⟩
theorem v_QM_addTasks : Cond.instanceMethod mi_QM_addTasks.1 ∈ qGW ∧ Cond.selects mi_QM_addTasks.1.cls mi_QM_addTasks.1 mi_QM_addTasks.1 ∈ qGW := ⟨(qw5 196 rfl rfl), qw_s (q := (⟨"QueryFleetModel", "addTasks", "(I)V"⟩, _)) (by show _ ∈ lw_privs_1 ++ (lw_privs_2 ++ (lw_privs_3 ++ (lw_privs_4 ++ (lw_privs_5)))); exact List.mem_append_right _ (List.mem_append_right _ (List.mem_append_right _ (List.mem_append_left _ (List.mem_of_getElem? (i := 6) rfl)))))⟩
theorem lk_QM_311 : qLk "QueryFleetModel" 311 mi_QM_sendReady := Or.inl (qw5 218 rfl rfl)
theorem y_QM_sendReady : qY mi_QM_sendReady 0 := ⟨(qw5 221 rfl rfl), (qw1 12 rfl rfl), ⟨by decide, by decide, by decide +kernel⟩, by decide⟩
theorem v_QM_sendReady : Cond.instanceMethod mi_QM_sendReady.1 ∈ qGW ∧ Cond.selects mi_QM_sendReady.1.cls mi_QM_sendReady.1 mi_QM_sendReady.1 ∈ qGW := ⟨(qw5 220 rfl rfl), qw_s (q := (⟨"QueryFleetModel", "sendReady", "()V"⟩, _)) (by show _ ∈ lw_privs_1 ++ (lw_privs_2 ++ (lw_privs_3 ++ (lw_privs_4 ++ (lw_privs_5)))); exact List.mem_append_right _ (List.mem_append_right _ (List.mem_append_right _ (List.mem_append_left _ (List.mem_of_getElem? (i := 12) rfl)))))⟩
theorem lk_QM_314 : qLk "QueryFleetModel" 314 mi_QM_allDone := Or.inl (qw5 222 rfl rfl)
theorem y_QM_allDone : qY mi_QM_allDone 1 := ⟨(qw5 225 rfl rfl), (qw1 12 rfl rfl), ⟨by decide, by decide, by decide +kernel⟩, by decide⟩
theorem v_QM_allDone : Cond.instanceMethod mi_QM_allDone.1 ∈ qGW ∧ Cond.selects mi_QM_allDone.1.cls mi_QM_allDone.1 mi_QM_allDone.1 ∈ qGW := ⟨(qw5 224 rfl rfl), qw_s (q := (⟨"QueryFleetModel", "allDone", "(I)Z"⟩, _)) (by show _ ∈ lw_privs_1 ++ (lw_privs_2 ++ (lw_privs_3 ++ (lw_privs_4 ++ (lw_privs_5)))); exact List.mem_append_right _ (List.mem_append_right _ (List.mem_append_right _ (List.mem_append_left _ (List.mem_of_getElem? (i := 13) rfl)))))⟩
theorem lk_QM_317 : qLk "QueryFleetModel" 317 mi_QM_sendRun := Or.inl (qw5 226 rfl rfl)
theorem y_QM_sendRun : qY mi_QM_sendRun 1 := ⟨(qw5 229 rfl rfl), (qw1 12 rfl rfl), ⟨by decide, by decide, by decide +kernel⟩, by decide⟩
theorem v_QM_sendRun : Cond.instanceMethod mi_QM_sendRun.1 ∈ qGW ∧ Cond.selects mi_QM_sendRun.1.cls mi_QM_sendRun.1 mi_QM_sendRun.1 ∈ qGW := ⟨(qw5 228 rfl rfl), qw_s (q := (⟨"QueryFleetModel", "sendRun", "(I)V"⟩, _)) (by show _ ∈ lw_privs_1 ++ (lw_privs_2 ++ (lw_privs_3 ++ (lw_privs_4 ++ (lw_privs_5)))); exact List.mem_append_right _ (List.mem_append_right _ (List.mem_append_right _ (List.mem_append_left _ (List.mem_of_getElem? (i := 14) rfl)))))⟩
theorem lk_QM_320 : qLk "QueryFleetModel" 320 mi_QM_send := Or.inl (qw5 230 rfl rfl)
theorem y_QM_send : qY mi_QM_send 3 := ⟨(qw5 233 rfl rfl), (qw1 12 rfl rfl), ⟨by decide, by decide, by decide +kernel⟩, by decide⟩
theorem v_QM_send : Cond.instanceMethod mi_QM_send.1 ∈ qGW ∧ Cond.selects mi_QM_send.1.cls mi_QM_send.1 mi_QM_send.1 ∈ qGW := ⟨(qw5 232 rfl rfl), qw_s (q := (⟨"QueryFleetModel", "send", "(III)V"⟩, _)) (by show _ ∈ lw_privs_1 ++ (lw_privs_2 ++ (lw_privs_3 ++ (lw_privs_4 ++ (lw_privs_5)))); exact List.mem_append_right _ (List.mem_append_right _ (List.mem_append_right _ (List.mem_append_left _ (List.mem_of_getElem? (i := 15) rfl)))))⟩
theorem lk_QM_326 : qLk "QueryFleetModel" 326 mi_QM_workerOf := Or.inl (qw6 6 rfl rfl)
theorem y_QM_workerOf : qY mi_QM_workerOf 2 := ⟨(qw6 9 rfl rfl), (qw1 12 rfl rfl), ⟨by decide, by decide, by decide +kernel⟩, by decide⟩
theorem v_QM_workerOf : Cond.instanceMethod mi_QM_workerOf.1 ∈ qGW ∧ Cond.selects mi_QM_workerOf.1.cls mi_QM_workerOf.1 mi_QM_workerOf.1 ∈ qGW := ⟨(qw6 8 rfl rfl), qw_s (q := (⟨"QueryFleetModel", "workerOf", "(II)I"⟩, _)) (by show _ ∈ lw_privs_1 ++ (lw_privs_2 ++ (lw_privs_3 ++ (lw_privs_4 ++ (lw_privs_5)))); exact List.mem_append_right _ (List.mem_append_right _ (List.mem_append_right _ (List.mem_append_right _ (List.mem_of_getElem? (i := 2) rfl)))))⟩
theorem lk_QM_329 : qLk "QueryFleetModel" 329 mi_QM_strike := Or.inl (qw5 238 rfl rfl)
theorem y_QM_strike : qY mi_QM_strike 1 := ⟨(qw6 1 rfl rfl), (qw1 12 rfl rfl), ⟨by decide, by decide, by decide +kernel⟩, by decide⟩
theorem v_QM_strike : Cond.instanceMethod mi_QM_strike.1 ∈ qGW ∧ Cond.selects mi_QM_strike.1.cls mi_QM_strike.1 mi_QM_strike.1 ∈ qGW := ⟨(qw6 0 rfl rfl), qw_s (q := (⟨"QueryFleetModel", "strike", "(I)V"⟩, _)) (by show _ ∈ lw_privs_1 ++ (lw_privs_2 ++ (lw_privs_3 ++ (lw_privs_4 ++ (lw_privs_5)))); exact List.mem_append_right _ (List.mem_append_right _ (List.mem_append_right _ (List.mem_append_right _ (List.mem_of_getElem? (i := 0) rfl)))))⟩
theorem lk_QM_332 : qLk "QueryFleetModel" 332 mi_QM_deliver := Or.inl (qw6 2 rfl rfl)
theorem y_QM_deliver : qY mi_QM_deliver 3 := ⟨(qw6 5 rfl rfl), (qw1 12 rfl rfl), ⟨by decide, by decide, by decide +kernel⟩, by decide⟩
theorem v_QM_deliver : Cond.instanceMethod mi_QM_deliver.1 ∈ qGW ∧ Cond.selects mi_QM_deliver.1.cls mi_QM_deliver.1 mi_QM_deliver.1 ∈ qGW := ⟨(qw6 4 rfl rfl), qw_s (q := (⟨"QueryFleetModel", "deliver", "(III)I"⟩, _)) (by show _ ∈ lw_privs_1 ++ (lw_privs_2 ++ (lw_privs_3 ++ (lw_privs_4 ++ (lw_privs_5)))); exact List.mem_append_right _ (List.mem_append_right _ (List.mem_append_right _ (List.mem_append_right _ (List.mem_of_getElem? (i := 1) rfl)))))⟩
theorem lk_QM_335 : qLk "QueryFleetModel" 335 mi_QM_isWorker := Or.inl (qw6 14 rfl rfl)
theorem y_QM_isWorker : qY mi_QM_isWorker 1 := ⟨(qw6 17 rfl rfl), (qw1 12 rfl rfl), ⟨by decide, by decide, by decide +kernel⟩, by decide⟩
theorem v_QM_isWorker : Cond.instanceMethod mi_QM_isWorker.1 ∈ qGW ∧ Cond.selects mi_QM_isWorker.1.cls mi_QM_isWorker.1 mi_QM_isWorker.1 ∈ qGW := ⟨(qw6 16 rfl rfl), qw_s (q := (⟨"QueryFleetModel", "isWorker", "(I)Z"⟩, _)) (by show _ ∈ lw_privs_1 ++ (lw_privs_2 ++ (lw_privs_3 ++ (lw_privs_4 ++ (lw_privs_5)))); exact List.mem_append_right _ (List.mem_append_right _ (List.mem_append_right _ (List.mem_append_right _ (List.mem_of_getElem? (i := 3) rfl)))))⟩
theorem lk_QM_338 : qLk "QueryFleetModel" 338 mi_QM_isCell := Or.inl (qw6 42 rfl rfl)
theorem y_QM_isCell : qY mi_QM_isCell 2 := ⟨(qw6 45 rfl rfl), (qw1 12 rfl rfl), ⟨by decide, by decide, by decide +kernel⟩, by decide⟩
theorem v_QM_isCell : Cond.instanceMethod mi_QM_isCell.1 ∈ qGW ∧ Cond.selects mi_QM_isCell.1.cls mi_QM_isCell.1 mi_QM_isCell.1 ∈ qGW := ⟨(qw6 44 rfl rfl), qw_s (q := (⟨"QueryFleetModel", "isCell", "(II)Z"⟩, _)) (by show _ ∈ lw_privs_1 ++ (lw_privs_2 ++ (lw_privs_3 ++ (lw_privs_4 ++ (lw_privs_5)))); exact List.mem_append_right _ (List.mem_append_right _ (List.mem_append_right _ (List.mem_append_right _ (List.mem_of_getElem? (i := 4) rfl)))))⟩
