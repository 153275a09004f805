/-- what is said of the y-th method -/
def x_mok (y : Nat) : Bool := x_at (x_wo y).2.2.1 (.code (x_nm y) (x_by y) (x_ml y) (x_rt y)) && x_at (x_wo y).2.2.2.1 (if x_kd y = 0 then .static (x_nm y) else .instanceMethod (x_nm y)) && (decide (x_kd y ≠ 1) || x_at (x_wo y).2.2.2.2.1 (.selects (x_cn (x_cy y)) (x_nm y) (x_nm y))) && x_at (x_wo y).2.2.2.2.2 (.initialized (x_nm y).cls) && plainName (x_nm y).cls && decide ((x_nm y).cls ≠ "java/lang/invoke/MethodHandle") && decide ((x_nm y).cls ≠ "java/lang/invoke/VarHandle") && decide ((parseMethodDescriptor (x_nm y).desc).map (fun d => d.parameters.length + (if x_kd y = 0 then 0 else 1)) = some (x_na y)) && decide ((x_nm y).cls = x_cn (x_cy y)) && decide (x_ml y ≤ 41) && (decide (x_kd y ≠ 2) || (decide ((x_nm y).name = "<init>") && decide (x_rt y = none)))
theorem x_ma_ok : (decide (x_nm x_abs = Lib.Math.abs.name) && decide (x_nm x_max = Lib.Math.max.name) && x_at (x_wo x_abs).2.2.1 (.code Lib.Math.abs.name Lib.Math.abs.code 1 (some .int)) && x_at (x_wo x_max).2.2.1 (.code Lib.Math.max.name Lib.Math.max.code 2 (some .int)) && x_at (x_wo x_abs).2.2.2.1 (.static Lib.Math.abs.name) && x_at (x_wo x_max).2.2.2.1 (.static Lib.Math.max.name) && x_at (x_wo x_abs).2.2.2.2.2 (.initialized "java/lang/Math")) = true := by decide +kernel
theorem x_mok_0 : ((List.range 6).map (· + 0)).all x_mok = true := by decide +kernel
theorem x_mok_6 : ((List.range 6).map (· + 6)).all x_mok = true := by decide +kernel
theorem x_mok_12 : ((List.range 6).map (· + 12)).all x_mok = true := by decide +kernel
theorem x_mok_18 : ((List.range 6).map (· + 18)).all x_mok = true := by decide +kernel
theorem x_mok_24 : ((List.range 6).map (· + 24)).all x_mok = true := by decide +kernel
theorem x_mok_30 : ((List.range 6).map (· + 30)).all x_mok = true := by decide +kernel
theorem x_mok_36 : ((List.range 6).map (· + 36)).all x_mok = true := by decide +kernel
theorem x_mok_42 : ((List.range 6).map (· + 42)).all x_mok = true := by decide +kernel
theorem x_mok_48 : ((List.range 6).map (· + 48)).all x_mok = true := by decide +kernel
theorem x_mok_54 : ((List.range 6).map (· + 54)).all x_mok = true := by decide +kernel
theorem x_mok_60 : ((List.range 6).map (· + 60)).all x_mok = true := by decide +kernel
theorem x_mok_66 : ((List.range 6).map (· + 66)).all x_mok = true := by decide +kernel
theorem x_mok_72 : ((List.range 6).map (· + 72)).all x_mok = true := by decide +kernel
theorem x_mok_78 : ((List.range 6).map (· + 78)).all x_mok = true := by decide +kernel
theorem x_mok_84 : ((List.range 6).map (· + 84)).all x_mok = true := by decide +kernel
theorem x_mok_90 : ((List.range 6).map (· + 90)).all x_mok = true := by decide +kernel
theorem x_mok_96 : ((List.range 6).map (· + 96)).all x_mok = true := by decide +kernel
theorem x_mok_102 : ((List.range 6).map (· + 102)).all x_mok = true := by decide +kernel
theorem x_mok_108 : ((List.range 6).map (· + 108)).all x_mok = true := by decide +kernel
theorem x_mok_114 : ((List.range 6).map (· + 114)).all x_mok = true := by decide +kernel
theorem x_mok_120 : ((List.range 6).map (· + 120)).all x_mok = true := by decide +kernel
theorem x_mok_126 : ((List.range 6).map (· + 126)).all x_mok = true := by decide +kernel
theorem x_mok_132 : ((List.range 6).map (· + 132)).all x_mok = true := by decide +kernel
theorem x_mok_138 : ((List.range 6).map (· + 138)).all x_mok = true := by decide +kernel
theorem x_mok_144 : ((List.range 6).map (· + 144)).all x_mok = true := by decide +kernel
theorem x_mok_150 : ((List.range 6).map (· + 150)).all x_mok = true := by decide +kernel
theorem x_mok_156 : ((List.range 6).map (· + 156)).all x_mok = true := by decide +kernel
theorem x_mok_162 : ((List.range 6).map (· + 162)).all x_mok = true := by decide +kernel
theorem x_mok_168 : ((List.range 1).map (· + 168)).all x_mok = true := by decide +kernel
theorem x_mok_169 : ((List.range 1).map (· + 169)).all x_mok = true := by decide +kernel
theorem x_mok_170 : ((List.range 1).map (· + 170)).all x_mok = true := by decide +kernel
theorem x_mok_171 : ((List.range 1).map (· + 171)).all x_mok = true := by decide +kernel
theorem x_mok_172 : ((List.range 1).map (· + 172)).all x_mok = true := by decide +kernel
theorem x_mok_173 : ((List.range 1).map (· + 173)).all x_mok = true := by decide +kernel
theorem x_mok_174 : ((List.range 1).map (· + 174)).all x_mok = true := by decide +kernel
theorem x_mok_175 : ((List.range 1).map (· + 175)).all x_mok = true := by decide +kernel
theorem x_mok_176 : ((List.range 1).map (· + 176)).all x_mok = true := by decide +kernel
theorem x_mok_177 : ((List.range 1).map (· + 177)).all x_mok = true := by decide +kernel
theorem x_mok_178 : ((List.range 1).map (· + 178)).all x_mok = true := by decide +kernel
theorem x_mok_179 : ((List.range 1).map (· + 179)).all x_mok = true := by decide +kernel
theorem x_mok_182 : ((List.range 1).map (· + 182)).all x_mok = true := by decide +kernel
theorem x_mok_183 : ((List.range 1).map (· + 183)).all x_mok = true := by decide +kernel
theorem x_mok_at {z : Nat} (hz : z < 184) (h1 : z ≠ x_abs) (h2 : z ≠ x_max) : x_mok z = true := by
  have h1 : z ≠ 180 := h1
  have h2 : z ≠ 181 := h2
  by_cases g0 : 0 ≤ z ∧ z < 6
  · exact List.all_eq_true.mp x_mok_0 z (List.mem_map.mpr ⟨z - 0, List.mem_range.mpr (by omega), by omega⟩)
  by_cases g6 : 6 ≤ z ∧ z < 12
  · exact List.all_eq_true.mp x_mok_6 z (List.mem_map.mpr ⟨z - 6, List.mem_range.mpr (by omega), by omega⟩)
  by_cases g12 : 12 ≤ z ∧ z < 18
  · exact List.all_eq_true.mp x_mok_12 z (List.mem_map.mpr ⟨z - 12, List.mem_range.mpr (by omega), by omega⟩)
  by_cases g18 : 18 ≤ z ∧ z < 24
  · exact List.all_eq_true.mp x_mok_18 z (List.mem_map.mpr ⟨z - 18, List.mem_range.mpr (by omega), by omega⟩)
  by_cases g24 : 24 ≤ z ∧ z < 30
  · exact List.all_eq_true.mp x_mok_24 z (List.mem_map.mpr ⟨z - 24, List.mem_range.mpr (by omega), by omega⟩)
  by_cases g30 : 30 ≤ z ∧ z < 36
  · exact List.all_eq_true.mp x_mok_30 z (List.mem_map.mpr ⟨z - 30, List.mem_range.mpr (by omega), by omega⟩)
  by_cases g36 : 36 ≤ z ∧ z < 42
  · exact List.all_eq_true.mp x_mok_36 z (List.mem_map.mpr ⟨z - 36, List.mem_range.mpr (by omega), by omega⟩)
  by_cases g42 : 42 ≤ z ∧ z < 48
  · exact List.all_eq_true.mp x_mok_42 z (List.mem_map.mpr ⟨z - 42, List.mem_range.mpr (by omega), by omega⟩)
  by_cases g48 : 48 ≤ z ∧ z < 54
  · exact List.all_eq_true.mp x_mok_48 z (List.mem_map.mpr ⟨z - 48, List.mem_range.mpr (by omega), by omega⟩)
  by_cases g54 : 54 ≤ z ∧ z < 60
  · exact List.all_eq_true.mp x_mok_54 z (List.mem_map.mpr ⟨z - 54, List.mem_range.mpr (by omega), by omega⟩)
  by_cases g60 : 60 ≤ z ∧ z < 66
  · exact List.all_eq_true.mp x_mok_60 z (List.mem_map.mpr ⟨z - 60, List.mem_range.mpr (by omega), by omega⟩)
  by_cases g66 : 66 ≤ z ∧ z < 72
  · exact List.all_eq_true.mp x_mok_66 z (List.mem_map.mpr ⟨z - 66, List.mem_range.mpr (by omega), by omega⟩)
  by_cases g72 : 72 ≤ z ∧ z < 78
  · exact List.all_eq_true.mp x_mok_72 z (List.mem_map.mpr ⟨z - 72, List.mem_range.mpr (by omega), by omega⟩)
  by_cases g78 : 78 ≤ z ∧ z < 84
  · exact List.all_eq_true.mp x_mok_78 z (List.mem_map.mpr ⟨z - 78, List.mem_range.mpr (by omega), by omega⟩)
  by_cases g84 : 84 ≤ z ∧ z < 90
  · exact List.all_eq_true.mp x_mok_84 z (List.mem_map.mpr ⟨z - 84, List.mem_range.mpr (by omega), by omega⟩)
  by_cases g90 : 90 ≤ z ∧ z < 96
  · exact List.all_eq_true.mp x_mok_90 z (List.mem_map.mpr ⟨z - 90, List.mem_range.mpr (by omega), by omega⟩)
  by_cases g96 : 96 ≤ z ∧ z < 102
  · exact List.all_eq_true.mp x_mok_96 z (List.mem_map.mpr ⟨z - 96, List.mem_range.mpr (by omega), by omega⟩)
  by_cases g102 : 102 ≤ z ∧ z < 108
  · exact List.all_eq_true.mp x_mok_102 z (List.mem_map.mpr ⟨z - 102, List.mem_range.mpr (by omega), by omega⟩)
  by_cases g108 : 108 ≤ z ∧ z < 114
  · exact List.all_eq_true.mp x_mok_108 z (List.mem_map.mpr ⟨z - 108, List.mem_range.mpr (by omega), by omega⟩)
  by_cases g114 : 114 ≤ z ∧ z < 120
  · exact List.all_eq_true.mp x_mok_114 z (List.mem_map.mpr ⟨z - 114, List.mem_range.mpr (by omega), by omega⟩)
  by_cases g120 : 120 ≤ z ∧ z < 126
  · exact List.all_eq_true.mp x_mok_120 z (List.mem_map.mpr ⟨z - 120, List.mem_range.mpr (by omega), by omega⟩)
  by_cases g126 : 126 ≤ z ∧ z < 132
  · exact List.all_eq_true.mp x_mok_126 z (List.mem_map.mpr ⟨z - 126, List.mem_range.mpr (by omega), by omega⟩)
  by_cases g132 : 132 ≤ z ∧ z < 138
  · exact List.all_eq_true.mp x_mok_132 z (List.mem_map.mpr ⟨z - 132, List.mem_range.mpr (by omega), by omega⟩)
  by_cases g138 : 138 ≤ z ∧ z < 144
  · exact List.all_eq_true.mp x_mok_138 z (List.mem_map.mpr ⟨z - 138, List.mem_range.mpr (by omega), by omega⟩)
  by_cases g144 : 144 ≤ z ∧ z < 150
  · exact List.all_eq_true.mp x_mok_144 z (List.mem_map.mpr ⟨z - 144, List.mem_range.mpr (by omega), by omega⟩)
  by_cases g150 : 150 ≤ z ∧ z < 156
  · exact List.all_eq_true.mp x_mok_150 z (List.mem_map.mpr ⟨z - 150, List.mem_range.mpr (by omega), by omega⟩)
  by_cases g156 : 156 ≤ z ∧ z < 162
  · exact List.all_eq_true.mp x_mok_156 z (List.mem_map.mpr ⟨z - 156, List.mem_range.mpr (by omega), by omega⟩)
  by_cases g162 : 162 ≤ z ∧ z < 168
  · exact List.all_eq_true.mp x_mok_162 z (List.mem_map.mpr ⟨z - 162, List.mem_range.mpr (by omega), by omega⟩)
  by_cases g168 : 168 ≤ z ∧ z < 169
  · exact List.all_eq_true.mp x_mok_168 z (List.mem_map.mpr ⟨z - 168, List.mem_range.mpr (by omega), by omega⟩)
  by_cases g169 : 169 ≤ z ∧ z < 170
  · exact List.all_eq_true.mp x_mok_169 z (List.mem_map.mpr ⟨z - 169, List.mem_range.mpr (by omega), by omega⟩)
  by_cases g170 : 170 ≤ z ∧ z < 171
  · exact List.all_eq_true.mp x_mok_170 z (List.mem_map.mpr ⟨z - 170, List.mem_range.mpr (by omega), by omega⟩)
  by_cases g171 : 171 ≤ z ∧ z < 172
  · exact List.all_eq_true.mp x_mok_171 z (List.mem_map.mpr ⟨z - 171, List.mem_range.mpr (by omega), by omega⟩)
  by_cases g172 : 172 ≤ z ∧ z < 173
  · exact List.all_eq_true.mp x_mok_172 z (List.mem_map.mpr ⟨z - 172, List.mem_range.mpr (by omega), by omega⟩)
  by_cases g173 : 173 ≤ z ∧ z < 174
  · exact List.all_eq_true.mp x_mok_173 z (List.mem_map.mpr ⟨z - 173, List.mem_range.mpr (by omega), by omega⟩)
  by_cases g174 : 174 ≤ z ∧ z < 175
  · exact List.all_eq_true.mp x_mok_174 z (List.mem_map.mpr ⟨z - 174, List.mem_range.mpr (by omega), by omega⟩)
  by_cases g175 : 175 ≤ z ∧ z < 176
  · exact List.all_eq_true.mp x_mok_175 z (List.mem_map.mpr ⟨z - 175, List.mem_range.mpr (by omega), by omega⟩)
  by_cases g176 : 176 ≤ z ∧ z < 177
  · exact List.all_eq_true.mp x_mok_176 z (List.mem_map.mpr ⟨z - 176, List.mem_range.mpr (by omega), by omega⟩)
  by_cases g177 : 177 ≤ z ∧ z < 178
  · exact List.all_eq_true.mp x_mok_177 z (List.mem_map.mpr ⟨z - 177, List.mem_range.mpr (by omega), by omega⟩)
  by_cases g178 : 178 ≤ z ∧ z < 179
  · exact List.all_eq_true.mp x_mok_178 z (List.mem_map.mpr ⟨z - 178, List.mem_range.mpr (by omega), by omega⟩)
  by_cases g179 : 179 ≤ z ∧ z < 180
  · exact List.all_eq_true.mp x_mok_179 z (List.mem_map.mpr ⟨z - 179, List.mem_range.mpr (by omega), by omega⟩)
  by_cases g182 : 182 ≤ z ∧ z < 183
  · exact List.all_eq_true.mp x_mok_182 z (List.mem_map.mpr ⟨z - 182, List.mem_range.mpr (by omega), by omega⟩)
  by_cases g183 : 183 ≤ z ∧ z < 184
  · exact List.all_eq_true.mp x_mok_183 z (List.mem_map.mpr ⟨z - 183, List.mem_range.mpr (by omega), by omega⟩)
  exact absurd rfl (by omega : ¬ z = z)
theorem x_ct_z : x_ct.all (fun r => decide (r.2.2.1 < 184)) = true := by decide +kernel
theorem x_kd_1 : ((List.range 184).all fun z => decide (x_kd z ≠ 1) || decide (x_cy z < 7) || decide (x_cy z = 8)) = true := by decide +kernel
theorem x_kd_am : x_kd x_abs = 0 ∧ x_kd x_max = 0 := by decide +kernel
theorem x_in_u : ((List.range 7).all fun c => (u_ws (x_cn c) (x_T c) (x_N c)).all fun w => decide (w ∈ lw_tbl) && goodWord w) = true := by decide +kernel
