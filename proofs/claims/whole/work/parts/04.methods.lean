/-- what is said of the y-th method -/
def x_mok (y : Nat) : Bool := x_at (x_wo y).2.2.1 (.code (x_nm y) (x_by y) (x_ml y) (x_rt y)) && x_at (x_wo y).2.2.2.1 (if x_kd y = 0 then .static (x_nm y) else .instanceMethod (x_nm y)) && (decide (x_kd y ≠ 1) || x_at (x_wo y).2.2.2.2.1 (.selects (x_cn (x_cy y)) (x_nm y) (x_nm y))) && x_at (x_wo y).2.2.2.2.2 (.initialized (x_nm y).cls) && plainName (x_nm y).cls && decide ((x_nm y).cls ≠ "java/lang/invoke/MethodHandle") && decide ((x_nm y).cls ≠ "java/lang/invoke/VarHandle") && decide ((parseMethodDescriptor (x_nm y).desc).map (fun d => d.parameters.length + (if x_kd y = 0 then 0 else 1)) = some (x_na y)) && decide ((x_nm y).cls = x_cn (x_cy y)) && decide (x_ml y ≤ 41) && (decide (x_kd y ≠ 2) || (decide ((x_nm y).name = "<init>") && decide (x_rt y = none)))
theorem x_ma_ok : (decide (x_nm x_abs = Lib.Math.abs.name) && decide (x_nm x_max = Lib.Math.max.name) && x_at (x_wo x_abs).2.2.1 (.code Lib.Math.abs.name Lib.Math.abs.code 1 (some .int)) && x_at (x_wo x_max).2.2.1 (.code Lib.Math.max.name Lib.Math.max.code 2 (some .int)) && x_at (x_wo x_abs).2.2.2.1 (.static Lib.Math.abs.name) && x_at (x_wo x_max).2.2.2.1 (.static Lib.Math.max.name) && x_at (x_wo x_abs).2.2.2.2.2 (.initialized "java/lang/Math")) = true := by decide +kernel
theorem x_mok_0 : ((List.range 6).map (· + 0)).all x_mok = true := by decide +kernel
theorem x_mok_6 : ((List.range 6).map (· + 6)).all x_mok = true := by decide +kernel
theorem x_mok_12 : ((List.range 6).map (· + 12)).all x_mok = true := by decide +kernel
theorem x_mok_18 : ((List.range 6).map (· + 18)).all x_mok = true := by decide +kernel
theorem x_mok_24 : ((List.range 6).map (· + 24)).all x_mok = true := by decide +kernel
theorem x_mok_30 : ((List.range 6).map (· + 30)).all x_mok = true := by decide +kernel
theorem x_mok_36 : ((List.range 6).map (· + 36)).all x_mok = true := by decide +kernel
theorem x_mok_42 : ((List.range 6).map (· + 42)).all x_mok = true := by decide +kernel
theorem x_mok_48 : ((List.range 6).map (· + 48)).all x_mok = true := by decide +kernel
theorem x_mok_54 : ((List.range 6).map (· + 54)).all x_mok = true := by decide +kernel
theorem x_mok_60 : ((List.range 6).map (· + 60)).all x_mok = true := by decide +kernel
theorem x_mok_66 : ((List.range 6).map (· + 66)).all x_mok = true := by decide +kernel
theorem x_mok_72 : ((List.range 6).map (· + 72)).all x_mok = true := by decide +kernel
theorem x_mok_78 : ((List.range 6).map (· + 78)).all x_mok = true := by decide +kernel
theorem x_mok_84 : ((List.range 6).map (· + 84)).all x_mok = true := by decide +kernel
theorem x_mok_90 : ((List.range 6).map (· + 90)).all x_mok = true := by decide +kernel
theorem x_mok_96 : ((List.range 6).map (· + 96)).all x_mok = true := by decide +kernel
theorem x_mok_102 : ((List.range 6).map (· + 102)).all x_mok = true := by decide +kernel
theorem x_mok_108 : ((List.range 6).map (· + 108)).all x_mok = true := by decide +kernel
theorem x_mok_114 : ((List.range 6).map (· + 114)).all x_mok = true := by decide +kernel
theorem x_mok_120 : ((List.range 6).map (· + 120)).all x_mok = true := by decide +kernel
theorem x_mok_126 : ((List.range 6).map (· + 126)).all x_mok = true := by decide +kernel
theorem x_mok_132 : ((List.range 6).map (· + 132)).all x_mok = true := by decide +kernel
theorem x_mok_138 : ((List.range 6).map (· + 138)).all x_mok = true := by decide +kernel
theorem x_mok_144 : ((List.range 6).map (· + 144)).all x_mok = true := by decide +kernel
theorem x_mok_150 : ((List.range 6).map (· + 150)).all x_mok = true := by decide +kernel
theorem x_mok_156 : ((List.range 6).map (· + 156)).all x_mok = true := by decide +kernel
theorem x_mok_162 : ((List.range 6).map (· + 162)).all x_mok = true := by decide +kernel
theorem x_mok_168 : ((List.range 1).map (· + 168)).all x_mok = true := by decide +kernel
theorem x_mok_169 : ((List.range 1).map (· + 169)).all x_mok = true := by decide +kernel
theorem x_mok_170 : ((List.range 1).map (· + 170)).all x_mok = true := by decide +kernel
theorem x_mok_171 : ((List.range 1).map (· + 171)).all x_mok = true := by decide +kernel
theorem x_mok_172 : ((List.range 1).map (· + 172)).all x_mok = true := by decide +kernel
theorem x_mok_173 : ((List.range 1).map (· + 173)).all x_mok = true := by decide +kernel
theorem x_mok_174 : ((List.range 1).map (· + 174)).all x_mok = true := by decide +kernel
theorem x_mok_175 : ((List.range 1).map (· + 175)).all x_mok = true := by decide +kernel
theorem x_mok_176 : ((List.range 1).map (· + 176)).all x_mok = true := by decide +kernel
theorem x_mok_177 : ((List.range 1).map (· + 177)).all x_mok = true := by decide +kernel
theorem x_mok_178 : ((List.range 1).map (· + 178)).all x_mok = true := by decide +kernel
theorem x_mok_179 : ((List.range 1).map (· + 179)).all x_mok = true := by decide +kernel
theorem x_mok_182 : ((List.range 1).map (· + 182)).all x_mok = true := by decide +kernel
theorem x_mok_183 : ((List.range 1).map (· + 183)).all x_mok = true := by decide +kernel
theorem x_in_u : ((List.range 7).all fun c => (u_ws (x_cn c) (x_T c) (x_N c)).all fun w => decide (w ∈ lw_tbl) && goodWord w) = true := by decide +kernel
