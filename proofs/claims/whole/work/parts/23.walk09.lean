set_option maxRecDepth 20000 in
theorem T_142_0 {xs : List Int32} {d : Nat} {S : x_M} {Q : Option Value → x_M → Prop} {a1 : Int32}  (hV : (x_ib a1 6) ∧ ((x_ib a1 6) ∧ ((x_ib ((2 * a1) + (S 69 (Int32.toNatClampNeg a1))) 12) ∧ (∃ P1 : Int32 → x_M → Prop, x_Ci xs d 122 [.int (S 70 (Int32.toNatClampNeg ((2 * a1) + (S 69 (Int32.toNatClampNeg a1))))), .int ((S 71 (Int32.toNatClampNeg a1)) / 8)] S P1 ∧ ∀ (v1 : Int32) (S1 : x_M), P1 v1 S1 → (if v1 = 0 then (Q (some (.int 0)) S1) else ((x_ib a1 6) ∧ ((x_ib (S 71 (Int32.toNatClampNeg a1)) 112) ∧ (∀ x2 : Int32, x2 = ((S1 68 (Int32.toNatClampNeg a1)) &&& (S1 66 (Int32.toNatClampNeg (S 71 (Int32.toNatClampNeg a1))))) → (∃ P3 : Int32 → x_M → Prop, x_Ci xs d 129 [.ref 56, .int x2] S1 P3 ∧ ∀ (v3 : Int32) (S3 : x_M), P3 v3 S3 → ((x_ib a1 6) ∧ (∀ S4 : x_M, S4 = x_up S3 72 (Int32.toNatClampNeg a1) v3 → ((x_ib (2 * a1) 12) ∧ ((x_ib ((2 * a1) + 2) 12) ∧ (∀ S5 : x_M, S5 = x_up S4 70 (Int32.toNatClampNeg ((2 * a1) + 2)) (S4 70 (Int32.toNatClampNeg (2 * a1))) → ((x_ib ((2 * a1) + 1) 12) ∧ ((x_ib ((2 * a1) + 3) 12) ∧ (∀ S6 : x_M, S6 = x_up S5 70 (Int32.toNatClampNeg ((2 * a1) + 3)) (S5 70 (Int32.toNatClampNeg ((2 * a1) + 1))) → ((x_ib (((2 * a1) + 2) + (S 69 (Int32.toNatClampNeg a1))) 12) ∧ ((x_ib (((2 * a1) + 2) + (S 69 (Int32.toNatClampNeg a1))) 12) ∧ (∀ S7 : x_M, S7 = x_up S6 70 (Int32.toNatClampNeg (((2 * a1) + 2) + (S 69 (Int32.toNatClampNeg a1)))) ((S6 70 (Int32.toNatClampNeg (((2 * a1) + 2) + (S 69 (Int32.toNatClampNeg a1))))) &&& ((1 <<< (((S 71 (Int32.toNatClampNeg a1)) / 8) &&& 31)) ^^^ (-1))) → (if x2 = 0 then (x_E xs (d + 1) 142 141 [.ref 56, .int a1, .int (S 71 (Int32.toNatClampNeg a1)), .int (S 69 (Int32.toNatClampNeg a1)), .int x2] [.int 511, .int (a1 + 1), .ref 56] S7 Q) else (x_E xs (d + 1) 142 141 [.ref 56, .int a1, .int (S 71 (Int32.toNatClampNeg a1)), .int (S 69 (Int32.toNatClampNeg a1)), .int x2] [.int x2, .int (a1 + 1), .ref 56] S7 Q)))))))))))))))))))))) : x_E xs (d + 1) 142 0 [.ref 56, .int a1, .null, .null, .null] [] S Q := by
  refine e_aload f_142_0 rfl (by decide) ?_
  refine e_gr (c := 6) (j := 22) (r := 71) f_142_1 (by decide) (by decide) (by decide) (by decide) ?_
  refine e_iload f_142_4 rfl ?_
  obtain ⟨hg, hV⟩ := hV
  refine e_ia (n := 6) f_142_5 (by decide) (by decide) hg ?_
  refine e_istore (L' := [.ref 56, .int a1, .int (S 71 (Int32.toNatClampNeg a1)), .null, .null]) f_142_6 (Nat.le_of_ble_eq_true rfl) rfl ?_
  refine e_aload f_142_7 rfl (by decide) ?_
  refine e_gr (c := 6) (j := 20) (r := 69) f_142_8 (by decide) (by decide) (by decide) (by decide) ?_
  refine e_iload f_142_11 rfl ?_
  obtain ⟨hg, hV⟩ := hV
  refine e_ia (n := 6) f_142_12 (by decide) (by decide) hg ?_
  refine e_istore (L' := [.ref 56, .int a1, .int (S 71 (Int32.toNatClampNeg a1)), .int (S 69 (Int32.toNatClampNeg a1)), .null]) f_142_13 (Nat.le_of_ble_eq_true rfl) rfl ?_
  refine e_aload f_142_14 rfl (by decide) ?_
  refine e_gr (c := 6) (j := 21) (r := 70) f_142_15 (by decide) (by decide) (by decide) (by decide) ?_
  refine e_iconst (c := 2) f_142_18 (by decide) ?_
  refine e_iload f_142_19 rfl ?_
  refine e_imul f_142_20 ?_
  refine e_iload f_142_21 rfl ?_
  refine e_iadd f_142_22 ?_
  obtain ⟨hg, hV⟩ := hV
  refine e_ia (n := 12) f_142_23 (by decide) (by decide) hg ?_
  refine e_iload f_142_24 rfl ?_
  refine e_iconst (c := 8) f_142_25 (by decide) ?_
  refine e_idiv f_142_27 (by decide) ?_
  obtain ⟨P1, hP1, hV⟩ := hV
  refine e_si (n := 2) (A := [.int (S 70 (Int32.toNatClampNeg ((2 * a1) + (S 69 (Int32.toNatClampNeg a1))))), .int ((S 71 (Int32.toNatClampNeg a1)) / 8)]) (R := []) f_142_28 na_122 rfl rfl (Nat.le_of_ble_eq_true rfl) (Nat.le_of_ble_eq_true rfl) (by rw [ml_122]; exact Nat.le_of_ble_eq_true rfl) hP1 (fun v1 S1 hp1 => ?_)
  have hV := hV v1 S1 hp1
  refine e_if f_142_31 (fun hc => ?_) (fun hc => ?_)
  · have hc := x_cct_ne hc
    rw [if_neg hc] at hV
    refine e_aload f_142_36 rfl (by decide) ?_
    refine e_gr (c := 6) (j := 19) (r := 68) f_142_37 (by decide) (by decide) (by decide) (by decide) ?_
    refine e_iload f_142_40 rfl ?_
    obtain ⟨hg, hV⟩ := hV
    refine e_ia (n := 6) f_142_41 (by decide) (by decide) hg ?_
    refine e_aload f_142_42 rfl (by decide) ?_
    refine e_gr (c := 6) (j := 17) (r := 66) f_142_43 (by decide) (by decide) (by decide) (by decide) ?_
    refine e_iload f_142_46 rfl ?_
    obtain ⟨hg, hV⟩ := hV
    refine e_ia (n := 112) f_142_47 (by decide) (by decide) hg ?_
    refine e_iand f_142_48 ?_
    refine e_istoren (L' := fun x2 => [.ref 56, .int a1, .int (S 71 (Int32.toNatClampNeg a1)), .int (S 69 (Int32.toNatClampNeg a1)), .int x2]) f_142_49 (Nat.le_of_ble_eq_true rfl) (fun _ => rfl) (fun x2 hx2 => ?_)
    have hV := hV x2 hx2
    refine e_aload f_142_51 rfl (by decide) ?_
    refine e_gr (c := 6) (j := 23) (r := 72) f_142_52 (by decide) (by decide) (by decide) (by decide) ?_
    refine e_iload f_142_55 rfl ?_
    refine e_aload f_142_56 rfl (by decide) ?_
    refine e_iload f_142_57 rfl ?_
    obtain ⟨P3, hP3, hV⟩ := hV
    refine e_vi (n := 2) (A := [.ref 56, .int x2]) (R := [.int a1, .ref 72]) f_142_59 na_129 rfl rfl (Nat.le_of_ble_eq_true rfl) (Nat.le_of_ble_eq_true rfl) (by rw [ml_129]; exact Nat.le_of_ble_eq_true rfl) rfl (by rw [cy_129]; decide) (by rw [cy_129]; exact (by decide : x_tg 56 = 6)) hP3 (fun v3 S3 hp3 => ?_)
    have hV := hV v3 S3 hp3
    obtain ⟨hg, hV⟩ := hV
    refine e_isn (n := 6) f_142_62 (by decide) (by decide) hg (fun S4 hS4 => ?_)
    have hV := hV S4 hS4
    refine e_aload f_142_63 rfl (by decide) ?_
    refine e_gr (c := 6) (j := 21) (r := 70) f_142_64 (by decide) (by decide) (by decide) (by decide) ?_
    refine e_iconst (c := 2) f_142_67 (by decide) ?_
    refine e_iload f_142_68 rfl ?_
    refine e_imul f_142_69 ?_
    refine e_iconst (c := 2) f_142_70 (by decide) ?_
    refine e_iadd f_142_71 ?_
    refine e_aload f_142_72 rfl (by decide) ?_
    refine e_gr (c := 6) (j := 21) (r := 70) f_142_73 (by decide) (by decide) (by decide) (by decide) ?_
    refine e_iconst (c := 2) f_142_76 (by decide) ?_
    refine e_iload f_142_77 rfl ?_
    refine e_imul f_142_78 ?_
    obtain ⟨hg, hV⟩ := hV
    refine e_ia (n := 12) f_142_79 (by decide) (by decide) hg ?_
    obtain ⟨hg, hV⟩ := hV
    refine e_isn (n := 12) f_142_80 (by decide) (by decide) hg (fun S5 hS5 => ?_)
    have hV := hV S5 hS5
    refine e_aload f_142_81 rfl (by decide) ?_
    refine e_gr (c := 6) (j := 21) (r := 70) f_142_82 (by decide) (by decide) (by decide) (by decide) ?_
    refine e_iconst (c := 2) f_142_85 (by decide) ?_
    refine e_iload f_142_86 rfl ?_
    refine e_imul f_142_87 ?_
    refine e_iconst (c := 3) f_142_88 (by decide) ?_
    refine e_iadd f_142_89 ?_
    refine e_aload f_142_90 rfl (by decide) ?_
    refine e_gr (c := 6) (j := 21) (r := 70) f_142_91 (by decide) (by decide) (by decide) (by decide) ?_
    refine e_iconst (c := 2) f_142_94 (by decide) ?_
    refine e_iload f_142_95 rfl ?_
    refine e_imul f_142_96 ?_
    refine e_iconst (c := 1) f_142_97 (by decide) ?_
    refine e_iadd f_142_98 ?_
    obtain ⟨hg, hV⟩ := hV
    refine e_ia (n := 12) f_142_99 (by decide) (by decide) hg ?_
    obtain ⟨hg, hV⟩ := hV
    refine e_isn (n := 12) f_142_100 (by decide) (by decide) hg (fun S6 hS6 => ?_)
    have hV := hV S6 hS6
    refine e_aload f_142_101 rfl (by decide) ?_
    refine e_gr (c := 6) (j := 21) (r := 70) f_142_102 (by decide) (by decide) (by decide) (by decide) ?_
    refine e_iconst (c := 2) f_142_105 (by decide) ?_
    refine e_iload f_142_106 rfl ?_
    refine e_imul f_142_107 ?_
    refine e_iconst (c := 2) f_142_108 (by decide) ?_
    refine e_iadd f_142_109 ?_
    refine e_iload f_142_110 rfl ?_
    refine e_iadd f_142_111 ?_
    refine e_dup2 f_142_112 ⟨rfl, rfl⟩ ?_
    obtain ⟨hg, hV⟩ := hV
    refine e_ia (n := 12) f_142_113 (by decide) (by decide) hg ?_
    refine e_iconst (c := 1) f_142_114 (by decide) ?_
    refine e_iload f_142_115 rfl ?_
    refine e_iconst (c := 8) f_142_116 (by decide) ?_
    refine e_idiv f_142_118 (by decide) ?_
    refine e_ishl f_142_119 ?_
    refine e_iconst (c := (-1)) f_142_120 (by decide) ?_
    refine e_ixor f_142_121 ?_
    refine e_iand f_142_122 ?_
    obtain ⟨hg, hV⟩ := hV
    refine e_isn (n := 12) f_142_123 (by decide) (by decide) hg (fun S7 hS7 => ?_)
    have hV := hV S7 hS7
    refine e_aload f_142_124 rfl (by decide) ?_
    refine e_iload f_142_125 rfl ?_
    refine e_iconst (c := 1) f_142_126 (by decide) ?_
    refine e_iadd f_142_127 ?_
    refine e_iload f_142_128 rfl ?_
    refine e_if f_142_130 (fun hc => ?_) (fun hc => ?_)
    · have hc := x_cct_ne hc
      rw [if_neg hc] at hV
      refine e_iload f_142_139 rfl ?_
      exact hV
    · have hc := x_ccf_ne hc
      rw [if_pos hc] at hV
      refine e_iconst (c := 511) f_142_133 (by decide) ?_
      refine e_goto f_142_136 ?_
      exact hV
  · have hc := x_ccf_ne hc
    rw [if_pos hc] at hV
    refine e_iconst (c := 0) f_142_34 (by decide) ?_
    exact e_ireturn f_142_35 rt_142 (by decide) hV
set_option maxRecDepth 20000 in
theorem T_142_141 {xs : List Int32} {d : Nat} {S : x_M} {Q : Option Value → x_M → Prop} {a1 : Int32} {a2 : Int32} {a3 : Int32} {a4 : Int32} {s1 : Int32} {s2 : Int32}  (hV : (x_ib (((2 * a1) + 3) - a3) 12) ∧ (if (S 70 (Int32.toNatClampNeg (((2 * a1) + 3) - a3))) = 0 then (∃ P1 : x_M → Prop, x_Cv xs d 141 [.ref 56, .int s1, .int s2, .int a3] S P1 ∧ ∀ (S1 : x_M), P1 S1 → (Q (some (.int 1)) S1)) else (∃ P2 : x_M → Prop, x_Cv xs d 141 [.ref 56, .int s1, .int s2, .int (1 - a3)] S P2 ∧ ∀ (S2 : x_M), P2 S2 → (Q (some (.int 1)) S2)))) : x_E xs (d + 1) 142 141 [.ref 56, .int a1, .int a2, .int a3, .int a4] [.int s2, .int s1, .ref 56] S Q := by
  refine e_aload f_142_141 rfl (by decide) ?_
  refine e_gr (c := 6) (j := 21) (r := 70) f_142_142 (by decide) (by decide) (by decide) (by decide) ?_
  refine e_iconst (c := 2) f_142_145 (by decide) ?_
  refine e_iload f_142_146 rfl ?_
  refine e_imul f_142_147 ?_
  refine e_iconst (c := 3) f_142_148 (by decide) ?_
  refine e_iadd f_142_149 ?_
  refine e_iload f_142_150 rfl ?_
  refine e_isub f_142_151 ?_
  obtain ⟨hg, hV⟩ := hV
  refine e_ia (n := 12) f_142_152 (by decide) (by decide) hg ?_
  refine e_if f_142_153 (fun hc => ?_) (fun hc => ?_)
  · have hc := x_cct_eq hc
    rw [if_pos hc] at hV
    refine e_iload f_142_162 rfl ?_
    obtain ⟨P1, hP1, hV⟩ := hV
    refine e_vv (n := 4) (A := [.ref 56, .int s1, .int s2, .int a3]) (R := []) f_142_163 na_141 rfl rfl (Nat.le_of_ble_eq_true rfl) (Nat.le_of_ble_eq_true rfl) (by rw [ml_141]; exact Nat.le_of_ble_eq_true rfl) rfl (by rw [cy_141]; decide) (by rw [cy_141]; exact (by decide : x_tg 56 = 6)) hP1 (fun S1 hp1 => ?_)
    have hV := hV S1 hp1
    refine e_iconst (c := 1) f_142_166 (by decide) ?_
    exact e_ireturn f_142_167 rt_142 (by decide) hV
  · have hc := x_ccf_eq hc
    rw [if_neg hc] at hV
    refine e_iconst (c := 1) f_142_156 (by decide) ?_
    refine e_iload f_142_157 rfl ?_
    refine e_isub f_142_158 ?_
    refine e_goto f_142_159 ?_
    obtain ⟨P2, hP2, hV⟩ := hV
    refine e_vv (n := 4) (A := [.ref 56, .int s1, .int s2, .int (1 - a3)]) (R := []) f_142_163 na_141 rfl rfl (Nat.le_of_ble_eq_true rfl) (Nat.le_of_ble_eq_true rfl) (by rw [ml_141]; exact Nat.le_of_ble_eq_true rfl) rfl (by rw [cy_141]; decide) (by rw [cy_141]; exact (by decide : x_tg 56 = 6)) hP2 (fun S2 hp2 => ?_)
    have hV := hV S2 hp2
    refine e_iconst (c := 1) f_142_166 (by decide) ?_
    exact e_ireturn f_142_167 rt_142 (by decide) hV
set_option maxRecDepth 20000 in
theorem T_143_0 {xs : List Int32} {d : Nat} {S : x_M} {Q : Option Value → x_M → Prop} {a1 : Int32} {a2 : Int32} {a3 : Int32}  (hV : ∃ P1 : Int32 → x_M → Prop, x_Ci xs d 125 [.ref 56, .int a1] S P1 ∧ ∀ (v1 : Int32) (S1 : x_M), P1 v1 S1 → (if v1 = 0 then (Q (some (.int (-1000001))) S1) else (∃ P2 : Int32 → x_M → Prop, x_Ci xs d 126 [.int a2] S1 P2 ∧ ∀ (v2 : Int32) (S2 : x_M), P2 v2 S2 → (if v2 = 0 then (Q (some (.int (-1000001))) S2) else (∃ P3 : Int32 → x_M → Prop, x_Ci xs d 101 [.long (Int32.toInt64 a3), .long 0, .long 1] S2 P3 ∧ ∀ (v3 : Int32) (S3 : x_M), P3 v3 S3 → (if v3 = 0 then (Q (some (.int (-1000001))) S3) else (∃ P4 : Int32 → x_M → Prop, x_Ci xs d 131 [.ref 56, .int a1] S3 P4 ∧ ∀ (v4 : Int32) (S4 : x_M), P4 v4 S4 → (if v4 = 0 then (Q (some (.int (-1000002))) S4) else ((x_ib ((8 * a1) + a2) 112) ∧ (∃ P5 : Int32 → x_M → Prop, x_Ci xs d 129 [.ref 56, .int ((S4 57 25) &&& (S4 66 (Int32.toNatClampNeg ((8 * a1) + a2))))] S4 P5 ∧ ∀ (v5 : Int32) (S5 : x_M), P5 v5 S5 → (if ((S4 57 25) &&& (S4 66 (Int32.toNatClampNeg ((8 * a1) + a2)))) = 0 then (x_E xs (d + 1) 143 81 [.ref 56, .int a1, .int a2, .int a3, .int ((S4 57 25) &&& (S4 66 (Int32.toNatClampNeg ((8 * a1) + a2)))), .int v5, .null, .null, .null, .null, .null, .null] [.int 511] S5 Q) else (x_E xs (d + 1) 143 81 [.ref 56, .int a1, .int a2, .int a3, .int ((S4 57 25) &&& (S4 66 (Int32.toNatClampNeg ((8 * a1) + a2)))), .int v5, .null, .null, .null, .null, .null, .null] [.int ((S4 57 25) &&& (S4 66 (Int32.toNatClampNeg ((8 * a1) + a2))))] S5 Q)))))))))))) : x_E xs (d + 1) 143 0 [.ref 56, .int a1, .int a2, .int a3, .null, .null, .null, .null, .null, .null, .null, .null] [] S Q := by
  refine e_aload f_143_0 rfl (by decide) ?_
  refine e_iload f_143_1 rfl ?_
  obtain ⟨P1, hP1, hV⟩ := hV
  refine e_vi (n := 2) (A := [.ref 56, .int a1]) (R := []) f_143_2 na_125 rfl rfl (Nat.le_of_ble_eq_true rfl) (Nat.le_of_ble_eq_true rfl) (by rw [ml_125]; exact Nat.le_of_ble_eq_true rfl) rfl (by rw [cy_125]; decide) (by rw [cy_125]; exact (by decide : x_tg 56 = 6)) hP1 (fun v1 S1 hp1 => ?_)
  have hV := hV v1 S1 hp1
  refine e_if f_143_5 (fun hc => ?_) (fun hc => ?_)
  · have hc := x_cct_eq hc
    rw [if_pos hc] at hV
    refine e_iconst (c := (-1000001)) f_143_25 (by decide) ?_
    exact e_ireturn f_143_27 rt_143 rfl hV
  · have hc := x_ccf_eq hc
    rw [if_neg hc] at hV
    refine e_iload f_143_8 rfl ?_
    obtain ⟨P2, hP2, hV⟩ := hV
    refine e_si (n := 1) (A := [.int a2]) (R := []) f_143_9 na_126 rfl rfl (Nat.le_of_ble_eq_true rfl) (Nat.le_of_ble_eq_true rfl) (by rw [ml_126]; exact Nat.le_of_ble_eq_true rfl) hP2 (fun v2 S2 hp2 => ?_)
    have hV := hV v2 S2 hp2
    refine e_if f_143_12 (fun hc => ?_) (fun hc => ?_)
    · have hc := x_cct_eq hc
      rw [if_pos hc] at hV
      refine e_iconst (c := (-1000001)) f_143_25 (by decide) ?_
      exact e_ireturn f_143_27 rt_143 rfl hV
    · have hc := x_ccf_eq hc
      rw [if_neg hc] at hV
      refine e_iload f_143_15 rfl ?_
      refine e_i2l f_143_16 ?_
      refine e_lconst (c := 0) f_143_17 (by decide) ?_
      refine e_lconst (c := 1) f_143_18 (by decide) ?_
      obtain ⟨P3, hP3, hV⟩ := hV
      refine e_si (n := 3) (A := [.long (Int32.toInt64 a3), .long 0, .long 1]) (R := []) f_143_19 na_101 rfl rfl (Nat.le_of_ble_eq_true rfl) (Nat.le_of_ble_eq_true rfl) (by rw [ml_101]; exact Nat.le_of_ble_eq_true rfl) hP3 (fun v3 S3 hp3 => ?_)
      have hV := hV v3 S3 hp3
      refine e_if f_143_22 (fun hc => ?_) (fun hc => ?_)
      · have hc := x_cct_ne hc
        rw [if_neg hc] at hV
        refine e_aload f_143_28 rfl (by decide) ?_
        refine e_iload f_143_29 rfl ?_
        obtain ⟨P4, hP4, hV⟩ := hV
        refine e_vi (n := 2) (A := [.ref 56, .int a1]) (R := []) f_143_30 na_131 rfl rfl (Nat.le_of_ble_eq_true rfl) (Nat.le_of_ble_eq_true rfl) (by rw [ml_131]; exact Nat.le_of_ble_eq_true rfl) rfl (by rw [cy_131]; decide) (by rw [cy_131]; exact (by decide : x_tg 56 = 6)) hP4 (fun v4 S4 hp4 => ?_)
        have hV := hV v4 S4 hp4
        refine e_if f_143_33 (fun hc => ?_) (fun hc => ?_)
        · have hc := x_cct_ne hc
          rw [if_neg hc] at hV
          refine e_aload f_143_39 rfl (by decide) ?_
          refine e_gr (c := 6) (j := 0) (r := 57) f_143_40 (by decide) (by decide) (by decide) (by decide) ?_
          refine e_iconst (c := 25) f_143_43 (by decide) ?_
          refine e_iak (n := 99) (kk := 25) f_143_45 (by decide) (by decide) (by decide) ?_
          refine e_aload f_143_46 rfl (by decide) ?_
          refine e_gr (c := 6) (j := 17) (r := 66) f_143_47 (by decide) (by decide) (by decide) (by decide) ?_
          refine e_iconst (c := 8) f_143_50 (by decide) ?_
          refine e_iload f_143_52 rfl ?_
          refine e_imul f_143_53 ?_
          refine e_iload f_143_54 rfl ?_
          refine e_iadd f_143_55 ?_
          obtain ⟨hg, hV⟩ := hV
          refine e_ia (n := 112) f_143_56 (by decide) (by decide) hg ?_
          refine e_iand f_143_57 ?_
          refine e_istore (L' := [.ref 56, .int a1, .int a2, .int a3, .int ((S4 57 25) &&& (S4 66 (Int32.toNatClampNeg ((8 * a1) + a2)))), .null, .null, .null, .null, .null, .null, .null]) f_143_58 (Nat.le_of_ble_eq_true rfl) rfl ?_
          refine e_aload f_143_60 rfl (by decide) ?_
          refine e_iload f_143_61 rfl ?_
          obtain ⟨P5, hP5, hV⟩ := hV
          refine e_vi (n := 2) (A := [.ref 56, .int ((S4 57 25) &&& (S4 66 (Int32.toNatClampNeg ((8 * a1) + a2))))]) (R := []) f_143_63 na_129 rfl rfl (Nat.le_of_ble_eq_true rfl) (Nat.le_of_ble_eq_true rfl) (by rw [ml_129]; exact Nat.le_of_ble_eq_true rfl) rfl (by rw [cy_129]; decide) (by rw [cy_129]; exact (by decide : x_tg 56 = 6)) hP5 (fun v5 S5 hp5 => ?_)
          have hV := hV v5 S5 hp5
          refine e_istore (L' := [.ref 56, .int a1, .int a2, .int a3, .int ((S4 57 25) &&& (S4 66 (Int32.toNatClampNeg ((8 * a1) + a2)))), .int v5, .null, .null, .null, .null, .null, .null]) f_143_66 (Nat.le_of_ble_eq_true rfl) rfl ?_
          refine e_iload f_143_68 rfl ?_
          refine e_if f_143_70 (fun hc => ?_) (fun hc => ?_)
          · have hc := x_cct_ne hc
            rw [if_neg hc] at hV
            refine e_iload f_143_79 rfl ?_
            exact hV
          · have hc := x_ccf_ne hc
            rw [if_pos hc] at hV
            refine e_iconst (c := 511) f_143_73 (by decide) ?_
            refine e_goto f_143_76 ?_
            exact hV
        · have hc := x_ccf_ne hc
          rw [if_pos hc] at hV
          refine e_iconst (c := (-1000002)) f_143_36 (by decide) ?_
          exact e_ireturn f_143_38 rt_143 rfl hV
      · have hc := x_ccf_ne hc
        rw [if_pos hc] at hV
        refine e_iconst (c := (-1000001)) f_143_25 (by decide) ?_
        exact e_ireturn f_143_27 rt_143 rfl hV
set_option maxRecDepth 20000 in
theorem T_143_81 {xs : List Int32} {d : Nat} {S : x_M} {Q : Option Value → x_M → Prop} {a1 : Int32} {a2 : Int32} {a3 : Int32} {a4 : Int32} {a5 : Int32} {s0 : Int32}  (hV : (x_ib (31 - (S 57 27)) 99) ∧ (x_E xs (d + 1) 143 109 [.ref 56, .int a1, .int a2, .int a3, .int s0, .int a5, .int (S 57 (Int32.toNatClampNeg (31 - (S 57 27)))), .int 0, .int 0, .int 0, .null, .null] [] S Q)) : x_E xs (d + 1) 143 81 [.ref 56, .int a1, .int a2, .int a3, .int a4, .int a5, .null, .null, .null, .null, .null, .null] [.int s0] S Q := by
  refine e_istore (L' := [.ref 56, .int a1, .int a2, .int a3, .int s0, .int a5, .null, .null, .null, .null, .null, .null]) f_143_81 (Nat.le_of_ble_eq_true rfl) rfl ?_
  refine e_aload f_143_83 rfl (by decide) ?_
  refine e_gr (c := 6) (j := 0) (r := 57) f_143_84 (by decide) (by decide) (by decide) (by decide) ?_
  refine e_iconst (c := 31) f_143_87 (by decide) ?_
  refine e_aload f_143_89 rfl (by decide) ?_
  refine e_gr (c := 6) (j := 0) (r := 57) f_143_90 (by decide) (by decide) (by decide) (by decide) ?_
  refine e_iconst (c := 27) f_143_93 (by decide) ?_
  refine e_iak (n := 99) (kk := 27) f_143_95 (by decide) (by decide) (by decide) ?_
  refine e_isub f_143_96 ?_
  obtain ⟨hg, hV⟩ := hV
  refine e_ia (n := 99) f_143_97 (by decide) (by decide) hg ?_
  refine e_istore (L' := [.ref 56, .int a1, .int a2, .int a3, .int s0, .int a5, .int (S 57 (Int32.toNatClampNeg (31 - (S 57 27)))), .null, .null, .null, .null, .null]) f_143_98 (Nat.le_of_ble_eq_true rfl) rfl ?_
  refine e_iconst (c := 0) f_143_100 (by decide) ?_
  refine e_istore (L' := [.ref 56, .int a1, .int a2, .int a3, .int s0, .int a5, .int (S 57 (Int32.toNatClampNeg (31 - (S 57 27)))), .int 0, .null, .null, .null, .null]) f_143_101 (Nat.le_of_ble_eq_true rfl) rfl ?_
  refine e_iconst (c := 0) f_143_103 (by decide) ?_
  refine e_istore (L' := [.ref 56, .int a1, .int a2, .int a3, .int s0, .int a5, .int (S 57 (Int32.toNatClampNeg (31 - (S 57 27)))), .int 0, .int 0, .null, .null, .null]) f_143_104 (Nat.le_of_ble_eq_true rfl) rfl ?_
  refine e_iconst (c := 0) f_143_106 (by decide) ?_
  refine e_istore (L' := [.ref 56, .int a1, .int a2, .int a3, .int s0, .int a5, .int (S 57 (Int32.toNatClampNeg (31 - (S 57 27)))), .int 0, .int 0, .int 0, .null, .null]) f_143_107 (Nat.le_of_ble_eq_true rfl) rfl ?_
  exact hV
set_option maxRecDepth 20000 in
theorem T_143_109 {xs : List Int32} {d : Nat} {S : x_M} {Q : Option Value → x_M → Prop} {a1 : Int32} {a2 : Int32} {a3 : Int32} {a4 : Int32} {a5 : Int32} {a6 : Int32} {a7 : Int32} {a8 : Int32} {a9 : Int32}  (hV : if (8 * (S 57 1)) ≤ a9 then (if a8 = 0 then (if a8 = 0 then (x_E xs (d + 1) 143 195 [.ref 56, .int a1, .int a2, .int a3, .int a4, .int a5, .int a6, .int a7, .int a8, .int a5, .null, .null] [.int 1] S Q) else (x_E xs (d + 1) 143 195 [.ref 56, .int a1, .int a2, .int a3, .int a4, .int a5, .int a6, .int a7, .int a8, .int a5, .null, .null] [.int a8] S Q)) else (if a8 = 0 then (x_E xs (d + 1) 143 195 [.ref 56, .int a1, .int a2, .int a3, .int a4, .int a5, .int a6, .int a7, .int a8, .int ((a5 * a8) - a7), .null, .null] [.int 1] S Q) else (x_E xs (d + 1) 143 195 [.ref 56, .int a1, .int a2, .int a3, .int a4, .int a5, .int a6, .int a7, .int a8, .int ((a5 * a8) - a7), .null, .null] [.int a8] S Q))) else (∃ P1 : Int32 → x_M → Prop, x_Ci xs d 122 [.int a6, .int (a9 / 8)] S P1 ∧ ∀ (v1 : Int32) (S1 : x_M), P1 v1 S1 → (if v1 = 0 then (x_E xs (d + 1) 143 109 [.ref 56, .int a1, .int a2, .int a3, .int a4, .int a5, .int a6, .int a7, .int a8, .int (a9 + 1), .null, .null] [] S1 Q) else ((x_ib a9 112) ∧ (∃ P2 : Int32 → x_M → Prop, x_Ci xs d 129 [.ref 56, .int (a4 &&& (S1 66 (Int32.toNatClampNeg a9)))] S1 P2 ∧ ∀ (v2 : Int32) (S2 : x_M), P2 v2 S2 → (x_E xs (d + 1) 143 109 [.ref 56, .int a1, .int a2, .int a3, .int a4, .int a5, .int a6, .int (a7 + v2), .int (a8 + 1), .int (a9 + 1), .null, .null] [] S2 Q)))))) : x_E xs (d + 1) 143 109 [.ref 56, .int a1, .int a2, .int a3, .int a4, .int a5, .int a6, .int a7, .int a8, .int a9, .null, .null] [] S Q := by
  refine e_iload f_143_109 rfl ?_
  refine e_iconst (c := 8) f_143_111 (by decide) ?_
  refine e_aload f_143_113 rfl (by decide) ?_
  refine e_gr (c := 6) (j := 0) (r := 57) f_143_114 (by decide) (by decide) (by decide) (by decide) ?_
  refine e_iconst (c := 1) f_143_117 (by decide) ?_
  refine e_iak (n := 99) (kk := 1) f_143_118 (by decide) (by decide) (by decide) ?_
  refine e_imul f_143_119 ?_
  refine e_icmp f_143_120 (fun hc => ?_) (fun hc => ?_)
  · have hc := x_cct_ge hc
    rw [if_pos hc] at hV
    refine e_iload f_143_164 rfl ?_
    refine e_if f_143_166 (fun hc => ?_) (fun hc => ?_)
    · have hc := x_cct_ne hc
      rw [if_neg hc] at hV
      refine e_iload f_143_174 rfl ?_
      refine e_iload f_143_176 rfl ?_
      refine e_imul f_143_178 ?_
      refine e_iload f_143_179 rfl ?_
      refine e_isub f_143_181 ?_
      refine e_istore (L' := [.ref 56, .int a1, .int a2, .int a3, .int a4, .int a5, .int a6, .int a7, .int a8, .int ((a5 * a8) - a7), .null, .null]) f_143_182 (Nat.le_of_ble_eq_true rfl) rfl ?_
      refine e_iload f_143_184 rfl ?_
      refine e_if f_143_186 (fun hc => ?_) (fun hc => ?_)
      · have hc := x_cct_ne hc
        rw [if_neg hc] at hV
        refine e_iload f_143_193 rfl ?_
        exact hV
      · have hc := x_ccf_ne hc
        rw [if_pos hc] at hV
        refine e_iconst (c := 1) f_143_189 (by decide) ?_
        refine e_goto f_143_190 ?_
        exact hV
    · have hc := x_ccf_ne hc
      rw [if_pos hc] at hV
      refine e_iload f_143_169 rfl ?_
      refine e_goto f_143_171 ?_
      refine e_istore (L' := [.ref 56, .int a1, .int a2, .int a3, .int a4, .int a5, .int a6, .int a7, .int a8, .int a5, .null, .null]) f_143_182 (Nat.le_of_ble_eq_true rfl) rfl ?_
      refine e_iload f_143_184 rfl ?_
      refine e_if f_143_186 (fun hc => ?_) (fun hc => ?_)
      · have hc := x_cct_ne hc
        rw [if_neg hc] at hV
        refine e_iload f_143_193 rfl ?_
        exact hV
      · have hc := x_ccf_ne hc
        rw [if_pos hc] at hV
        refine e_iconst (c := 1) f_143_189 (by decide) ?_
        refine e_goto f_143_190 ?_
        exact hV
  · have hc := x_ccf_ge hc
    rw [if_neg hc] at hV
    refine e_iload f_143_123 rfl ?_
    refine e_iload f_143_125 rfl ?_
    refine e_iconst (c := 8) f_143_127 (by decide) ?_
    refine e_idiv f_143_129 (by decide) ?_
    obtain ⟨P1, hP1, hV⟩ := hV
    refine e_si (n := 2) (A := [.int a6, .int (a9 / 8)]) (R := []) f_143_130 na_122 rfl rfl (Nat.le_of_ble_eq_true rfl) (Nat.le_of_ble_eq_true rfl) (by rw [ml_122]; exact Nat.le_of_ble_eq_true rfl) hP1 (fun v1 S1 hp1 => ?_)
    have hV := hV v1 S1 hp1
    refine e_if f_143_133 (fun hc => ?_) (fun hc => ?_)
    · have hc := x_cct_eq hc
      rw [if_pos hc] at hV
      refine e_inc (c := 1) (L' := [.ref 56, .int a1, .int a2, .int a3, .int a4, .int a5, .int a6, .int a7, .int a8, .int (a9 + 1), .null, .null]) f_143_158 rfl (by decide) rfl ?_
      refine e_goto f_143_161 ?_
      exact hV
    · have hc := x_ccf_eq hc
      rw [if_neg hc] at hV
      refine e_iload f_143_136 rfl ?_
      refine e_aload f_143_138 rfl (by decide) ?_
      refine e_iload f_143_139 rfl ?_
      refine e_aload f_143_141 rfl (by decide) ?_
      refine e_gr (c := 6) (j := 17) (r := 66) f_143_142 (by decide) (by decide) (by decide) (by decide) ?_
      refine e_iload f_143_145 rfl ?_
      obtain ⟨hg, hV⟩ := hV
      refine e_ia (n := 112) f_143_147 (by decide) (by decide) hg ?_
      refine e_iand f_143_148 ?_
      obtain ⟨P2, hP2, hV⟩ := hV
      refine e_vi (n := 2) (A := [.ref 56, .int (a4 &&& (S1 66 (Int32.toNatClampNeg a9)))]) (R := [.int a7]) f_143_149 na_129 rfl rfl (Nat.le_of_ble_eq_true rfl) (Nat.le_of_ble_eq_true rfl) (by rw [ml_129]; exact Nat.le_of_ble_eq_true rfl) rfl (by rw [cy_129]; decide) (by rw [cy_129]; exact (by decide : x_tg 56 = 6)) hP2 (fun v2 S2 hp2 => ?_)
      have hV := hV v2 S2 hp2
      refine e_iadd f_143_152 ?_
      refine e_istore (L' := [.ref 56, .int a1, .int a2, .int a3, .int a4, .int a5, .int a6, .int (a7 + v2), .int a8, .int a9, .null, .null]) f_143_153 (Nat.le_of_ble_eq_true rfl) rfl ?_
      refine e_inc (c := 1) (L' := [.ref 56, .int a1, .int a2, .int a3, .int a4, .int a5, .int a6, .int (a7 + v2), .int (a8 + 1), .int a9, .null, .null]) f_143_155 rfl (by decide) rfl ?_
      refine e_inc (c := 1) (L' := [.ref 56, .int a1, .int a2, .int a3, .int a4, .int a5, .int a6, .int (a7 + v2), .int (a8 + 1), .int (a9 + 1), .null, .null]) f_143_158 rfl (by decide) rfl ?_
      refine e_goto f_143_161 ?_
      exact hV
set_option maxRecDepth 20000 in
theorem T_143_195 {xs : List Int32} {d : Nat} {S : x_M} {Q : Option Value → x_M → Prop} {a1 : Int32} {a2 : Int32} {a3 : Int32} {a4 : Int32} {a5 : Int32} {a6 : Int32} {a7 : Int32} {a8 : Int32} {a9 : Int32} {s0 : Int32}  (hV : ∃ P1 : Int32 → x_M → Prop, x_Ci xs d 144 [.int a9, .int s0] S P1 ∧ ∀ (v1 : Int32) (S1 : x_M), P1 v1 S1 → (if a3 = 0 then ((¬ v1 = 0) ∧ (Q (some (.int (a9 / v1))) S1)) else ((¬ v1 = 0) ∧ (Q (some (.int (s0 / v1))) S1)))) : x_E xs (d + 1) 143 195 [.ref 56, .int a1, .int a2, .int a3, .int a4, .int a5, .int a6, .int a7, .int a8, .int a9, .null, .null] [.int s0] S Q := by
  refine e_istore (L' := [.ref 56, .int a1, .int a2, .int a3, .int a4, .int a5, .int a6, .int a7, .int a8, .int a9, .int s0, .null]) f_143_195 (Nat.le_of_ble_eq_true rfl) rfl ?_
  refine e_iload f_143_197 rfl ?_
  refine e_iload f_143_199 rfl ?_
  obtain ⟨P1, hP1, hV⟩ := hV
  refine e_si (n := 2) (A := [.int a9, .int s0]) (R := []) f_143_201 na_144 rfl rfl (Nat.le_of_ble_eq_true rfl) (Nat.le_of_ble_eq_true rfl) (by rw [ml_144]; exact Nat.le_of_ble_eq_true rfl) hP1 (fun v1 S1 hp1 => ?_)
  have hV := hV v1 S1 hp1
  refine e_istore (L' := [.ref 56, .int a1, .int a2, .int a3, .int a4, .int a5, .int a6, .int a7, .int a8, .int a9, .int s0, .int v1]) f_143_204 (Nat.le_of_ble_eq_true rfl) rfl ?_
  refine e_iload f_143_206 rfl ?_
  refine e_if f_143_207 (fun hc => ?_) (fun hc => ?_)
  · have hc := x_cct_ne hc
    rw [if_neg hc] at hV
    refine e_iload f_143_218 rfl ?_
    refine e_iload f_143_220 rfl ?_
    obtain ⟨hg, hV⟩ := hV
    refine e_idiv f_143_222 hg ?_
    exact e_ireturn f_143_223 rt_143 rfl hV
  · have hc := x_ccf_ne hc
    rw [if_pos hc] at hV
    refine e_iload f_143_210 rfl ?_
    refine e_iload f_143_212 rfl ?_
    obtain ⟨hg, hV⟩ := hV
    refine e_idiv f_143_214 hg ?_
    refine e_goto f_143_215 ?_
    exact e_ireturn f_143_223 rt_143 rfl hV
set_option maxRecDepth 20000 in
theorem T_144_0 {xs : List Int32} {d : Nat} {S : x_M} {Q : Option Value → x_M → Prop} {a0 : Int32} {a1 : Int32}  (hV : if (0 : Int32) ≤ a0 then (x_E xs (d + 1) 144 13 [.int a0, .int a1, .int a0, .int a1, .null] [] S Q) else (x_E xs (d + 1) 144 13 [.int a0, .int a1, .int (-a0), .int a1, .null] [] S Q)) : x_E xs (d + 1) 144 0 [.int a0, .int a1, .null, .null, .null] [] S Q := by
  refine e_iload f_144_0 rfl ?_
  refine e_if f_144_1 (fun hc => ?_) (fun hc => ?_)
  · have hc := x_cct_ge hc
    rw [if_pos hc] at hV
    refine e_iload f_144_9 rfl ?_
    refine e_istore (L' := [.int a0, .int a1, .int a0, .null, .null]) f_144_10 (Nat.le_of_ble_eq_true rfl) rfl ?_
    refine e_iload f_144_11 rfl ?_
    refine e_istore (L' := [.int a0, .int a1, .int a0, .int a1, .null]) f_144_12 (Nat.le_of_ble_eq_true rfl) rfl ?_
    exact hV
  · have hc := x_ccf_ge hc
    rw [if_neg hc] at hV
    refine e_iload f_144_4 rfl ?_
    refine e_ineg f_144_5 ?_
    refine e_goto f_144_6 ?_
    refine e_istore (L' := [.int a0, .int a1, .int (-a0), .null, .null]) f_144_10 (Nat.le_of_ble_eq_true rfl) rfl ?_
    refine e_iload f_144_11 rfl ?_
    refine e_istore (L' := [.int a0, .int a1, .int (-a0), .int a1, .null]) f_144_12 (Nat.le_of_ble_eq_true rfl) rfl ?_
    exact hV
set_option maxRecDepth 20000 in
theorem T_144_13 {xs : List Int32} {d : Nat} {S : x_M} {Q : Option Value → x_M → Prop} {a0 : Int32} {a1 : Int32} {a2 : Int32} {a3 : Int32} {a4 : Value}  (hV : if a3 = 0 then (Q (some (.int a2)) S) else ((¬ a3 = 0) ∧ (x_E xs (d + 1) 144 13 [.int a0, .int a1, .int a3, .int (a2 - a2 / a3 * a3), .int (a2 - a2 / a3 * a3)] [] S Q))) : x_E xs (d + 1) 144 13 [.int a0, .int a1, .int a2, .int a3, a4] [] S Q := by
  refine e_iload f_144_13 rfl ?_
  refine e_if f_144_14 (fun hc => ?_) (fun hc => ?_)
  · have hc := x_cct_eq hc
    rw [if_pos hc] at hV
    refine e_iload f_144_30 rfl ?_
    exact e_ireturn f_144_31 rt_144 rfl hV
  · have hc := x_ccf_eq hc
    rw [if_neg hc] at hV
    refine e_iload f_144_17 rfl ?_
    refine e_iload f_144_18 rfl ?_
    obtain ⟨hg, hV⟩ := hV
    refine e_irem f_144_19 hg ?_
    refine e_istore (L' := [.int a0, .int a1, .int a2, .int a3, .int (a2 - a2 / a3 * a3)]) f_144_20 (Nat.le_of_ble_eq_true rfl) rfl ?_
    refine e_iload f_144_22 rfl ?_
    refine e_istore (L' := [.int a0, .int a1, .int a3, .int a3, .int (a2 - a2 / a3 * a3)]) f_144_23 (Nat.le_of_ble_eq_true rfl) rfl ?_
    refine e_iload f_144_24 rfl ?_
    refine e_istore (L' := [.int a0, .int a1, .int a3, .int (a2 - a2 / a3 * a3), .int (a2 - a2 / a3 * a3)]) f_144_26 (Nat.le_of_ble_eq_true rfl) rfl ?_
    refine e_goto f_144_27 ?_
    exact hV
set_option maxRecDepth 20000 in
theorem T_145_0 {xs : List Int32} {d : Nat} {S : x_M} {Q : Option Value → x_M → Prop} {a1 : Int32} {a2 : Int32}  (hV : if (S 57 0) = 0 then (Q (some (.int (-1000002))) S) else (∃ P1 : Int32 → x_M → Prop, x_Ci xs d 128 [.int a1] S P1 ∧ ∀ (v1 : Int32) (S1 : x_M), P1 v1 S1 → (if v1 = 0 then (Q (some (.int (-1000001))) S1) else (if (-1 : Int32) ≤ a2 then (∃ P2 : Int32 → x_M → Prop, x_Ci xs d 146 [.ref 56, .int a1] S1 P2 ∧ ∀ (v2 : Int32) (S2 : x_M), P2 v2 S2 → (if a2 = (-1) then (Q (some (.int v2)) S2) else (if v2 = (-1000000) then (Q (some (.int v2)) S2) else (if v2 ≤ a2 then (Q (some (.int (-1000000))) S2) else ((x_ib a2 3) ∧ (Q (some (.int (S2 74 (Int32.toNatClampNeg a2)))) S2)))))) else (Q (some (.int (-1000001))) S1))))) : x_E xs (d + 1) 145 0 [.ref 56, .int a1, .int a2, .null] [] S Q := by
  refine e_aload f_145_0 rfl (by decide) ?_
  refine e_gr (c := 6) (j := 0) (r := 57) f_145_1 (by decide) (by decide) (by decide) (by decide) ?_
  refine e_iconst (c := 0) f_145_4 (by decide) ?_
  refine e_iak (n := 99) (kk := 0) f_145_5 (by decide) (by decide) (by decide) ?_
  refine e_if f_145_6 (fun hc => ?_) (fun hc => ?_)
  · have hc := x_cct_ne hc
    rw [if_neg hc] at hV
    refine e_iload f_145_12 rfl ?_
    obtain ⟨P1, hP1, hV⟩ := hV
    refine e_si (n := 1) (A := [.int a1]) (R := []) f_145_13 na_128 rfl rfl (Nat.le_of_ble_eq_true rfl) (Nat.le_of_ble_eq_true rfl) (by rw [ml_128]; exact Nat.le_of_ble_eq_true rfl) hP1 (fun v1 S1 hp1 => ?_)
    have hV := hV v1 S1 hp1
    refine e_if f_145_16 (fun hc => ?_) (fun hc => ?_)
    · have hc := x_cct_eq hc
      rw [if_pos hc] at hV
      refine e_iconst (c := (-1000001)) f_145_24 (by decide) ?_
      exact e_ireturn f_145_26 rt_145 rfl hV
    · have hc := x_ccf_eq hc
      rw [if_neg hc] at hV
      refine e_iload f_145_19 rfl ?_
      refine e_iconst (c := (-1)) f_145_20 (by decide) ?_
      refine e_icmp f_145_21 (fun hc => ?_) (fun hc => ?_)
      · have hc := x_cct_ge hc
        rw [if_pos hc] at hV
        refine e_aload f_145_27 rfl (by decide) ?_
        refine e_iload f_145_28 rfl ?_
        obtain ⟨P2, hP2, hV⟩ := hV
        refine e_vi (n := 2) (A := [.ref 56, .int a1]) (R := []) f_145_29 na_146 rfl rfl (Nat.le_of_ble_eq_true rfl) (Nat.le_of_ble_eq_true rfl) (by rw [ml_146]; exact Nat.le_of_ble_eq_true rfl) rfl (by rw [cy_146]; decide) (by rw [cy_146]; exact (by decide : x_tg 56 = 6)) hP2 (fun v2 S2 hp2 => ?_)
        have hV := hV v2 S2 hp2
        refine e_istore (L' := [.ref 56, .int a1, .int a2, .int v2]) f_145_32 (Nat.le_of_ble_eq_true rfl) rfl ?_
        refine e_iload f_145_33 rfl ?_
        refine e_iconst (c := (-1)) f_145_34 (by decide) ?_
        refine e_icmp f_145_35 (fun hc => ?_) (fun hc => ?_)
        · have hc := x_cct_eq hc
          rw [if_pos hc] at hV
          refine e_iload f_145_44 rfl ?_
          refine e_goto f_145_45 ?_
          exact e_ireturn f_145_64 rt_145 rfl hV
        · have hc := x_ccf_eq hc
          rw [if_neg hc] at hV
          refine e_iload f_145_38 rfl ?_
          refine e_iconst (c := (-1000000)) f_145_39 (by decide) ?_
          refine e_icmp f_145_41 (fun hc => ?_) (fun hc => ?_)
          · have hc := x_cct_ne hc
            rw [if_neg hc] at hV
            refine e_iload f_145_48 rfl ?_
            refine e_iload f_145_49 rfl ?_
            refine e_icmp f_145_50 (fun hc => ?_) (fun hc => ?_)
            · have hc := x_cct_ge hc
              rw [if_pos hc] at hV
              refine e_iconst (c := (-1000000)) f_145_62 (by decide) ?_
              exact e_ireturn f_145_64 rt_145 rfl hV
            · have hc := x_ccf_ge hc
              rw [if_neg hc] at hV
              refine e_aload f_145_53 rfl (by decide) ?_
              refine e_gr (c := 6) (j := 26) (r := 74) f_145_54 (by decide) (by decide) (by decide) (by decide) ?_
              refine e_iload f_145_57 rfl ?_
              obtain ⟨hg, hV⟩ := hV
              refine e_ia (n := 3) f_145_58 (by decide) (by decide) hg ?_
              refine e_goto f_145_59 ?_
              exact e_ireturn f_145_64 rt_145 rfl hV
          · have hc := x_ccf_ne hc
            rw [if_pos hc] at hV
            refine e_iload f_145_44 rfl ?_
            refine e_goto f_145_45 ?_
            exact e_ireturn f_145_64 rt_145 rfl hV
      · have hc := x_ccf_ge hc
        rw [if_neg hc] at hV
        refine e_iconst (c := (-1000001)) f_145_24 (by decide) ?_
        exact e_ireturn f_145_26 rt_145 rfl hV
  · have hc := x_ccf_ne hc
    rw [if_pos hc] at hV
    refine e_iconst (c := (-1000002)) f_145_9 (by decide) ?_
    exact e_ireturn f_145_11 rt_145 rfl hV
set_option maxRecDepth 20000 in
theorem T_146_0 {xs : List Int32} {d : Nat} {S : x_M} {Q : Option Value → x_M → Prop} {a1 : Int32}  (hV : if a1 = 511 then (Q (some (.int 0)) S) else (x_E xs (d + 1) 146 21 [.ref 56, .int a1, .int (8 * (S 57 1)), .int 0, .null, .null, .null] [] S Q)) : x_E xs (d + 1) 146 0 [.ref 56, .int a1, .null, .null, .null, .null, .null] [] S Q := by
  refine e_iconst (c := 8) f_146_0 (by decide) ?_
  refine e_aload f_146_2 rfl (by decide) ?_
  refine e_gr (c := 6) (j := 0) (r := 57) f_146_3 (by decide) (by decide) (by decide) (by decide) ?_
  refine e_iconst (c := 1) f_146_6 (by decide) ?_
  refine e_iak (n := 99) (kk := 1) f_146_7 (by decide) (by decide) (by decide) ?_
  refine e_imul f_146_8 ?_
  refine e_istore (L' := [.ref 56, .int a1, .int (8 * (S 57 1)), .null, .null, .null, .null]) f_146_9 (Nat.le_of_ble_eq_true rfl) rfl ?_
  refine e_iload f_146_10 rfl ?_
  refine e_iconst (c := 511) f_146_11 (by decide) ?_
  refine e_icmp f_146_14 (fun hc => ?_) (fun hc => ?_)
  · have hc := x_cct_ne hc
    rw [if_neg hc] at hV
    refine e_iconst (c := 0) f_146_19 (by decide) ?_
    refine e_istore (L' := [.ref 56, .int a1, .int (8 * (S 57 1)), .int 0, .null, .null, .null]) f_146_20 (Nat.le_of_ble_eq_true rfl) rfl ?_
    exact hV
  · have hc := x_ccf_ne hc
    rw [if_pos hc] at hV
    refine e_iconst (c := 0) f_146_17 (by decide) ?_
    exact e_ireturn f_146_18 rt_146 rfl hV
set_option maxRecDepth 20000 in
theorem T_146_21 {xs : List Int32} {d : Nat} {S : x_M} {Q : Option Value → x_M → Prop} {a1 : Int32} {a2 : Int32} {a3 : Int32}  (hV : if a2 ≤ a3 then (x_E xs (d + 1) 146 53 [.ref 56, .int a1, .int a2, .int 0, .null, .null, .null] [] S Q) else ((x_ib a3 112) ∧ (if (S 66 (Int32.toNatClampNeg a3)) = a1 then (∀ S1 : x_M, S1 = x_up S 74 0 a3 → (Q (some (.int 1)) S1)) else (x_E xs (d + 1) 146 21 [.ref 56, .int a1, .int a2, .int (a3 + 1), .null, .null, .null] [] S Q)))) : x_E xs (d + 1) 146 21 [.ref 56, .int a1, .int a2, .int a3, .null, .null, .null] [] S Q := by
  refine e_iload f_146_21 rfl ?_
  refine e_iload f_146_22 rfl ?_
  refine e_icmp f_146_23 (fun hc => ?_) (fun hc => ?_)
  · have hc := x_cct_ge hc
    rw [if_pos hc] at hV
    refine e_iconst (c := 0) f_146_51 (by decide) ?_
    refine e_istore (L' := [.ref 56, .int a1, .int a2, .int 0, .null, .null, .null]) f_146_52 (Nat.le_of_ble_eq_true rfl) rfl ?_
    exact hV
  · have hc := x_ccf_ge hc
    rw [if_neg hc] at hV
    refine e_aload f_146_26 rfl (by decide) ?_
    refine e_gr (c := 6) (j := 17) (r := 66) f_146_27 (by decide) (by decide) (by decide) (by decide) ?_
    refine e_iload f_146_30 rfl ?_
    obtain ⟨hg, hV⟩ := hV
    refine e_ia (n := 112) f_146_31 (by decide) (by decide) hg ?_
    refine e_iload f_146_32 rfl ?_
    refine e_icmp f_146_33 (fun hc => ?_) (fun hc => ?_)
    · have hc := x_cct_ne hc
      rw [if_neg hc] at hV
      refine e_inc (c := 1) (L' := [.ref 56, .int a1, .int a2, .int (a3 + 1), .null, .null, .null]) f_146_45 rfl (by decide) rfl ?_
      refine e_goto f_146_48 ?_
      exact hV
    · have hc := x_ccf_ne hc
      rw [if_pos hc] at hV
      refine e_aload f_146_36 rfl (by decide) ?_
      refine e_gr (c := 6) (j := 26) (r := 74) f_146_37 (by decide) (by decide) (by decide) (by decide) ?_
      refine e_iconst (c := 0) f_146_40 (by decide) ?_
      refine e_iload f_146_41 rfl ?_
      refine e_iskn (n := 3) (kk := 0) f_146_42 (by decide) (by decide) (by decide) (fun S1 hS1 => ?_)
      have hV := hV S1 hS1
      refine e_iconst (c := 1) f_146_43 (by decide) ?_
      exact e_ireturn f_146_44 rt_146 rfl hV
set_option maxRecDepth 20000 in
theorem T_146_53 {xs : List Int32} {d : Nat} {S : x_M} {Q : Option Value → x_M → Prop} {a1 : Int32} {a2 : Int32} {a3 : Int32} {a4 : Value}  (hV : if a2 ≤ a3 then (x_E xs (d + 1) 146 119 [.ref 56, .int a1, .int a2, .int 0, a4, .null, .null] [] S Q) else (∃ P1 : Int32 → x_M → Prop, x_Ci xs d 147 [.int a3] S P1 ∧ ∀ (v1 : Int32) (S1 : x_M), P1 v1 S1 → (x_E xs (d + 1) 146 64 [.ref 56, .int a1, .int a2, .int a3, .int v1, .null, .null] [] S1 Q))) : x_E xs (d + 1) 146 53 [.ref 56, .int a1, .int a2, .int a3, a4, .null, .null] [] S Q := by
  refine e_iload f_146_53 rfl ?_
  refine e_iload f_146_54 rfl ?_
  refine e_icmp f_146_55 (fun hc => ?_) (fun hc => ?_)
  · have hc := x_cct_ge hc
    rw [if_pos hc] at hV
    refine e_iconst (c := 0) f_146_117 (by decide) ?_
    refine e_istore (L' := [.ref 56, .int a1, .int a2, .int 0, a4, .null, .null]) f_146_118 (Nat.le_of_ble_eq_true rfl) rfl ?_
    exact hV
  · have hc := x_ccf_ge hc
    rw [if_neg hc] at hV
    refine e_iload f_146_58 rfl ?_
    obtain ⟨P1, hP1, hV⟩ := hV
    refine e_si (n := 1) (A := [.int a3]) (R := []) f_146_59 na_147 rfl rfl (Nat.le_of_ble_eq_true rfl) (Nat.le_of_ble_eq_true rfl) (by rw [ml_147]; exact Nat.le_of_ble_eq_true rfl) hP1 (fun v1 S1 hp1 => ?_)
    have hV := hV v1 S1 hp1
    refine e_istore (L' := [.ref 56, .int a1, .int a2, .int a3, .int v1, .null, .null]) f_146_62 (Nat.le_of_ble_eq_true rfl) rfl ?_
    exact hV
set_option maxRecDepth 20000 in
theorem T_146_64 {xs : List Int32} {d : Nat} {S : x_M} {Q : Option Value → x_M → Prop} {a1 : Int32} {a2 : Int32} {a3 : Int32} {a4 : Int32}  (hV : if a2 ≤ a4 then (x_E xs (d + 1) 146 53 [.ref 56, .int a1, .int a2, .int (a3 + 1), .int a4, .null, .null] [] S Q) else ((x_ib a3 112) ∧ ((x_ib a4 112) ∧ (if ((S 66 (Int32.toNatClampNeg a3)) &&& (S 66 (Int32.toNatClampNeg a4))) = a1 then (∀ S1 : x_M, S1 = x_up S 74 0 a3 → (∀ S2 : x_M, S2 = x_up S1 74 1 a4 → (Q (some (.int 2)) S2))) else (x_E xs (d + 1) 146 64 [.ref 56, .int a1, .int a2, .int a3, .int (a4 + 1), .null, .null] [] S Q))))) : x_E xs (d + 1) 146 64 [.ref 56, .int a1, .int a2, .int a3, .int a4, .null, .null] [] S Q := by
  refine e_iload f_146_64 rfl ?_
  refine e_iload f_146_66 rfl ?_
  refine e_icmp f_146_67 (fun hc => ?_) (fun hc => ?_)
  · have hc := x_cct_ge hc
    rw [if_pos hc] at hV
    refine e_inc (c := 1) (L' := [.ref 56, .int a1, .int a2, .int (a3 + 1), .int a4, .null, .null]) f_146_111 rfl (by decide) rfl ?_
    refine e_goto f_146_114 ?_
    exact hV
  · have hc := x_ccf_ge hc
    rw [if_neg hc] at hV
    refine e_aload f_146_70 rfl (by decide) ?_
    refine e_gr (c := 6) (j := 17) (r := 66) f_146_71 (by decide) (by decide) (by decide) (by decide) ?_
    refine e_iload f_146_74 rfl ?_
    obtain ⟨hg, hV⟩ := hV
    refine e_ia (n := 112) f_146_75 (by decide) (by decide) hg ?_
    refine e_aload f_146_76 rfl (by decide) ?_
    refine e_gr (c := 6) (j := 17) (r := 66) f_146_77 (by decide) (by decide) (by decide) (by decide) ?_
    refine e_iload f_146_80 rfl ?_
    obtain ⟨hg, hV⟩ := hV
    refine e_ia (n := 112) f_146_82 (by decide) (by decide) hg ?_
    refine e_iand f_146_83 ?_
    refine e_iload f_146_84 rfl ?_
    refine e_icmp f_146_85 (fun hc => ?_) (fun hc => ?_)
    · have hc := x_cct_ne hc
      rw [if_neg hc] at hV
      refine e_inc (c := 1) (L' := [.ref 56, .int a1, .int a2, .int a3, .int (a4 + 1), .null, .null]) f_146_105 rfl (by decide) rfl ?_
      refine e_goto f_146_108 ?_
      exact hV
    · have hc := x_ccf_ne hc
      rw [if_pos hc] at hV
      refine e_aload f_146_88 rfl (by decide) ?_
      refine e_gr (c := 6) (j := 26) (r := 74) f_146_89 (by decide) (by decide) (by decide) (by decide) ?_
      refine e_iconst (c := 0) f_146_92 (by decide) ?_
      refine e_iload f_146_93 rfl ?_
      refine e_iskn (n := 3) (kk := 0) f_146_94 (by decide) (by decide) (by decide) (fun S1 hS1 => ?_)
      have hV := hV S1 hS1
      refine e_aload f_146_95 rfl (by decide) ?_
      refine e_gr (c := 6) (j := 26) (r := 74) f_146_96 (by decide) (by decide) (by decide) (by decide) ?_
      refine e_iconst (c := 1) f_146_99 (by decide) ?_
      refine e_iload f_146_100 rfl ?_
      refine e_iskn (n := 3) (kk := 1) f_146_102 (by decide) (by decide) (by decide) (fun S2 hS2 => ?_)
      have hV := hV S2 hS2
      refine e_iconst (c := 2) f_146_103 (by decide) ?_
      exact e_ireturn f_146_104 rt_146 rfl hV
set_option maxRecDepth 20000 in
theorem T_146_119 {xs : List Int32} {d : Nat} {S : x_M} {Q : Option Value → x_M → Prop} {a1 : Int32} {a2 : Int32} {a3 : Int32} {a4 : Value} {a5 : Value} {a6 : Value}  (hV : if a2 ≤ a3 then (Q (some (.int (-1000000))) S) else (∃ P1 : Int32 → x_M → Prop, x_Ci xs d 147 [.int a3] S P1 ∧ ∀ (v1 : Int32) (S1 : x_M), P1 v1 S1 → (x_E xs (d + 1) 146 130 [.ref 56, .int a1, .int a2, .int a3, .int v1, a5, a6] [] S1 Q))) : x_E xs (d + 1) 146 119 [.ref 56, .int a1, .int a2, .int a3, a4, a5, a6] [] S Q := by
  refine e_iload f_146_119 rfl ?_
  refine e_iload f_146_120 rfl ?_
  refine e_icmp f_146_121 (fun hc => ?_) (fun hc => ?_)
  · have hc := x_cct_ge hc
    rw [if_pos hc] at hV
    refine e_iconst (c := (-1000000)) f_146_230 (by decide) ?_
    exact e_ireturn f_146_232 rt_146 rfl hV
  · have hc := x_ccf_ge hc
    rw [if_neg hc] at hV
    refine e_iload f_146_124 rfl ?_
    obtain ⟨P1, hP1, hV⟩ := hV
    refine e_si (n := 1) (A := [.int a3]) (R := []) f_146_125 na_147 rfl rfl (Nat.le_of_ble_eq_true rfl) (Nat.le_of_ble_eq_true rfl) (by rw [ml_147]; exact Nat.le_of_ble_eq_true rfl) hP1 (fun v1 S1 hp1 => ?_)
    have hV := hV v1 S1 hp1
    refine e_istore (L' := [.ref 56, .int a1, .int a2, .int a3, .int v1, a5, a6]) f_146_128 (Nat.le_of_ble_eq_true rfl) rfl ?_
    exact hV
set_option maxRecDepth 20000 in
theorem T_146_130 {xs : List Int32} {d : Nat} {S : x_M} {Q : Option Value → x_M → Prop} {a1 : Int32} {a2 : Int32} {a3 : Int32} {a4 : Int32} {a5 : Value} {a6 : Value}  (hV : if a2 ≤ a4 then (x_E xs (d + 1) 146 119 [.ref 56, .int a1, .int a2, .int (a3 + 1), .int a4, a5, a6] [] S Q) else ((x_ib a3 112) ∧ ((x_ib a4 112) ∧ (∃ P1 : Int32 → x_M → Prop, x_Ci xs d 147 [.int a4] S P1 ∧ ∀ (v1 : Int32) (S1 : x_M), P1 v1 S1 → (x_E xs (d + 1) 146 159 [.ref 56, .int a1, .int a2, .int a3, .int a4, .int ((S 66 (Int32.toNatClampNeg a3)) &&& (S 66 (Int32.toNatClampNeg a4))), .int v1] [] S1 Q))))) : x_E xs (d + 1) 146 130 [.ref 56, .int a1, .int a2, .int a3, .int a4, a5, a6] [] S Q := by
  refine e_iload f_146_130 rfl ?_
  refine e_iload f_146_132 rfl ?_
  refine e_icmp f_146_133 (fun hc => ?_) (fun hc => ?_)
  · have hc := x_cct_ge hc
    rw [if_pos hc] at hV
    refine e_inc (c := 1) (L' := [.ref 56, .int a1, .int a2, .int (a3 + 1), .int a4, a5, a6]) f_146_224 rfl (by decide) rfl ?_
    refine e_goto f_146_227 ?_
    exact hV
  · have hc := x_ccf_ge hc
    rw [if_neg hc] at hV
    refine e_aload f_146_136 rfl (by decide) ?_
    refine e_gr (c := 6) (j := 17) (r := 66) f_146_137 (by decide) (by decide) (by decide) (by decide) ?_
    refine e_iload f_146_140 rfl ?_
    obtain ⟨hg, hV⟩ := hV
    refine e_ia (n := 112) f_146_141 (by decide) (by decide) hg ?_
    refine e_aload f_146_142 rfl (by decide) ?_
    refine e_gr (c := 6) (j := 17) (r := 66) f_146_143 (by decide) (by decide) (by decide) (by decide) ?_
    refine e_iload f_146_146 rfl ?_
    obtain ⟨hg, hV⟩ := hV
    refine e_ia (n := 112) f_146_148 (by decide) (by decide) hg ?_
    refine e_iand f_146_149 ?_
    refine e_istore (L' := [.ref 56, .int a1, .int a2, .int a3, .int a4, .int ((S 66 (Int32.toNatClampNeg a3)) &&& (S 66 (Int32.toNatClampNeg a4))), a6]) f_146_150 (Nat.le_of_ble_eq_true rfl) rfl ?_
    refine e_iload f_146_152 rfl ?_
    obtain ⟨P1, hP1, hV⟩ := hV
    refine e_si (n := 1) (A := [.int a4]) (R := []) f_146_154 na_147 rfl rfl (Nat.le_of_ble_eq_true rfl) (Nat.le_of_ble_eq_true rfl) (by rw [ml_147]; exact Nat.le_of_ble_eq_true rfl) hP1 (fun v1 S1 hp1 => ?_)
    have hV := hV v1 S1 hp1
    refine e_istore (L' := [.ref 56, .int a1, .int a2, .int a3, .int a4, .int ((S 66 (Int32.toNatClampNeg a3)) &&& (S 66 (Int32.toNatClampNeg a4))), .int v1]) f_146_157 (Nat.le_of_ble_eq_true rfl) rfl ?_
    exact hV
set_option maxRecDepth 20000 in
theorem T_146_159 {xs : List Int32} {d : Nat} {S : x_M} {Q : Option Value → x_M → Prop} {a1 : Int32} {a2 : Int32} {a3 : Int32} {a4 : Int32} {a5 : Int32} {a6 : Int32}  (hV : if a2 ≤ a6 then (x_E xs (d + 1) 146 130 [.ref 56, .int a1, .int a2, .int a3, .int (a4 + 1), .int a5, .int a6] [] S Q) else (if (a5 &&& a1) = a1 then ((x_ib a6 112) ∧ (if (a5 &&& (S 66 (Int32.toNatClampNeg a6))) = a1 then (∀ S1 : x_M, S1 = x_up S 74 0 a3 → (∀ S2 : x_M, S2 = x_up S1 74 1 a4 → (∀ S3 : x_M, S3 = x_up S2 74 2 a6 → (Q (some (.int 3)) S3)))) else (x_E xs (d + 1) 146 159 [.ref 56, .int a1, .int a2, .int a3, .int a4, .int a5, .int (a6 + 1)] [] S Q))) else (x_E xs (d + 1) 146 130 [.ref 56, .int a1, .int a2, .int a3, .int (a4 + 1), .int a5, .int a6] [] S Q))) : x_E xs (d + 1) 146 159 [.ref 56, .int a1, .int a2, .int a3, .int a4, .int a5, .int a6] [] S Q := by
  refine e_iload f_146_159 rfl ?_
  refine e_iload f_146_161 rfl ?_
  refine e_icmp f_146_162 (fun hc => ?_) (fun hc => ?_)
  · have hc := x_cct_ge hc
    rw [if_pos hc] at hV
    refine e_inc (c := 1) (L' := [.ref 56, .int a1, .int a2, .int a3, .int (a4 + 1), .int a5, .int a6]) f_146_218 rfl (by decide) rfl ?_
    refine e_goto f_146_221 ?_
    exact hV
  · have hc := x_ccf_ge hc
    rw [if_neg hc] at hV
    refine e_iload f_146_165 rfl ?_
    refine e_iload f_146_167 rfl ?_
    refine e_iand f_146_168 ?_
    refine e_iload f_146_169 rfl ?_
    refine e_icmp f_146_170 (fun hc => ?_) (fun hc => ?_)
    · have hc := x_cct_ne hc
      rw [if_neg hc] at hV
      refine e_inc (c := 1) (L' := [.ref 56, .int a1, .int a2, .int a3, .int (a4 + 1), .int a5, .int a6]) f_146_218 rfl (by decide) rfl ?_
      refine e_goto f_146_221 ?_
      exact hV
    · have hc := x_ccf_ne hc
      rw [if_pos hc] at hV
      refine e_iload f_146_173 rfl ?_
      refine e_aload f_146_175 rfl (by decide) ?_
      refine e_gr (c := 6) (j := 17) (r := 66) f_146_176 (by decide) (by decide) (by decide) (by decide) ?_
      refine e_iload f_146_179 rfl ?_
      obtain ⟨hg, hV⟩ := hV
      refine e_ia (n := 112) f_146_181 (by decide) (by decide) hg ?_
      refine e_iand f_146_182 ?_
      refine e_iload f_146_183 rfl ?_
      refine e_icmp f_146_184 (fun hc => ?_) (fun hc => ?_)
      · have hc := x_cct_ne hc
        rw [if_neg hc] at hV
        refine e_inc (c := 1) (L' := [.ref 56, .int a1, .int a2, .int a3, .int a4, .int a5, .int (a6 + 1)]) f_146_212 rfl (by decide) rfl ?_
        refine e_goto f_146_215 ?_
        exact hV
      · have hc := x_ccf_ne hc
        rw [if_pos hc] at hV
        refine e_aload f_146_187 rfl (by decide) ?_
        refine e_gr (c := 6) (j := 26) (r := 74) f_146_188 (by decide) (by decide) (by decide) (by decide) ?_
        refine e_iconst (c := 0) f_146_191 (by decide) ?_
        refine e_iload f_146_192 rfl ?_
        refine e_iskn (n := 3) (kk := 0) f_146_193 (by decide) (by decide) (by decide) (fun S1 hS1 => ?_)
        have hV := hV S1 hS1
        refine e_aload f_146_194 rfl (by decide) ?_
        refine e_gr (c := 6) (j := 26) (r := 74) f_146_195 (by decide) (by decide) (by decide) (by decide) ?_
        refine e_iconst (c := 1) f_146_198 (by decide) ?_
        refine e_iload f_146_199 rfl ?_
        refine e_iskn (n := 3) (kk := 1) f_146_201 (by decide) (by decide) (by decide) (fun S2 hS2 => ?_)
        have hV := hV S2 hS2
        refine e_aload f_146_202 rfl (by decide) ?_
        refine e_gr (c := 6) (j := 26) (r := 74) f_146_203 (by decide) (by decide) (by decide) (by decide) ?_
        refine e_iconst (c := 2) f_146_206 (by decide) ?_
        refine e_iload f_146_207 rfl ?_
        refine e_iskn (n := 3) (kk := 2) f_146_209 (by decide) (by decide) (by decide) (fun S3 hS3 => ?_)
        have hV := hV S3 hS3
        refine e_iconst (c := 3) f_146_210 (by decide) ?_
        exact e_ireturn f_146_211 rt_146 rfl hV
set_option maxRecDepth 20000 in
theorem T_147_0 {xs : List Int32} {d : Nat} {S : x_M} {Q : Option Value → x_M → Prop} {a0 : Int32}  (hV : Q (some (.int (8 * ((a0 / 8) + 1)))) S) : x_E xs (d + 1) 147 0 [.int a0] [] S Q := by
  refine e_iconst (c := 8) f_147_0 (by decide) ?_
  refine e_iload f_147_2 rfl ?_
  refine e_iconst (c := 8) f_147_3 (by decide) ?_
  refine e_idiv f_147_5 (by decide) ?_
  refine e_iconst (c := 1) f_147_6 (by decide) ?_
  refine e_iadd f_147_7 ?_
  refine e_imul f_147_8 ?_
  exact e_ireturn f_147_9 rt_147 rfl hV
set_option maxRecDepth 20000 in
theorem T_148_0 {xs : List Int32} {d : Nat} {S : x_M} {Q : Option Value → x_M → Prop} {a1 : Int32}  (hV : if (S 57 0) = 0 then (Q (some (.int (-1000002))) S) else (if (-1 : Int32) ≤ a1 then (x_E xs (d + 1) 148 24 [.ref 56, .int a1, .int 0, .int 0, .null, .null] [] S Q) else (Q (some (.int (-1000001))) S))) : x_E xs (d + 1) 148 0 [.ref 56, .int a1, .null, .null, .null, .null] [] S Q := by
  refine e_aload f_148_0 rfl (by decide) ?_
  refine e_gr (c := 6) (j := 0) (r := 57) f_148_1 (by decide) (by decide) (by decide) (by decide) ?_
  refine e_iconst (c := 0) f_148_4 (by decide) ?_
  refine e_iak (n := 99) (kk := 0) f_148_5 (by decide) (by decide) (by decide) ?_
  refine e_if f_148_6 (fun hc => ?_) (fun hc => ?_)
  · have hc := x_cct_ne hc
    rw [if_neg hc] at hV
    refine e_iload f_148_12 rfl ?_
    refine e_iconst (c := (-1)) f_148_13 (by decide) ?_
    refine e_icmp f_148_14 (fun hc => ?_) (fun hc => ?_)
    · have hc := x_cct_ge hc
      rw [if_pos hc] at hV
      refine e_iconst (c := 0) f_148_20 (by decide) ?_
      refine e_istore (L' := [.ref 56, .int a1, .int 0, .null, .null, .null]) f_148_21 (Nat.le_of_ble_eq_true rfl) rfl ?_
      refine e_iconst (c := 0) f_148_22 (by decide) ?_
      refine e_istore (L' := [.ref 56, .int a1, .int 0, .int 0, .null, .null]) f_148_23 (Nat.le_of_ble_eq_true rfl) rfl ?_
      exact hV
    · have hc := x_ccf_ge hc
      rw [if_neg hc] at hV
      refine e_iconst (c := (-1000001)) f_148_17 (by decide) ?_
      exact e_ireturn f_148_19 rt_148 rfl hV
  · have hc := x_ccf_ne hc
    rw [if_pos hc] at hV
    refine e_iconst (c := (-1000002)) f_148_9 (by decide) ?_
    exact e_ireturn f_148_11 rt_148 rfl hV
set_option maxRecDepth 20000 in
theorem T_148_24 {xs : List Int32} {d : Nat} {S : x_M} {Q : Option Value → x_M → Prop} {a1 : Int32} {a2 : Int32} {a3 : Int32} {a4 : Value} {a5 : Value}  (hV : if (S 57 1) ≤ a3 then (if a1 = (-1) then (Q (some (.int a2)) S) else (Q (some (.int (-1000000))) S)) else (x_E xs (d + 1) 148 39 [.ref 56, .int a1, .int a2, .int a3, .int (a3 + 1), a5] [] S Q)) : x_E xs (d + 1) 148 24 [.ref 56, .int a1, .int a2, .int a3, a4, a5] [] S Q := by
  refine e_iload f_148_24 rfl ?_
  refine e_aload f_148_25 rfl (by decide) ?_
  refine e_gr (c := 6) (j := 0) (r := 57) f_148_26 (by decide) (by decide) (by decide) (by decide) ?_
  refine e_iconst (c := 1) f_148_29 (by decide) ?_
  refine e_iak (n := 99) (kk := 1) f_148_30 (by decide) (by decide) (by decide) ?_
  refine e_icmp f_148_31 (fun hc => ?_) (fun hc => ?_)
  · have hc := x_cct_ge hc
    rw [if_pos hc] at hV
    refine e_iload f_148_120 rfl ?_
    refine e_iconst (c := (-1)) f_148_121 (by decide) ?_
    refine e_icmp f_148_122 (fun hc => ?_) (fun hc => ?_)
    · have hc := x_cct_ne hc
      rw [if_neg hc] at hV
      refine e_iconst (c := (-1000000)) f_148_129 (by decide) ?_
      exact e_ireturn f_148_131 rt_148 rfl hV
    · have hc := x_ccf_ne hc
      rw [if_pos hc] at hV
      refine e_iload f_148_125 rfl ?_
      refine e_goto f_148_126 ?_
      exact e_ireturn f_148_131 rt_148 rfl hV
  · have hc := x_ccf_ge hc
    rw [if_neg hc] at hV
    refine e_iload f_148_34 rfl ?_
    refine e_iconst (c := 1) f_148_35 (by decide) ?_
    refine e_iadd f_148_36 ?_
    refine e_istore (L' := [.ref 56, .int a1, .int a2, .int a3, .int (a3 + 1), a5]) f_148_37 (Nat.le_of_ble_eq_true rfl) rfl ?_
    exact hV
set_option maxRecDepth 20000 in
theorem T_148_39 {xs : List Int32} {d : Nat} {S : x_M} {Q : Option Value → x_M → Prop} {a1 : Int32} {a2 : Int32} {a3 : Int32} {a4 : Int32} {a5 : Value}  (hV : if (S 57 1) ≤ a4 then (x_E xs (d + 1) 148 24 [.ref 56, .int a1, .int a2, .int (a3 + 1), .int a4, a5] [] S Q) else (x_E xs (d + 1) 148 56 [.ref 56, .int a1, .int a2, .int a3, .int a4, .int (a4 + 1)] [] S Q)) : x_E xs (d + 1) 148 39 [.ref 56, .int a1, .int a2, .int a3, .int a4, a5] [] S Q := by
  refine e_iload f_148_39 rfl ?_
  refine e_aload f_148_41 rfl (by decide) ?_
  refine e_gr (c := 6) (j := 0) (r := 57) f_148_42 (by decide) (by decide) (by decide) (by decide) ?_
  refine e_iconst (c := 1) f_148_45 (by decide) ?_
  refine e_iak (n := 99) (kk := 1) f_148_46 (by decide) (by decide) (by decide) ?_
  refine e_icmp f_148_47 (fun hc => ?_) (fun hc => ?_)
  · have hc := x_cct_ge hc
    rw [if_pos hc] at hV
    refine e_inc (c := 1) (L' := [.ref 56, .int a1, .int a2, .int (a3 + 1), .int a4, a5]) f_148_114 rfl (by decide) rfl ?_
    refine e_goto f_148_117 ?_
    exact hV
  · have hc := x_ccf_ge hc
    rw [if_neg hc] at hV
    refine e_iload f_148_50 rfl ?_
    refine e_iconst (c := 1) f_148_52 (by decide) ?_
    refine e_iadd f_148_53 ?_
    refine e_istore (L' := [.ref 56, .int a1, .int a2, .int a3, .int a4, .int (a4 + 1)]) f_148_54 (Nat.le_of_ble_eq_true rfl) rfl ?_
    exact hV
set_option maxRecDepth 20000 in
theorem T_148_56 {xs : List Int32} {d : Nat} {S : x_M} {Q : Option Value → x_M → Prop} {a1 : Int32} {a2 : Int32} {a3 : Int32} {a4 : Int32} {a5 : Int32}  (hV : if (S 57 1) ≤ a5 then (x_E xs (d + 1) 148 39 [.ref 56, .int a1, .int a2, .int a3, .int (a4 + 1), .int a5] [] S Q) else (∃ P1 : Int32 → x_M → Prop, x_Ci xs d 149 [.ref 56, .int a3, .int a4, .int a5] S P1 ∧ ∀ (v1 : Int32) (S1 : x_M), P1 v1 S1 → (if v1 = 0 then (x_E xs (d + 1) 148 56 [.ref 56, .int a1, .int a2, .int a3, .int a4, .int (a5 + 1)] [] S1 Q) else (if a2 = a1 then (Q (some (.int (((400 * a3) + (20 * a4)) + a5))) S1) else (x_E xs (d + 1) 148 56 [.ref 56, .int a1, .int (a2 + 1), .int a3, .int a4, .int (a5 + 1)] [] S1 Q))))) : x_E xs (d + 1) 148 56 [.ref 56, .int a1, .int a2, .int a3, .int a4, .int a5] [] S Q := by
  refine e_iload f_148_56 rfl ?_
  refine e_aload f_148_58 rfl (by decide) ?_
  refine e_gr (c := 6) (j := 0) (r := 57) f_148_59 (by decide) (by decide) (by decide) (by decide) ?_
  refine e_iconst (c := 1) f_148_62 (by decide) ?_
  refine e_iak (n := 99) (kk := 1) f_148_63 (by decide) (by decide) (by decide) ?_
  refine e_icmp f_148_64 (fun hc => ?_) (fun hc => ?_)
  · have hc := x_cct_ge hc
    rw [if_pos hc] at hV
    refine e_inc (c := 1) (L' := [.ref 56, .int a1, .int a2, .int a3, .int (a4 + 1), .int a5]) f_148_108 rfl (by decide) rfl ?_
    refine e_goto f_148_111 ?_
    exact hV
  · have hc := x_ccf_ge hc
    rw [if_neg hc] at hV
    refine e_aload f_148_67 rfl (by decide) ?_
    refine e_iload f_148_68 rfl ?_
    refine e_iload f_148_69 rfl ?_
    refine e_iload f_148_71 rfl ?_
    obtain ⟨P1, hP1, hV⟩ := hV
    refine e_vi (n := 4) (A := [.ref 56, .int a3, .int a4, .int a5]) (R := []) f_148_73 na_149 rfl rfl (Nat.le_of_ble_eq_true rfl) (Nat.le_of_ble_eq_true rfl) (by rw [ml_149]; exact Nat.le_of_ble_eq_true rfl) rfl (by rw [cy_149]; decide) (by rw [cy_149]; exact (by decide : x_tg 56 = 6)) hP1 (fun v1 S1 hp1 => ?_)
    have hV := hV v1 S1 hp1
    refine e_if f_148_76 (fun hc => ?_) (fun hc => ?_)
    · have hc := x_cct_eq hc
      rw [if_pos hc] at hV
      refine e_inc (c := 1) (L' := [.ref 56, .int a1, .int a2, .int a3, .int a4, .int (a5 + 1)]) f_148_102 rfl (by decide) rfl ?_
      refine e_goto f_148_105 ?_
      exact hV
    · have hc := x_ccf_eq hc
      rw [if_neg hc] at hV
      refine e_iload f_148_79 rfl ?_
      refine e_iload f_148_80 rfl ?_
      refine e_icmp f_148_81 (fun hc => ?_) (fun hc => ?_)
      · have hc := x_cct_ne hc
        rw [if_neg hc] at hV
        refine e_inc (c := 1) (L' := [.ref 56, .int a1, .int (a2 + 1), .int a3, .int a4, .int a5]) f_148_99 rfl (by decide) rfl ?_
        refine e_inc (c := 1) (L' := [.ref 56, .int a1, .int (a2 + 1), .int a3, .int a4, .int (a5 + 1)]) f_148_102 rfl (by decide) rfl ?_
        refine e_goto f_148_105 ?_
        exact hV
      · have hc := x_ccf_ne hc
        rw [if_pos hc] at hV
        refine e_iconst (c := 400) f_148_84 (by decide) ?_
        refine e_iload f_148_87 rfl ?_
        refine e_imul f_148_88 ?_
        refine e_iconst (c := 20) f_148_89 (by decide) ?_
        refine e_iload f_148_91 rfl ?_
        refine e_imul f_148_93 ?_
        refine e_iadd f_148_94 ?_
        refine e_iload f_148_95 rfl ?_
        refine e_iadd f_148_97 ?_
        exact e_ireturn f_148_98 rt_148 rfl hV
set_option maxRecDepth 20000 in
theorem T_149_0 {xs : List Int32} {d : Nat} {S : x_M} {Q : Option Value → x_M → Prop} {a1 : Int32} {a2 : Int32} {a3 : Int32}  (hV : x_E xs (d + 1) 149 6 [.ref 56, .int a1, .int a2, .int a3, .int 0, .int 0] [] S Q) : x_E xs (d + 1) 149 0 [.ref 56, .int a1, .int a2, .int a3, .null, .null] [] S Q := by
  refine e_iconst (c := 0) f_149_0 (by decide) ?_
  refine e_istore (L' := [.ref 56, .int a1, .int a2, .int a3, .int 0, .null]) f_149_1 (Nat.le_of_ble_eq_true rfl) rfl ?_
  refine e_iconst (c := 0) f_149_3 (by decide) ?_
  refine e_istore (L' := [.ref 56, .int a1, .int a2, .int a3, .int 0, .int 0]) f_149_4 (Nat.le_of_ble_eq_true rfl) rfl ?_
  exact hV
set_option maxRecDepth 20000 in
theorem T_149_6 {xs : List Int32} {d : Nat} {S : x_M} {Q : Option Value → x_M → Prop} {a1 : Int32} {a2 : Int32} {a3 : Int32} {a4 : Int32} {a5 : Int32}  (hV : if (64 : Int32) ≤ a5 then ((a4 = 0 ∨ a4 = 1) ∧ Q (some (.int a4)) S) else (if a4 = 0 then ((x_ib (8 * a1) 112) ∧ ((x_ib ((8 * a2) + (a5 / 8)) 112) ∧ ((x_ib ((8 * a3) + (a5 - a5 / 8 * 8)) 112) ∧ (if (((S 66 (Int32.toNatClampNeg (8 * a1))) &&& (S 66 (Int32.toNatClampNeg ((8 * a2) + (a5 / 8))))) &&& (S 66 (Int32.toNatClampNeg ((8 * a3) + (a5 - a5 / 8 * 8))))) = 0 then (x_E xs (d + 1) 149 6 [.ref 56, .int a1, .int a2, .int a3, .int 1, .int (a5 + 1)] [] S Q) else (x_E xs (d + 1) 149 6 [.ref 56, .int a1, .int a2, .int a3, .int 0, .int (a5 + 1)] [] S Q))))) else (x_E xs (d + 1) 149 6 [.ref 56, .int a1, .int a2, .int a3, .int 1, .int (a5 + 1)] [] S Q))) : x_E xs (d + 1) 149 6 [.ref 56, .int a1, .int a2, .int a3, .int a4, .int a5] [] S Q := by
  refine e_iload f_149_6 rfl ?_
  refine e_iconst (c := 64) f_149_8 (by decide) ?_
  refine e_icmp f_149_10 (fun hc => ?_) (fun hc => ?_)
  · have hc := x_cct_ge hc
    rw [if_pos hc] at hV
    refine e_iload f_149_75 rfl ?_
    obtain ⟨hg, hV⟩ := hV
    exact e_ireturn f_149_77 rt_149 (x_nz hg) hV
  · have hc := x_ccf_ge hc
    rw [if_neg hc] at hV
    refine e_iload f_149_13 rfl ?_
    refine e_if f_149_15 (fun hc => ?_) (fun hc => ?_)
    · have hc := x_cct_ne hc
      rw [if_neg hc] at hV
      refine e_iconst (c := 1) f_149_62 (by decide) ?_
      refine e_goto f_149_63 ?_
      refine e_istore (L' := [.ref 56, .int a1, .int a2, .int a3, .int 1, .int a5]) f_149_67 (Nat.le_of_ble_eq_true rfl) rfl ?_
      refine e_inc (c := 1) (L' := [.ref 56, .int a1, .int a2, .int a3, .int 1, .int (a5 + 1)]) f_149_69 rfl (by decide) rfl ?_
      refine e_goto f_149_72 ?_
      exact hV
    · have hc := x_ccf_ne hc
      rw [if_pos hc] at hV
      refine e_aload f_149_18 rfl (by decide) ?_
      refine e_gr (c := 6) (j := 17) (r := 66) f_149_19 (by decide) (by decide) (by decide) (by decide) ?_
      refine e_iconst (c := 8) f_149_22 (by decide) ?_
      refine e_iload f_149_24 rfl ?_
      refine e_imul f_149_25 ?_
      obtain ⟨hg, hV⟩ := hV
      refine e_ia (n := 112) f_149_26 (by decide) (by decide) hg ?_
      refine e_aload f_149_27 rfl (by decide) ?_
      refine e_gr (c := 6) (j := 17) (r := 66) f_149_28 (by decide) (by decide) (by decide) (by decide) ?_
      refine e_iconst (c := 8) f_149_31 (by decide) ?_
      refine e_iload f_149_33 rfl ?_
      refine e_imul f_149_34 ?_
      refine e_iload f_149_35 rfl ?_
      refine e_iconst (c := 8) f_149_37 (by decide) ?_
      refine e_idiv f_149_39 (by decide) ?_
      refine e_iadd f_149_40 ?_
      obtain ⟨hg, hV⟩ := hV
      refine e_ia (n := 112) f_149_41 (by decide) (by decide) hg ?_
      refine e_iand f_149_42 ?_
      refine e_aload f_149_43 rfl (by decide) ?_
      refine e_gr (c := 6) (j := 17) (r := 66) f_149_44 (by decide) (by decide) (by decide) (by decide) ?_
      refine e_iconst (c := 8) f_149_47 (by decide) ?_
      refine e_iload f_149_49 rfl ?_
      refine e_imul f_149_50 ?_
      refine e_iload f_149_51 rfl ?_
      refine e_iconst (c := 8) f_149_53 (by decide) ?_
      refine e_irem f_149_55 (by decide) ?_
      refine e_iadd f_149_56 ?_
      obtain ⟨hg, hV⟩ := hV
      refine e_ia (n := 112) f_149_57 (by decide) (by decide) hg ?_
      refine e_iand f_149_58 ?_
      refine e_if f_149_59 (fun hc => ?_) (fun hc => ?_)
      · have hc := x_cct_ne hc
        rw [if_neg hc] at hV
        refine e_iconst (c := 0) f_149_66 (by decide) ?_
        refine e_istore (L' := [.ref 56, .int a1, .int a2, .int a3, .int 0, .int a5]) f_149_67 (Nat.le_of_ble_eq_true rfl) rfl ?_
        refine e_inc (c := 1) (L' := [.ref 56, .int a1, .int a2, .int a3, .int 0, .int (a5 + 1)]) f_149_69 rfl (by decide) rfl ?_
        refine e_goto f_149_72 ?_
        exact hV
      · have hc := x_ccf_ne hc
        rw [if_pos hc] at hV
        refine e_iconst (c := 1) f_149_62 (by decide) ?_
        refine e_goto f_149_63 ?_
        refine e_istore (L' := [.ref 56, .int a1, .int a2, .int a3, .int 1, .int a5]) f_149_67 (Nat.le_of_ble_eq_true rfl) rfl ?_
        refine e_inc (c := 1) (L' := [.ref 56, .int a1, .int a2, .int a3, .int 1, .int (a5 + 1)]) f_149_69 rfl (by decide) rfl ?_
        refine e_goto f_149_72 ?_
        exact hV
set_option maxRecDepth 20000 in
theorem T_150_0 {xs : List Int32} {d : Nat} {S : x_M} {Q : Option Value → x_M → Prop} {a1 : Int32} {a2 : Int32}  (hV : ∃ P1 : Int32 → x_M → Prop, x_Ci xs d 125 [.ref 56, .int a1] S P1 ∧ ∀ (v1 : Int32) (S1 : x_M), P1 v1 S1 → (if v1 = 0 then (Q (some (.int (-1000001))) S1) else (∃ P2 : Int32 → x_M → Prop, x_Ci xs d 101 [.long (Int32.toInt64 a2), .long 0, .long 1] S1 P2 ∧ ∀ (v2 : Int32) (S2 : x_M), P2 v2 S2 → (if v2 = 0 then (Q (some (.int (-1000001))) S2) else (if a2 = 1 then (∃ P4 : Int32 → x_M → Prop, x_Ci xs d 151 [.ref 56, .int a1] S2 P4 ∧ ∀ (v4 : Int32) (S4 : x_M), P4 v4 S4 → (Q (some (.int v4)) S4)) else (∃ P3 : Int32 → x_M → Prop, x_Ci xs d 152 [.ref 56, .int a1] S2 P3 ∧ ∀ (v3 : Int32) (S3 : x_M), P3 v3 S3 → (x_E xs (d + 1) 150 44 [.ref 56, .int a1, .int a2, .int v3, .int 0, .int 0] [] S3 Q))))))) : x_E xs (d + 1) 150 0 [.ref 56, .int a1, .int a2, .null, .null, .null] [] S Q := by
  refine e_aload f_150_0 rfl (by decide) ?_
  refine e_iload f_150_1 rfl ?_
  obtain ⟨P1, hP1, hV⟩ := hV
  refine e_vi (n := 2) (A := [.ref 56, .int a1]) (R := []) f_150_2 na_125 rfl rfl (Nat.le_of_ble_eq_true rfl) (Nat.le_of_ble_eq_true rfl) (by rw [ml_125]; exact Nat.le_of_ble_eq_true rfl) rfl (by rw [cy_125]; decide) (by rw [cy_125]; exact (by decide : x_tg 56 = 6)) hP1 (fun v1 S1 hp1 => ?_)
  have hV := hV v1 S1 hp1
  refine e_if f_150_5 (fun hc => ?_) (fun hc => ?_)
  · have hc := x_cct_eq hc
    rw [if_pos hc] at hV
    refine e_iconst (c := (-1000001)) f_150_18 (by decide) ?_
    exact e_ireturn f_150_20 rt_150 rfl hV
  · have hc := x_ccf_eq hc
    rw [if_neg hc] at hV
    refine e_iload f_150_8 rfl ?_
    refine e_i2l f_150_9 ?_
    refine e_lconst (c := 0) f_150_10 (by decide) ?_
    refine e_lconst (c := 1) f_150_11 (by decide) ?_
    obtain ⟨P2, hP2, hV⟩ := hV
    refine e_si (n := 3) (A := [.long (Int32.toInt64 a2), .long 0, .long 1]) (R := []) f_150_12 na_101 rfl rfl (Nat.le_of_ble_eq_true rfl) (Nat.le_of_ble_eq_true rfl) (by rw [ml_101]; exact Nat.le_of_ble_eq_true rfl) hP2 (fun v2 S2 hp2 => ?_)
    have hV := hV v2 S2 hp2
    refine e_if f_150_15 (fun hc => ?_) (fun hc => ?_)
    · have hc := x_cct_ne hc
      rw [if_neg hc] at hV
      refine e_iload f_150_21 rfl ?_
      refine e_iconst (c := 1) f_150_22 (by decide) ?_
      refine e_icmp f_150_23 (fun hc => ?_) (fun hc => ?_)
      · have hc := x_cct_ne hc
        rw [if_neg hc] at hV
        refine e_aload f_150_32 rfl (by decide) ?_
        refine e_iload f_150_33 rfl ?_
        obtain ⟨P3, hP3, hV⟩ := hV
        refine e_vi (n := 2) (A := [.ref 56, .int a1]) (R := []) f_150_34 na_152 rfl rfl (Nat.le_of_ble_eq_true rfl) (Nat.le_of_ble_eq_true rfl) (by rw [ml_152]; exact Nat.le_of_ble_eq_true rfl) rfl (by rw [cy_152]; decide) (by rw [cy_152]; exact (by decide : x_tg 56 = 6)) hP3 (fun v3 S3 hp3 => ?_)
        have hV := hV v3 S3 hp3
        refine e_istore (L' := [.ref 56, .int a1, .int a2, .int v3, .null, .null]) f_150_37 (Nat.le_of_ble_eq_true rfl) rfl ?_
        refine e_iconst (c := 0) f_150_38 (by decide) ?_
        refine e_istore (L' := [.ref 56, .int a1, .int a2, .int v3, .int 0, .null]) f_150_39 (Nat.le_of_ble_eq_true rfl) rfl ?_
        refine e_iconst (c := 0) f_150_41 (by decide) ?_
        refine e_istore (L' := [.ref 56, .int a1, .int a2, .int v3, .int 0, .int 0]) f_150_42 (Nat.le_of_ble_eq_true rfl) rfl ?_
        exact hV
      · have hc := x_ccf_ne hc
        rw [if_pos hc] at hV
        refine e_aload f_150_26 rfl (by decide) ?_
        refine e_iload f_150_27 rfl ?_
        obtain ⟨P4, hP4, hV⟩ := hV
        refine e_vi (n := 2) (A := [.ref 56, .int a1]) (R := []) f_150_28 na_151 rfl rfl (Nat.le_of_ble_eq_true rfl) (Nat.le_of_ble_eq_true rfl) (by rw [ml_151]; exact Nat.le_of_ble_eq_true rfl) rfl (by rw [cy_151]; decide) (by rw [cy_151]; exact (by decide : x_tg 56 = 6)) hP4 (fun v4 S4 hp4 => ?_)
        have hV := hV v4 S4 hp4
        exact e_ireturn f_150_31 rt_150 rfl hV
    · have hc := x_ccf_ne hc
      rw [if_pos hc] at hV
      refine e_iconst (c := (-1000001)) f_150_18 (by decide) ?_
      exact e_ireturn f_150_20 rt_150 rfl hV
