set_option maxRecDepth 20000 in
theorem T_134_0 {xs : List Int32} {d : Nat} {S : x_M} {Q : Option Value → x_M → Prop} {a1 : Int32} {a2 : Int32}  (hV : x_E xs (d + 1) 134 2 [.ref 56, .int a1, .int a2, .int 0, .null] [] S Q) : x_E xs (d + 1) 134 0 [.ref 56, .int a1, .int a2, .null, .null] [] S Q := by
  refine e_iconst (c := 0) f_134_0 (by decide) ?_
  refine e_istore (L' := [.ref 56, .int a1, .int a2, .int 0, .null]) f_134_1 (Nat.le_of_ble_eq_true rfl) rfl ?_
  exact hV
set_option maxRecDepth 20000 in
theorem T_134_2 {xs : List Int32} {d : Nat} {S : x_M} {Q : Option Value → x_M → Prop} {a1 : Int32} {a2 : Int32} {a3 : Int32}  (hV : if a2 ≤ a3 then (∀ S1 : x_M, S1 = x_up S 67 0 (S 57 30) → (∀ S2 : x_M, S2 = x_up S1 67 1 (S1 57 31) → (∀ S3 : x_M, S3 = x_up S2 67 2 (S2 57 27) → (x_E xs (d + 1) 134 85 [.ref 56, .int a1, .int a2, .int 0, .null] [] S3 Q)))) else ((x_ib (a1 + a3) 320) ∧ (∃ P4 : Int32 → x_M → Prop, x_Ci xs d 101 [.long (Int32.toInt64 (S 61 (Int32.toNatClampNeg (a1 + a3)))), .long 0, .long (Int32.toInt64 ((8 * (S 57 1)) - 1))] S P4 ∧ ∀ (v4 : Int32) (S4 : x_M), P4 v4 S4 → (if v4 = 0 then (Q (some (.int (-1000001))) S4) else (x_E xs (d + 1) 134 2 [.ref 56, .int a1, .int a2, .int (a3 + 1), .null] [] S4 Q))))) : x_E xs (d + 1) 134 2 [.ref 56, .int a1, .int a2, .int a3, .null] [] S Q := by
  refine e_iload f_134_2 rfl ?_
  refine e_iload f_134_3 rfl ?_
  refine e_icmp f_134_4 (fun hc => ?_) (fun hc => ?_)
  · have hc := x_cct_ge hc
    rw [if_pos hc] at hV
    refine e_aload f_134_44 rfl (by decide) ?_
    refine e_gr (c := 6) (j := 18) (r := 67) f_134_45 (by decide) (by decide) (by decide) (by decide) ?_
    refine e_iconst (c := 0) f_134_48 (by decide) ?_
    refine e_aload f_134_49 rfl (by decide) ?_
    refine e_gr (c := 6) (j := 0) (r := 57) f_134_50 (by decide) (by decide) (by decide) (by decide) ?_
    refine e_iconst (c := 30) f_134_53 (by decide) ?_
    refine e_iak (n := 99) (kk := 30) f_134_55 (by decide) (by decide) (by decide) ?_
    refine e_iskn (n := 3) (kk := 0) f_134_56 (by decide) (by decide) (by decide) (fun S1 hS1 => ?_)
    have hV := hV S1 hS1
    refine e_aload f_134_57 rfl (by decide) ?_
    refine e_gr (c := 6) (j := 18) (r := 67) f_134_58 (by decide) (by decide) (by decide) (by decide) ?_
    refine e_iconst (c := 1) f_134_61 (by decide) ?_
    refine e_aload f_134_62 rfl (by decide) ?_
    refine e_gr (c := 6) (j := 0) (r := 57) f_134_63 (by decide) (by decide) (by decide) (by decide) ?_
    refine e_iconst (c := 31) f_134_66 (by decide) ?_
    refine e_iak (n := 99) (kk := 31) f_134_68 (by decide) (by decide) (by decide) ?_
    refine e_iskn (n := 3) (kk := 1) f_134_69 (by decide) (by decide) (by decide) (fun S2 hS2 => ?_)
    have hV := hV S2 hS2
    refine e_aload f_134_70 rfl (by decide) ?_
    refine e_gr (c := 6) (j := 18) (r := 67) f_134_71 (by decide) (by decide) (by decide) (by decide) ?_
    refine e_iconst (c := 2) f_134_74 (by decide) ?_
    refine e_aload f_134_75 rfl (by decide) ?_
    refine e_gr (c := 6) (j := 0) (r := 57) f_134_76 (by decide) (by decide) (by decide) (by decide) ?_
    refine e_iconst (c := 27) f_134_79 (by decide) ?_
    refine e_iak (n := 99) (kk := 27) f_134_81 (by decide) (by decide) (by decide) ?_
    refine e_iskn (n := 3) (kk := 2) f_134_82 (by decide) (by decide) (by decide) (fun S3 hS3 => ?_)
    have hV := hV S3 hS3
    refine e_iconst (c := 0) f_134_83 (by decide) ?_
    refine e_istore (L' := [.ref 56, .int a1, .int a2, .int 0, .null]) f_134_84 (Nat.le_of_ble_eq_true rfl) rfl ?_
    exact hV
  · have hc := x_ccf_ge hc
    rw [if_neg hc] at hV
    refine e_aload f_134_7 rfl (by decide) ?_
    refine e_gr (c := 6) (j := 7) (r := 61) f_134_8 (by decide) (by decide) (by decide) (by decide) ?_
    refine e_iload f_134_11 rfl ?_
    refine e_iload f_134_12 rfl ?_
    refine e_iadd f_134_13 ?_
    obtain ⟨hg, hV⟩ := hV
    refine e_ia (n := 320) f_134_14 (by decide) (by decide) hg ?_
    refine e_i2l f_134_15 ?_
    refine e_lconst (c := 0) f_134_16 (by decide) ?_
    refine e_iconst (c := 8) f_134_17 (by decide) ?_
    refine e_aload f_134_19 rfl (by decide) ?_
    refine e_gr (c := 6) (j := 0) (r := 57) f_134_20 (by decide) (by decide) (by decide) (by decide) ?_
    refine e_iconst (c := 1) f_134_23 (by decide) ?_
    refine e_iak (n := 99) (kk := 1) f_134_24 (by decide) (by decide) (by decide) ?_
    refine e_imul f_134_25 ?_
    refine e_iconst (c := 1) f_134_26 (by decide) ?_
    refine e_isub f_134_27 ?_
    refine e_i2l f_134_28 ?_
    obtain ⟨P4, hP4, hV⟩ := hV
    refine e_si (n := 3) (A := [.long (Int32.toInt64 (S 61 (Int32.toNatClampNeg (a1 + a3)))), .long 0, .long (Int32.toInt64 ((8 * (S 57 1)) - 1))]) (R := []) f_134_29 na_101 rfl rfl (Nat.le_of_ble_eq_true rfl) (Nat.le_of_ble_eq_true rfl) (by rw [ml_101]; exact Nat.le_of_ble_eq_true rfl) hP4 (fun v4 S4 hp4 => ?_)
    have hV := hV v4 S4 hp4
    refine e_if f_134_32 (fun hc => ?_) (fun hc => ?_)
    · have hc := x_cct_ne hc
      rw [if_neg hc] at hV
      refine e_inc (c := 1) (L' := [.ref 56, .int a1, .int a2, .int (a3 + 1), .null]) f_134_38 rfl (by decide) rfl ?_
      refine e_goto f_134_41 ?_
      exact hV
    · have hc := x_ccf_ne hc
      rw [if_pos hc] at hV
      refine e_iconst (c := (-1000001)) f_134_35 (by decide) ?_
      exact e_ireturn f_134_37 rt_134 rfl hV
set_option maxRecDepth 20000 in
theorem T_134_85 {xs : List Int32} {d : Nat} {S : x_M} {Q : Option Value → x_M → Prop} {a1 : Int32} {a2 : Int32} {a3 : Int32} {a4 : Value}  (hV : if a2 ≤ a3 then (Q (some (.int 0)) S) else ((x_ib (a1 + a3) 320) ∧ ((x_ib (S 67 2) 3) ∧ (∃ P1 : Int32 → x_M → Prop, x_Ci xs d 122 [.int (S 67 (Int32.toNatClampNeg (S 67 2))), .int ((S 61 (Int32.toNatClampNeg (a1 + a3))) / 8)] S P1 ∧ ∀ (v1 : Int32) (S1 : x_M), P1 v1 S1 → (if v1 = 0 then (Q (some (.int (-1000002))) S1) else ((x_ib (S1 67 2) 3) ∧ ((x_ib (S1 67 2) 3) ∧ (∀ S2 : x_M, S2 = x_up S1 67 (Int32.toNatClampNeg (S1 67 2)) ((S1 67 (Int32.toNatClampNeg (S1 67 2))) &&& ((1 <<< (((S 61 (Int32.toNatClampNeg (a1 + a3))) / 8) &&& 31)) ^^^ (-1))) → ((x_ib (1 - (S2 67 2)) 3) ∧ (if (S2 67 (Int32.toNatClampNeg (1 - (S2 67 2)))) = 0 then (∀ S3 : x_M, S3 = x_up S2 67 2 (S2 67 2) → (x_E xs (d + 1) 134 85 [.ref 56, .int a1, .int a2, .int (a3 + 1), .int (S 61 (Int32.toNatClampNeg (a1 + a3)))] [] S3 Q)) else (∀ S4 : x_M, S4 = x_up S2 67 2 (1 - (S2 67 2)) → (x_E xs (d + 1) 134 85 [.ref 56, .int a1, .int a2, .int (a3 + 1), .int (S 61 (Int32.toNatClampNeg (a1 + a3)))] [] S4 Q)))))))))))) : x_E xs (d + 1) 134 85 [.ref 56, .int a1, .int a2, .int a3, a4] [] S Q := by
  refine e_iload f_134_85 rfl ?_
  refine e_iload f_134_86 rfl ?_
  refine e_icmp f_134_87 (fun hc => ?_) (fun hc => ?_)
  · have hc := x_cct_ge hc
    rw [if_pos hc] at hV
    refine e_iconst (c := 0) f_134_193 (by decide) ?_
    exact e_ireturn f_134_194 rt_134 rfl hV
  · have hc := x_ccf_ge hc
    rw [if_neg hc] at hV
    refine e_aload f_134_90 rfl (by decide) ?_
    refine e_gr (c := 6) (j := 7) (r := 61) f_134_91 (by decide) (by decide) (by decide) (by decide) ?_
    refine e_iload f_134_94 rfl ?_
    refine e_iload f_134_95 rfl ?_
    refine e_iadd f_134_96 ?_
    obtain ⟨hg, hV⟩ := hV
    refine e_ia (n := 320) f_134_97 (by decide) (by decide) hg ?_
    refine e_istore (L' := [.ref 56, .int a1, .int a2, .int a3, .int (S 61 (Int32.toNatClampNeg (a1 + a3)))]) f_134_98 (Nat.le_of_ble_eq_true rfl) rfl ?_
    refine e_aload f_134_100 rfl (by decide) ?_
    refine e_gr (c := 6) (j := 18) (r := 67) f_134_101 (by decide) (by decide) (by decide) (by decide) ?_
    refine e_aload f_134_104 rfl (by decide) ?_
    refine e_gr (c := 6) (j := 18) (r := 67) f_134_105 (by decide) (by decide) (by decide) (by decide) ?_
    refine e_iconst (c := 2) f_134_108 (by decide) ?_
    refine e_iak (n := 3) (kk := 2) f_134_109 (by decide) (by decide) (by decide) ?_
    obtain ⟨hg, hV⟩ := hV
    refine e_ia (n := 3) f_134_110 (by decide) (by decide) hg ?_
    refine e_iload f_134_111 rfl ?_
    refine e_iconst (c := 8) f_134_113 (by decide) ?_
    refine e_idiv f_134_115 (by decide) ?_
    obtain ⟨P1, hP1, hV⟩ := hV
    refine e_si (n := 2) (A := [.int (S 67 (Int32.toNatClampNeg (S 67 2))), .int ((S 61 (Int32.toNatClampNeg (a1 + a3))) / 8)]) (R := []) f_134_116 na_122 rfl rfl (Nat.le_of_ble_eq_true rfl) (Nat.le_of_ble_eq_true rfl) (by rw [ml_122]; exact Nat.le_of_ble_eq_true rfl) hP1 (fun v1 S1 hp1 => ?_)
    have hV := hV v1 S1 hp1
    refine e_if f_134_119 (fun hc => ?_) (fun hc => ?_)
    · have hc := x_cct_ne hc
      rw [if_neg hc] at hV
      refine e_aload f_134_125 rfl (by decide) ?_
      refine e_gr (c := 6) (j := 18) (r := 67) f_134_126 (by decide) (by decide) (by decide) (by decide) ?_
      refine e_aload f_134_129 rfl (by decide) ?_
      refine e_gr (c := 6) (j := 18) (r := 67) f_134_130 (by decide) (by decide) (by decide) (by decide) ?_
      refine e_iconst (c := 2) f_134_133 (by decide) ?_
      refine e_iak (n := 3) (kk := 2) f_134_134 (by decide) (by decide) (by decide) ?_
      refine e_dup2 f_134_135 ⟨rfl, rfl⟩ ?_
      obtain ⟨hg, hV⟩ := hV
      refine e_ia (n := 3) f_134_136 (by decide) (by decide) hg ?_
      refine e_iconst (c := 1) f_134_137 (by decide) ?_
      refine e_iload f_134_138 rfl ?_
      refine e_iconst (c := 8) f_134_140 (by decide) ?_
      refine e_idiv f_134_142 (by decide) ?_
      refine e_ishl f_134_143 ?_
      refine e_iconst (c := (-1)) f_134_144 (by decide) ?_
      refine e_ixor f_134_145 ?_
      refine e_iand f_134_146 ?_
      obtain ⟨hg, hV⟩ := hV
      refine e_isn (n := 3) f_134_147 (by decide) (by decide) hg (fun S2 hS2 => ?_)
      have hV := hV S2 hS2
      refine e_aload f_134_148 rfl (by decide) ?_
      refine e_gr (c := 6) (j := 18) (r := 67) f_134_149 (by decide) (by decide) (by decide) (by decide) ?_
      refine e_iconst (c := 2) f_134_152 (by decide) ?_
      refine e_aload f_134_153 rfl (by decide) ?_
      refine e_gr (c := 6) (j := 18) (r := 67) f_134_154 (by decide) (by decide) (by decide) (by decide) ?_
      refine e_iconst (c := 1) f_134_157 (by decide) ?_
      refine e_aload f_134_158 rfl (by decide) ?_
      refine e_gr (c := 6) (j := 18) (r := 67) f_134_159 (by decide) (by decide) (by decide) (by decide) ?_
      refine e_iconst (c := 2) f_134_162 (by decide) ?_
      refine e_iak (n := 3) (kk := 2) f_134_163 (by decide) (by decide) (by decide) ?_
      refine e_isub f_134_164 ?_
      obtain ⟨hg, hV⟩ := hV
      refine e_ia (n := 3) f_134_165 (by decide) (by decide) hg ?_
      refine e_if f_134_166 (fun hc => ?_) (fun hc => ?_)
      · have hc := x_cct_eq hc
        rw [if_pos hc] at hV
        refine e_aload f_134_180 rfl (by decide) ?_
        refine e_gr (c := 6) (j := 18) (r := 67) f_134_181 (by decide) (by decide) (by decide) (by decide) ?_
        refine e_iconst (c := 2) f_134_184 (by decide) ?_
        refine e_iak (n := 3) (kk := 2) f_134_185 (by decide) (by decide) (by decide) ?_
        refine e_iskn (n := 3) (kk := 2) f_134_186 (by decide) (by decide) (by decide) (fun S3 hS3 => ?_)
        have hV := hV S3 hS3
        refine e_inc (c := 1) (L' := [.ref 56, .int a1, .int a2, .int (a3 + 1), .int (S 61 (Int32.toNatClampNeg (a1 + a3)))]) f_134_187 rfl (by decide) rfl ?_
        refine e_goto f_134_190 ?_
        exact hV
      · have hc := x_ccf_eq hc
        rw [if_neg hc] at hV
        refine e_iconst (c := 1) f_134_169 (by decide) ?_
        refine e_aload f_134_170 rfl (by decide) ?_
        refine e_gr (c := 6) (j := 18) (r := 67) f_134_171 (by decide) (by decide) (by decide) (by decide) ?_
        refine e_iconst (c := 2) f_134_174 (by decide) ?_
        refine e_iak (n := 3) (kk := 2) f_134_175 (by decide) (by decide) (by decide) ?_
        refine e_isub f_134_176 ?_
        refine e_goto f_134_177 ?_
        refine e_iskn (n := 3) (kk := 2) f_134_186 (by decide) (by decide) (by decide) (fun S4 hS4 => ?_)
        have hV := hV S4 hS4
        refine e_inc (c := 1) (L' := [.ref 56, .int a1, .int a2, .int (a3 + 1), .int (S 61 (Int32.toNatClampNeg (a1 + a3)))]) f_134_187 rfl (by decide) rfl ?_
        refine e_goto f_134_190 ?_
        exact hV
    · have hc := x_ccf_ne hc
      rw [if_pos hc] at hV
      refine e_iconst (c := (-1000002)) f_134_122 (by decide) ?_
      exact e_ireturn f_134_124 rt_134 rfl hV
set_option maxRecDepth 20000 in
theorem T_135_0 {xs : List Int32} {d : Nat} {S : x_M} {Q : Option Value → x_M → Prop} {a1 : Int32} {a2 : Int32}  (hV : if (S 57 0) = 0 then (Q (some (.int (-1000002))) S) else (∃ P1 : Int32 → x_M → Prop, x_Ci xs d 101 [.long (Int32.toInt64 a1), .long 1, .long 14] S P1 ∧ ∀ (v1 : Int32) (S1 : x_M), P1 v1 S1 → (if v1 = 0 then (Q (some (.int (-1000001))) S1) else (∃ P2 : Int32 → x_M → Prop, x_Ci xs d 101 [.long (Int32.toInt64 a2), .long 1, .long 999999] S1 P2 ∧ ∀ (v2 : Int32) (S2 : x_M), P2 v2 S2 → (if v2 = 0 then (Q (some (.int (-1000001))) S2) else (x_E xs (d + 1) 135 45 [.ref 56, .int a1, .int a2, .long (Int32.toInt64 a2), .null, .int 0, .null, .null, .null, .null] [] S2 Q)))))) : x_E xs (d + 1) 135 0 [.ref 56, .int a1, .int a2, .null, .null, .null, .null, .null, .null, .null] [] S Q := by
  refine e_aload f_135_0 rfl (by decide) ?_
  refine e_gr (c := 6) (j := 0) (r := 57) f_135_1 (by decide) (by decide) (by decide) (by decide) ?_
  refine e_iconst (c := 0) f_135_4 (by decide) ?_
  refine e_iak (n := 99) (kk := 0) f_135_5 (by decide) (by decide) (by decide) ?_
  refine e_if f_135_6 (fun hc => ?_) (fun hc => ?_)
  · have hc := x_cct_ne hc
    rw [if_neg hc] at hV
    refine e_iload f_135_12 rfl ?_
    refine e_i2l f_135_13 ?_
    refine e_lconst (c := 1) f_135_14 (by decide) ?_
    refine e_lconst (c := 14) f_135_15 (by decide) ?_
    obtain ⟨P1, hP1, hV⟩ := hV
    refine e_si (n := 3) (A := [.long (Int32.toInt64 a1), .long 1, .long 14]) (R := []) f_135_18 na_101 rfl rfl (Nat.le_of_ble_eq_true rfl) (Nat.le_of_ble_eq_true rfl) (by rw [ml_101]; exact Nat.le_of_ble_eq_true rfl) hP1 (fun v1 S1 hp1 => ?_)
    have hV := hV v1 S1 hp1
    refine e_if f_135_21 (fun hc => ?_) (fun hc => ?_)
    · have hc := x_cct_eq hc
      rw [if_pos hc] at hV
      refine e_iconst (c := (-1000001)) f_135_36 (by decide) ?_
      exact e_ireturn f_135_38 rt_135 rfl hV
    · have hc := x_ccf_eq hc
      rw [if_neg hc] at hV
      refine e_iload f_135_24 rfl ?_
      refine e_i2l f_135_25 ?_
      refine e_lconst (c := 1) f_135_26 (by decide) ?_
      refine e_lconst (c := 999999) f_135_27 (by decide) ?_
      obtain ⟨P2, hP2, hV⟩ := hV
      refine e_si (n := 3) (A := [.long (Int32.toInt64 a2), .long 1, .long 999999]) (R := []) f_135_30 na_101 rfl rfl (Nat.le_of_ble_eq_true rfl) (Nat.le_of_ble_eq_true rfl) (by rw [ml_101]; exact Nat.le_of_ble_eq_true rfl) hP2 (fun v2 S2 hp2 => ?_)
      have hV := hV v2 S2 hp2
      refine e_if f_135_33 (fun hc => ?_) (fun hc => ?_)
      · have hc := x_cct_ne hc
        rw [if_neg hc] at hV
        refine e_iload f_135_39 rfl ?_
        refine e_i2l f_135_40 ?_
        refine e_lstore (L' := [.ref 56, .int a1, .int a2, .long (Int32.toInt64 a2), .null, .null, .null, .null, .null, .null]) f_135_41 (Nat.le_of_ble_eq_true rfl) rfl ?_
        refine e_iconst (c := 0) f_135_42 (by decide) ?_
        refine e_istore (L' := [.ref 56, .int a1, .int a2, .long (Int32.toInt64 a2), .null, .int 0, .null, .null, .null, .null]) f_135_43 (Nat.le_of_ble_eq_true rfl) rfl ?_
        exact hV
      · have hc := x_ccf_ne hc
        rw [if_pos hc] at hV
        refine e_iconst (c := (-1000001)) f_135_36 (by decide) ?_
        exact e_ireturn f_135_38 rt_135 rfl hV
  · have hc := x_ccf_ne hc
    rw [if_pos hc] at hV
    refine e_iconst (c := (-1000002)) f_135_9 (by decide) ?_
    exact e_ireturn f_135_11 rt_135 rfl hV
set_option maxRecDepth 20000 in
theorem T_135_45 {xs : List Int32} {d : Nat} {S : x_M} {Q : Option Value → x_M → Prop} {a1 : Int32} {a2 : Int32} {a3 : Int64} {a5 : Int32} {a6 : Value} {a7 : Value} {a8 : Value} {a9 : Value}  (hV : if a1 ≤ a5 then (Q (some (.int a5)) S) else ((x_ib (30 + (S 57 27)) 99) ∧ (if (S 57 (Int32.toNatClampNeg (30 + (S 57 27)))) = 0 then (Q (some (.int a5)) S) else ((x_ib (30 + (S 57 27)) 99) ∧ (∃ P1 : Int32 → x_M → Prop, x_Ci xs d 136 [.int (S 57 (Int32.toNatClampNeg (30 + (S 57 27))))] S P1 ∧ ∀ (v1 : Int32) (S1 : x_M), P1 v1 S1 → ((¬ (8 * (Int32.toInt64 v1)) = 0) ∧ (∀ x2 : Int32, x2 = (Int64.toInt32 (((a3 * 16807) - (a3 * 16807) / 2147483647 * 2147483647) - ((a3 * 16807) - (a3 * 16807) / 2147483647 * 2147483647) / (8 * (Int32.toInt64 v1)) * (8 * (Int32.toInt64 v1)))) → (x_E xs (d + 1) 135 121 [.ref 56, .int a1, .int a2, .long ((a3 * 16807) - (a3 * 16807) / 2147483647 * 2147483647), .null, .int a5, .int (S 57 (Int32.toNatClampNeg (30 + (S 57 27)))), .int x2, .int 0, .int (x2 / 8)] [] S1 Q)))))))) : x_E xs (d + 1) 135 45 [.ref 56, .int a1, .int a2, .long a3, .null, .int a5, a6, a7, a8, a9] [] S Q := by
  refine e_iload f_135_45 rfl ?_
  refine e_iload f_135_47 rfl ?_
  refine e_icmp f_135_48 (fun hc => ?_) (fun hc => ?_)
  · have hc := x_cct_ge hc
    rw [if_pos hc] at hV
    refine e_iload f_135_184 rfl ?_
    exact e_ireturn f_135_186 rt_135 rfl hV
  · have hc := x_ccf_ge hc
    rw [if_neg hc] at hV
    refine e_aload f_135_51 rfl (by decide) ?_
    refine e_gr (c := 6) (j := 0) (r := 57) f_135_52 (by decide) (by decide) (by decide) (by decide) ?_
    refine e_iconst (c := 30) f_135_55 (by decide) ?_
    refine e_aload f_135_57 rfl (by decide) ?_
    refine e_gr (c := 6) (j := 0) (r := 57) f_135_58 (by decide) (by decide) (by decide) (by decide) ?_
    refine e_iconst (c := 27) f_135_61 (by decide) ?_
    refine e_iak (n := 99) (kk := 27) f_135_63 (by decide) (by decide) (by decide) ?_
    refine e_iadd f_135_64 ?_
    obtain ⟨hg, hV⟩ := hV
    refine e_ia (n := 99) f_135_65 (by decide) (by decide) hg ?_
    refine e_if f_135_66 (fun hc => ?_) (fun hc => ?_)
    · have hc := x_cct_eq hc
      rw [if_pos hc] at hV
      refine e_iload f_135_184 rfl ?_
      exact e_ireturn f_135_186 rt_135 rfl hV
    · have hc := x_ccf_eq hc
      rw [if_neg hc] at hV
      refine e_lload f_135_69 rfl ?_
      refine e_lconst (c := 16807) f_135_70 (by decide) ?_
      refine e_lmul f_135_73 ?_
      refine e_lconst (c := 2147483647) f_135_74 (by decide) ?_
      refine e_lrem f_135_77 (by decide) ?_
      refine e_lstore (L' := [.ref 56, .int a1, .int a2, .long ((a3 * 16807) - (a3 * 16807) / 2147483647 * 2147483647), .null, .int a5, a6, a7, a8, a9]) f_135_78 (Nat.le_of_ble_eq_true rfl) rfl ?_
      refine e_aload f_135_79 rfl (by decide) ?_
      refine e_gr (c := 6) (j := 0) (r := 57) f_135_80 (by decide) (by decide) (by decide) (by decide) ?_
      refine e_iconst (c := 30) f_135_83 (by decide) ?_
      refine e_aload f_135_85 rfl (by decide) ?_
      refine e_gr (c := 6) (j := 0) (r := 57) f_135_86 (by decide) (by decide) (by decide) (by decide) ?_
      refine e_iconst (c := 27) f_135_89 (by decide) ?_
      refine e_iak (n := 99) (kk := 27) f_135_91 (by decide) (by decide) (by decide) ?_
      refine e_iadd f_135_92 ?_
      obtain ⟨hg, hV⟩ := hV
      refine e_ia (n := 99) f_135_93 (by decide) (by decide) hg ?_
      refine e_istore (L' := [.ref 56, .int a1, .int a2, .long ((a3 * 16807) - (a3 * 16807) / 2147483647 * 2147483647), .null, .int a5, .int (S 57 (Int32.toNatClampNeg (30 + (S 57 27)))), a7, a8, a9]) f_135_94 (Nat.le_of_ble_eq_true rfl) rfl ?_
      refine e_lload f_135_96 rfl ?_
      refine e_lconst (c := 8) f_135_97 (by decide) ?_
      refine e_iload f_135_100 rfl ?_
      obtain ⟨P1, hP1, hV⟩ := hV
      refine e_si (n := 1) (A := [.int (S 57 (Int32.toNatClampNeg (30 + (S 57 27))))]) (R := [.long 8, .long ((a3 * 16807) - (a3 * 16807) / 2147483647 * 2147483647)]) f_135_102 na_136 rfl rfl (Nat.le_of_ble_eq_true rfl) (Nat.le_of_ble_eq_true rfl) (by rw [ml_136]; exact Nat.le_of_ble_eq_true rfl) hP1 (fun v1 S1 hp1 => ?_)
      have hV := hV v1 S1 hp1
      refine e_i2l f_135_105 ?_
      refine e_lmul f_135_106 ?_
      obtain ⟨hg, hV⟩ := hV
      refine e_lrem f_135_107 hg ?_
      refine e_l2i f_135_108 ?_
      refine e_istoren (L' := fun x2 => [.ref 56, .int a1, .int a2, .long ((a3 * 16807) - (a3 * 16807) / 2147483647 * 2147483647), .null, .int a5, .int (S 57 (Int32.toNatClampNeg (30 + (S 57 27)))), .int x2, a8, a9]) f_135_109 (Nat.le_of_ble_eq_true rfl) (fun _ => rfl) (fun x2 hx2 => ?_)
      have hV := hV x2 hx2
      refine e_iconst (c := 0) f_135_111 (by decide) ?_
      refine e_istore (L' := [.ref 56, .int a1, .int a2, .long ((a3 * 16807) - (a3 * 16807) / 2147483647 * 2147483647), .null, .int a5, .int (S 57 (Int32.toNatClampNeg (30 + (S 57 27)))), .int x2, .int 0, a9]) f_135_112 (Nat.le_of_ble_eq_true rfl) rfl ?_
      refine e_iload f_135_114 rfl ?_
      refine e_iconst (c := 8) f_135_116 (by decide) ?_
      refine e_idiv f_135_118 (by decide) ?_
      refine e_istore (L' := [.ref 56, .int a1, .int a2, .long ((a3 * 16807) - (a3 * 16807) / 2147483647 * 2147483647), .null, .int a5, .int (S 57 (Int32.toNatClampNeg (30 + (S 57 27)))), .int x2, .int 0, .int (x2 / 8)]) f_135_119 (Nat.le_of_ble_eq_true rfl) rfl ?_
      exact hV
set_option maxRecDepth 20000 in
theorem T_135_121 {xs : List Int32} {d : Nat} {S : x_M} {Q : Option Value → x_M → Prop} {a1 : Int32} {a2 : Int32} {a3 : Int64} {a5 : Int32} {a6 : Int32} {a7 : Int32} {a8 : Int32} {a9 : Int32}  (hV : ∃ P1 : Int32 → x_M → Prop, x_Ci xs d 122 [.int a6, .int a8] S P1 ∧ ∀ (v1 : Int32) (S1 : x_M), P1 v1 S1 → (if v1 = 0 then (∃ P2 : Int32 → x_M → Prop, x_Ci xs d 122 [.int a6, .int a8] S1 P2 ∧ ∀ (v2 : Int32) (S2 : x_M), P2 v2 S2 → (if v2 = 0 then (x_E xs (d + 1) 135 121 [.ref 56, .int a1, .int a2, .long a3, .null, .int a5, .int a6, .int a7, .int (a8 + 1), .int (a9 - 0)] [] S2 Q) else (x_E xs (d + 1) 135 121 [.ref 56, .int a1, .int a2, .long a3, .null, .int a5, .int a6, .int a7, .int (a8 + 1), .int (a9 - 1)] [] S2 Q))) else (if a9 ≤ 0 then (∃ P3 : Int32 → x_M → Prop, x_Ci xs d 132 [.ref 56, .int ((8 * a8) + (a7 - a7 / 8 * 8))] S1 P3 ∧ ∀ (v3 : Int32) (S3 : x_M), P3 v3 S3 → (x_E xs (d + 1) 135 45 [.ref 56, .int a1, .int a2, .long a3, .null, .int (a5 + 1), .int a6, .int a7, .int a8, .int a9] [] S3 Q)) else (∃ P4 : Int32 → x_M → Prop, x_Ci xs d 122 [.int a6, .int a8] S1 P4 ∧ ∀ (v4 : Int32) (S4 : x_M), P4 v4 S4 → (if v4 = 0 then (x_E xs (d + 1) 135 121 [.ref 56, .int a1, .int a2, .long a3, .null, .int a5, .int a6, .int a7, .int (a8 + 1), .int (a9 - 0)] [] S4 Q) else (x_E xs (d + 1) 135 121 [.ref 56, .int a1, .int a2, .long a3, .null, .int a5, .int a6, .int a7, .int (a8 + 1), .int (a9 - 1)] [] S4 Q)))))) : x_E xs (d + 1) 135 121 [.ref 56, .int a1, .int a2, .long a3, .null, .int a5, .int a6, .int a7, .int a8, .int a9] [] S Q := by
  refine e_iload f_135_121 rfl ?_
  refine e_iload f_135_123 rfl ?_
  obtain ⟨P1, hP1, hV⟩ := hV
  refine e_si (n := 2) (A := [.int a6, .int a8]) (R := []) f_135_125 na_122 rfl rfl (Nat.le_of_ble_eq_true rfl) (Nat.le_of_ble_eq_true rfl) (by rw [ml_122]; exact Nat.le_of_ble_eq_true rfl) hP1 (fun v1 S1 hp1 => ?_)
  have hV := hV v1 S1 hp1
  refine e_if f_135_128 (fun hc => ?_) (fun hc => ?_)
  · have hc := x_cct_eq hc
    rw [if_pos hc] at hV
    refine e_iload f_135_136 rfl ?_
    refine e_iload f_135_138 rfl ?_
    refine e_iload f_135_140 rfl ?_
    obtain ⟨P2, hP2, hV⟩ := hV
    refine e_si (n := 2) (A := [.int a6, .int a8]) (R := [.int a9]) f_135_142 na_122 rfl rfl (Nat.le_of_ble_eq_true rfl) (Nat.le_of_ble_eq_true rfl) (by rw [ml_122]; exact Nat.le_of_ble_eq_true rfl) hP2 (fun v2 S2 hp2 => ?_)
    have hV := hV v2 S2 hp2
    refine e_if f_135_145 (fun hc => ?_) (fun hc => ?_)
    · have hc := x_cct_eq hc
      rw [if_pos hc] at hV
      refine e_iconst (c := 0) f_135_152 (by decide) ?_
      refine e_isub f_135_153 ?_
      refine e_istore (L' := [.ref 56, .int a1, .int a2, .long a3, .null, .int a5, .int a6, .int a7, .int a8, .int (a9 - 0)]) f_135_154 (Nat.le_of_ble_eq_true rfl) rfl ?_
      refine e_inc (c := 1) (L' := [.ref 56, .int a1, .int a2, .long a3, .null, .int a5, .int a6, .int a7, .int (a8 + 1), .int (a9 - 0)]) f_135_156 rfl (by decide) rfl ?_
      refine e_goto f_135_159 ?_
      exact hV
    · have hc := x_ccf_eq hc
      rw [if_neg hc] at hV
      refine e_iconst (c := 1) f_135_148 (by decide) ?_
      refine e_goto f_135_149 ?_
      refine e_isub f_135_153 ?_
      refine e_istore (L' := [.ref 56, .int a1, .int a2, .long a3, .null, .int a5, .int a6, .int a7, .int a8, .int (a9 - 1)]) f_135_154 (Nat.le_of_ble_eq_true rfl) rfl ?_
      refine e_inc (c := 1) (L' := [.ref 56, .int a1, .int a2, .long a3, .null, .int a5, .int a6, .int a7, .int (a8 + 1), .int (a9 - 1)]) f_135_156 rfl (by decide) rfl ?_
      refine e_goto f_135_159 ?_
      exact hV
  · have hc := x_ccf_eq hc
    rw [if_neg hc] at hV
    refine e_iload f_135_131 rfl ?_
    refine e_if f_135_133 (fun hc => ?_) (fun hc => ?_)
    · have hc := x_cct_le hc
      rw [if_pos hc] at hV
      refine e_aload f_135_162 rfl (by decide) ?_
      refine e_iconst (c := 8) f_135_163 (by decide) ?_
      refine e_iload f_135_165 rfl ?_
      refine e_imul f_135_167 ?_
      refine e_iload f_135_168 rfl ?_
      refine e_iconst (c := 8) f_135_170 (by decide) ?_
      refine e_irem f_135_172 (by decide) ?_
      refine e_iadd f_135_173 ?_
      obtain ⟨P3, hP3, hV⟩ := hV
      refine e_vi (n := 2) (A := [.ref 56, .int ((8 * a8) + (a7 - a7 / 8 * 8))]) (R := []) f_135_174 na_132 rfl rfl (Nat.le_of_ble_eq_true rfl) (Nat.le_of_ble_eq_true rfl) (by rw [ml_132]; exact Nat.le_of_ble_eq_true rfl) rfl (by rw [cy_132]; decide) (by rw [cy_132]; exact (by decide : x_tg 56 = 6)) hP3 (fun v3 S3 hp3 => ?_)
      have hV := hV v3 S3 hp3
      refine e_pop f_135_177 rfl ?_
      refine e_inc (c := 1) (L' := [.ref 56, .int a1, .int a2, .long a3, .null, .int (a5 + 1), .int a6, .int a7, .int a8, .int a9]) f_135_178 rfl (by decide) rfl ?_
      refine e_goto f_135_181 ?_
      exact hV
    · have hc := x_ccf_le hc
      rw [if_neg hc] at hV
      refine e_iload f_135_136 rfl ?_
      refine e_iload f_135_138 rfl ?_
      refine e_iload f_135_140 rfl ?_
      obtain ⟨P4, hP4, hV⟩ := hV
      refine e_si (n := 2) (A := [.int a6, .int a8]) (R := [.int a9]) f_135_142 na_122 rfl rfl (Nat.le_of_ble_eq_true rfl) (Nat.le_of_ble_eq_true rfl) (by rw [ml_122]; exact Nat.le_of_ble_eq_true rfl) hP4 (fun v4 S4 hp4 => ?_)
      have hV := hV v4 S4 hp4
      refine e_if f_135_145 (fun hc => ?_) (fun hc => ?_)
      · have hc := x_cct_eq hc
        rw [if_pos hc] at hV
        refine e_iconst (c := 0) f_135_152 (by decide) ?_
        refine e_isub f_135_153 ?_
        refine e_istore (L' := [.ref 56, .int a1, .int a2, .long a3, .null, .int a5, .int a6, .int a7, .int a8, .int (a9 - 0)]) f_135_154 (Nat.le_of_ble_eq_true rfl) rfl ?_
        refine e_inc (c := 1) (L' := [.ref 56, .int a1, .int a2, .long a3, .null, .int a5, .int a6, .int a7, .int (a8 + 1), .int (a9 - 0)]) f_135_156 rfl (by decide) rfl ?_
        refine e_goto f_135_159 ?_
        exact hV
      · have hc := x_ccf_eq hc
        rw [if_neg hc] at hV
        refine e_iconst (c := 1) f_135_148 (by decide) ?_
        refine e_goto f_135_149 ?_
        refine e_isub f_135_153 ?_
        refine e_istore (L' := [.ref 56, .int a1, .int a2, .long a3, .null, .int a5, .int a6, .int a7, .int a8, .int (a9 - 1)]) f_135_154 (Nat.le_of_ble_eq_true rfl) rfl ?_
        refine e_inc (c := 1) (L' := [.ref 56, .int a1, .int a2, .long a3, .null, .int a5, .int a6, .int a7, .int (a8 + 1), .int (a9 - 1)]) f_135_156 rfl (by decide) rfl ?_
        refine e_goto f_135_159 ?_
        exact hV
set_option maxRecDepth 20000 in
theorem T_136_0 {xs : List Int32} {d : Nat} {S : x_M} {Q : Option Value → x_M → Prop} {a0 : Int32}  (hV : x_E xs (d + 1) 136 4 [.int a0, .int 0, .int 0] [] S Q) : x_E xs (d + 1) 136 0 [.int a0, .null, .null] [] S Q := by
  refine e_iconst (c := 0) f_136_0 (by decide) ?_
  refine e_istore (L' := [.int a0, .int 0, .null]) f_136_1 (Nat.le_of_ble_eq_true rfl) rfl ?_
  refine e_iconst (c := 0) f_136_2 (by decide) ?_
  refine e_istore (L' := [.int a0, .int 0, .int 0]) f_136_3 (Nat.le_of_ble_eq_true rfl) rfl ?_
  exact hV
set_option maxRecDepth 20000 in
theorem T_136_4 {xs : List Int32} {d : Nat} {S : x_M} {Q : Option Value → x_M → Prop} {a0 : Int32} {a1 : Int32} {a2 : Int32}  (hV : if (14 : Int32) ≤ a2 then (Q (some (.int a1)) S) else (x_E xs (d + 1) 136 4 [.int a0, .int (a1 + ((a0 >>> (a2 &&& 31)) &&& 1)), .int (a2 + 1)] [] S Q)) : x_E xs (d + 1) 136 4 [.int a0, .int a1, .int a2] [] S Q := by
  refine e_iload f_136_4 rfl ?_
  refine e_iconst (c := 14) f_136_5 (by decide) ?_
  refine e_icmp f_136_7 (fun hc => ?_) (fun hc => ?_)
  · have hc := x_cct_ge hc
    rw [if_pos hc] at hV
    refine e_iload f_136_24 rfl ?_
    exact e_ireturn f_136_25 rt_136 rfl hV
  · have hc := x_ccf_ge hc
    rw [if_neg hc] at hV
    refine e_iload f_136_10 rfl ?_
    refine e_iload f_136_11 rfl ?_
    refine e_iload f_136_12 rfl ?_
    refine e_ishr f_136_13 ?_
    refine e_iconst (c := 1) f_136_14 (by decide) ?_
    refine e_iand f_136_15 ?_
    refine e_iadd f_136_16 ?_
    refine e_istore (L' := [.int a0, .int (a1 + ((a0 >>> (a2 &&& 31)) &&& 1)), .int a2]) f_136_17 (Nat.le_of_ble_eq_true rfl) rfl ?_
    refine e_inc (c := 1) (L' := [.int a0, .int (a1 + ((a0 >>> (a2 &&& 31)) &&& 1)), .int (a2 + 1)]) f_136_18 rfl (by decide) rfl ?_
    refine e_goto f_136_21 ?_
    exact hV
set_option maxRecDepth 20000 in
theorem T_137_0 {xs : List Int32} {d : Nat} {S : x_M} {Q : Option Value → x_M → Prop} {a1 : Int32}  (hV : if (S 57 0) = 0 then (Q (some (.int (-1000002))) S) else (if a1 = 0 then (Q (some (.int (S 57 25))) S) else (if a1 = 1 then (Q (some (.int (S 57 26))) S) else (if a1 = 2 then (∃ P1 : Int32 → x_M → Prop, x_Ci xs d 138 [.ref 56] S P1 ∧ ∀ (v1 : Int32) (S1 : x_M), P1 v1 S1 → (if v1 = 0 then (Q (some (.int (S1 57 27))) S1) else (Q (some (.int (-1000000))) S1))) else (if a1 = 3 then ((x_ib ((28 + a1) - 3) 99) ∧ (Q (some (.int (S 57 (Int32.toNatClampNeg ((28 + a1) - 3))))) S)) else (if a1 = 4 then ((x_ib ((28 + a1) - 3) 99) ∧ (Q (some (.int (S 57 (Int32.toNatClampNeg ((28 + a1) - 3))))) S)) else (if a1 = 5 then ((x_ib ((30 + a1) - 5) 99) ∧ (Q (some (.int (S 57 (Int32.toNatClampNeg ((30 + a1) - 5))))) S)) else (if a1 = 6 then ((x_ib ((30 + a1) - 5) 99) ∧ (Q (some (.int (S 57 (Int32.toNatClampNeg ((30 + a1) - 5))))) S)) else (if a1 = 7 then (Q (some (.int (S 57 32))) S) else (Q (some (.int (-1000001))) S)))))))))) : x_E xs (d + 1) 137 0 [.ref 56, .int a1] [] S Q := by
  refine e_aload f_137_0 rfl (by decide) ?_
  refine e_gr (c := 6) (j := 0) (r := 57) f_137_1 (by decide) (by decide) (by decide) (by decide) ?_
  refine e_iconst (c := 0) f_137_4 (by decide) ?_
  refine e_iak (n := 99) (kk := 0) f_137_5 (by decide) (by decide) (by decide) ?_
  refine e_if f_137_6 (fun hc => ?_) (fun hc => ?_)
  · have hc := x_cct_ne hc
    rw [if_neg hc] at hV
    refine e_iload f_137_12 rfl ?_
    by_cases hx0 : a1 = 0
    · rw [if_pos hx0] at hV
      refine e_ts f_137_13 hx0 (t := 60) (by decide) ?_
      refine e_aload f_137_60 rfl (by decide) ?_
      refine e_gr (c := 6) (j := 0) (r := 57) f_137_61 (by decide) (by decide) (by decide) (by decide) ?_
      refine e_iconst (c := 25) f_137_64 (by decide) ?_
      refine e_iak (n := 99) (kk := 25) f_137_66 (by decide) (by decide) (by decide) ?_
      exact e_ireturn f_137_67 rt_137 rfl hV
    rw [if_neg hx0] at hV
    by_cases hx1 : a1 = 1
    · rw [if_pos hx1] at hV
      refine e_ts f_137_13 hx1 (t := 68) (by decide) ?_
      refine e_aload f_137_68 rfl (by decide) ?_
      refine e_gr (c := 6) (j := 0) (r := 57) f_137_69 (by decide) (by decide) (by decide) (by decide) ?_
      refine e_iconst (c := 26) f_137_72 (by decide) ?_
      refine e_iak (n := 99) (kk := 26) f_137_74 (by decide) (by decide) (by decide) ?_
      exact e_ireturn f_137_75 rt_137 rfl hV
    rw [if_neg hx1] at hV
    by_cases hx2 : a1 = 2
    · rw [if_pos hx2] at hV
      refine e_ts f_137_13 hx2 (t := 76) (by decide) ?_
      refine e_aload f_137_76 rfl (by decide) ?_
      obtain ⟨P1, hP1, hV⟩ := hV
      refine e_vi (n := 1) (A := [.ref 56]) (R := []) f_137_77 na_138 rfl rfl (Nat.le_of_ble_eq_true rfl) (Nat.le_of_ble_eq_true rfl) (by rw [ml_138]; exact Nat.le_of_ble_eq_true rfl) rfl (by rw [cy_138]; decide) (by rw [cy_138]; exact (by decide : x_tg 56 = 6)) hP1 (fun v1 S1 hp1 => ?_)
      have hV := hV v1 S1 hp1
      refine e_if f_137_80 (fun hc => ?_) (fun hc => ?_)
      · have hc := x_cct_eq hc
        rw [if_pos hc] at hV
        refine e_aload f_137_88 rfl (by decide) ?_
        refine e_gr (c := 6) (j := 0) (r := 57) f_137_89 (by decide) (by decide) (by decide) (by decide) ?_
        refine e_iconst (c := 27) f_137_92 (by decide) ?_
        refine e_iak (n := 99) (kk := 27) f_137_94 (by decide) (by decide) (by decide) ?_
        exact e_ireturn f_137_95 rt_137 rfl hV
      · have hc := x_ccf_eq hc
        rw [if_neg hc] at hV
        refine e_iconst (c := (-1000000)) f_137_83 (by decide) ?_
        refine e_goto f_137_85 ?_
        exact e_ireturn f_137_95 rt_137 rfl hV
    rw [if_neg hx2] at hV
    by_cases hx3 : a1 = 3
    · rw [if_pos hx3] at hV
      refine e_ts f_137_13 hx3 (t := 96) (by decide) ?_
      refine e_aload f_137_96 rfl (by decide) ?_
      refine e_gr (c := 6) (j := 0) (r := 57) f_137_97 (by decide) (by decide) (by decide) (by decide) ?_
      refine e_iconst (c := 28) f_137_100 (by decide) ?_
      refine e_iload f_137_102 rfl ?_
      refine e_iadd f_137_103 ?_
      refine e_iconst (c := 3) f_137_104 (by decide) ?_
      refine e_isub f_137_105 ?_
      obtain ⟨hg, hV⟩ := hV
      refine e_ia (n := 99) f_137_106 (by decide) (by decide) hg ?_
      exact e_ireturn f_137_107 rt_137 rfl hV
    rw [if_neg hx3] at hV
    by_cases hx4 : a1 = 4
    · rw [if_pos hx4] at hV
      refine e_ts f_137_13 hx4 (t := 96) (by decide) ?_
      refine e_aload f_137_96 rfl (by decide) ?_
      refine e_gr (c := 6) (j := 0) (r := 57) f_137_97 (by decide) (by decide) (by decide) (by decide) ?_
      refine e_iconst (c := 28) f_137_100 (by decide) ?_
      refine e_iload f_137_102 rfl ?_
      refine e_iadd f_137_103 ?_
      refine e_iconst (c := 3) f_137_104 (by decide) ?_
      refine e_isub f_137_105 ?_
      obtain ⟨hg, hV⟩ := hV
      refine e_ia (n := 99) f_137_106 (by decide) (by decide) hg ?_
      exact e_ireturn f_137_107 rt_137 rfl hV
    rw [if_neg hx4] at hV
    by_cases hx5 : a1 = 5
    · rw [if_pos hx5] at hV
      refine e_ts f_137_13 hx5 (t := 108) (by decide) ?_
      refine e_aload f_137_108 rfl (by decide) ?_
      refine e_gr (c := 6) (j := 0) (r := 57) f_137_109 (by decide) (by decide) (by decide) (by decide) ?_
      refine e_iconst (c := 30) f_137_112 (by decide) ?_
      refine e_iload f_137_114 rfl ?_
      refine e_iadd f_137_115 ?_
      refine e_iconst (c := 5) f_137_116 (by decide) ?_
      refine e_isub f_137_117 ?_
      obtain ⟨hg, hV⟩ := hV
      refine e_ia (n := 99) f_137_118 (by decide) (by decide) hg ?_
      exact e_ireturn f_137_119 rt_137 rfl hV
    rw [if_neg hx5] at hV
    by_cases hx6 : a1 = 6
    · rw [if_pos hx6] at hV
      refine e_ts f_137_13 hx6 (t := 108) (by decide) ?_
      refine e_aload f_137_108 rfl (by decide) ?_
      refine e_gr (c := 6) (j := 0) (r := 57) f_137_109 (by decide) (by decide) (by decide) (by decide) ?_
      refine e_iconst (c := 30) f_137_112 (by decide) ?_
      refine e_iload f_137_114 rfl ?_
      refine e_iadd f_137_115 ?_
      refine e_iconst (c := 5) f_137_116 (by decide) ?_
      refine e_isub f_137_117 ?_
      obtain ⟨hg, hV⟩ := hV
      refine e_ia (n := 99) f_137_118 (by decide) (by decide) hg ?_
      exact e_ireturn f_137_119 rt_137 rfl hV
    rw [if_neg hx6] at hV
    by_cases hx7 : a1 = 7
    · rw [if_pos hx7] at hV
      refine e_ts f_137_13 hx7 (t := 120) (by decide) ?_
      refine e_aload f_137_120 rfl (by decide) ?_
      refine e_gr (c := 6) (j := 0) (r := 57) f_137_121 (by decide) (by decide) (by decide) (by decide) ?_
      refine e_iconst (c := 32) f_137_124 (by decide) ?_
      refine e_iak (n := 99) (kk := 32) f_137_126 (by decide) (by decide) (by decide) ?_
      exact e_ireturn f_137_127 rt_137 rfl hV
    rw [if_neg hx7] at hV
    have hy0 := lv_neT (a := 0) hx0 (by decide)
    have hy1 := lv_neT (a := 1) hx1 (by decide)
    have hy2 := lv_neT (a := 2) hx2 (by decide)
    have hy3 := lv_neT (a := 3) hx3 (by decide)
    have hy4 := lv_neT (a := 4) hx4 (by decide)
    have hy5 := lv_neT (a := 5) hx5 (by decide)
    have hy6 := lv_neT (a := 6) hx6 (by decide)
    have hy7 := lv_neT (a := 7) hx7 (by decide)
    refine e_tsd f_137_13 (by omega) (t := 128) (by decide) ?_
    refine e_iconst (c := (-1000001)) f_137_128 (by decide) ?_
    exact e_ireturn f_137_130 rt_137 rfl hV
  · have hc := x_ccf_ne hc
    rw [if_pos hc] at hV
    refine e_iconst (c := (-1000002)) f_137_9 (by decide) ?_
    exact e_ireturn f_137_11 rt_137 rfl hV
set_option maxRecDepth 20000 in
theorem T_138_0 {xs : List Int32} {d : Nat} {S : x_M} {Q : Option Value → x_M → Prop}   (hV : if (S 57 30) = 0 then (if (S 57 31) = 0 then (Q (some (.int 1)) S) else (Q (some (.int 0)) S)) else (Q (some (.int 0)) S)) : x_E xs (d + 1) 138 0 [.ref 56] [] S Q := by
  refine e_aload f_138_0 rfl (by decide) ?_
  refine e_gr (c := 6) (j := 0) (r := 57) f_138_1 (by decide) (by decide) (by decide) (by decide) ?_
  refine e_iconst (c := 30) f_138_4 (by decide) ?_
  refine e_iak (n := 99) (kk := 30) f_138_6 (by decide) (by decide) (by decide) ?_
  refine e_if f_138_7 (fun hc => ?_) (fun hc => ?_)
  · have hc := x_cct_ne hc
    rw [if_neg hc] at hV
    refine e_iconst (c := 0) f_138_24 (by decide) ?_
    exact e_ireturn f_138_25 rt_138 (by decide) hV
  · have hc := x_ccf_ne hc
    rw [if_pos hc] at hV
    refine e_aload f_138_10 rfl (by decide) ?_
    refine e_gr (c := 6) (j := 0) (r := 57) f_138_11 (by decide) (by decide) (by decide) (by decide) ?_
    refine e_iconst (c := 31) f_138_14 (by decide) ?_
    refine e_iak (n := 99) (kk := 31) f_138_16 (by decide) (by decide) (by decide) ?_
    refine e_if f_138_17 (fun hc => ?_) (fun hc => ?_)
    · have hc := x_cct_ne hc
      rw [if_neg hc] at hV
      refine e_iconst (c := 0) f_138_24 (by decide) ?_
      exact e_ireturn f_138_25 rt_138 (by decide) hV
    · have hc := x_ccf_ne hc
      rw [if_pos hc] at hV
      refine e_iconst (c := 1) f_138_20 (by decide) ?_
      refine e_goto f_138_21 ?_
      exact e_ireturn f_138_25 rt_138 (by decide) hV
set_option maxRecDepth 20000 in
theorem T_139_0 {xs : List Int32} {d : Nat} {S : x_M} {Q : Option Value → x_M → Prop} {a1 : Int32}  (hV : if (S 57 0) = 0 then (Q (some (.int (-1000002))) S) else (∃ P1 : Int32 → x_M → Prop, x_Ci xs d 101 [.long (Int32.toInt64 a1), .long 0, .long 1] S P1 ∧ ∀ (v1 : Int32) (S1 : x_M), P1 v1 S1 → (if v1 = 0 then (Q (some (.int (-1000001))) S1) else (∃ P2 : Int32 → x_M → Prop, x_Ci xs d 138 [.ref 56] S1 P2 ∧ ∀ (v2 : Int32) (S2 : x_M), P2 v2 S2 → (if v2 = 0 then (∃ P3 : Int32 → x_M → Prop, x_Ci xs d 136 [.int (S2 57 30)] S2 P3 ∧ ∀ (v3 : Int32) (S3 : x_M), P3 v3 S3 → (∃ P4 : Int32 → x_M → Prop, x_Ci xs d 136 [.int (S3 57 31)] S3 P4 ∧ ∀ (v4 : Int32) (S4 : x_M), P4 v4 S4 → (if (v3 + v4) ≤ 4 then (∃ P5 : x_M → Prop, x_Cv xs d 140 [.ref 56] S4 P5 ∧ ∀ (S5 : x_M), P5 S5 → (if a1 = 0 then (Q (some (.int (S5 73 0))) S5) else (Q (some (.int (S5 56 25))) S5))) else (Q (some (.int (-1000000))) S4)))) else (Q (some (.int (-1000000))) S2)))))) : x_E xs (d + 1) 139 0 [.ref 56, .int a1] [] S Q := by
  refine e_aload f_139_0 rfl (by decide) ?_
  refine e_gr (c := 6) (j := 0) (r := 57) f_139_1 (by decide) (by decide) (by decide) (by decide) ?_
  refine e_iconst (c := 0) f_139_4 (by decide) ?_
  refine e_iak (n := 99) (kk := 0) f_139_5 (by decide) (by decide) (by decide) ?_
  refine e_if f_139_6 (fun hc => ?_) (fun hc => ?_)
  · have hc := x_cct_ne hc
    rw [if_neg hc] at hV
    refine e_iload f_139_12 rfl ?_
    refine e_i2l f_139_13 ?_
    refine e_lconst (c := 0) f_139_14 (by decide) ?_
    refine e_lconst (c := 1) f_139_15 (by decide) ?_
    obtain ⟨P1, hP1, hV⟩ := hV
    refine e_si (n := 3) (A := [.long (Int32.toInt64 a1), .long 0, .long 1]) (R := []) f_139_16 na_101 rfl rfl (Nat.le_of_ble_eq_true rfl) (Nat.le_of_ble_eq_true rfl) (by rw [ml_101]; exact Nat.le_of_ble_eq_true rfl) hP1 (fun v1 S1 hp1 => ?_)
    have hV := hV v1 S1 hp1
    refine e_if f_139_19 (fun hc => ?_) (fun hc => ?_)
    · have hc := x_cct_ne hc
      rw [if_neg hc] at hV
      refine e_aload f_139_25 rfl (by decide) ?_
      obtain ⟨P2, hP2, hV⟩ := hV
      refine e_vi (n := 1) (A := [.ref 56]) (R := []) f_139_26 na_138 rfl rfl (Nat.le_of_ble_eq_true rfl) (Nat.le_of_ble_eq_true rfl) (by rw [ml_138]; exact Nat.le_of_ble_eq_true rfl) rfl (by rw [cy_138]; decide) (by rw [cy_138]; exact (by decide : x_tg 56 = 6)) hP2 (fun v2 S2 hp2 => ?_)
      have hV := hV v2 S2 hp2
      refine e_if f_139_29 (fun hc => ?_) (fun hc => ?_)
      · have hc := x_cct_ne hc
        rw [if_neg hc] at hV
        refine e_iconst (c := (-1000000)) f_139_57 (by decide) ?_
        exact e_ireturn f_139_59 rt_139 rfl hV
      · have hc := x_ccf_ne hc
        rw [if_pos hc] at hV
        refine e_aload f_139_32 rfl (by decide) ?_
        refine e_gr (c := 6) (j := 0) (r := 57) f_139_33 (by decide) (by decide) (by decide) (by decide) ?_
        refine e_iconst (c := 30) f_139_36 (by decide) ?_
        refine e_iak (n := 99) (kk := 30) f_139_38 (by decide) (by decide) (by decide) ?_
        obtain ⟨P3, hP3, hV⟩ := hV
        refine e_si (n := 1) (A := [.int (S2 57 30)]) (R := []) f_139_39 na_136 rfl rfl (Nat.le_of_ble_eq_true rfl) (Nat.le_of_ble_eq_true rfl) (by rw [ml_136]; exact Nat.le_of_ble_eq_true rfl) hP3 (fun v3 S3 hp3 => ?_)
        have hV := hV v3 S3 hp3
        refine e_aload f_139_42 rfl (by decide) ?_
        refine e_gr (c := 6) (j := 0) (r := 57) f_139_43 (by decide) (by decide) (by decide) (by decide) ?_
        refine e_iconst (c := 31) f_139_46 (by decide) ?_
        refine e_iak (n := 99) (kk := 31) f_139_48 (by decide) (by decide) (by decide) ?_
        obtain ⟨P4, hP4, hV⟩ := hV
        refine e_si (n := 1) (A := [.int (S3 57 31)]) (R := [.int v3]) f_139_49 na_136 rfl rfl (Nat.le_of_ble_eq_true rfl) (Nat.le_of_ble_eq_true rfl) (by rw [ml_136]; exact Nat.le_of_ble_eq_true rfl) hP4 (fun v4 S4 hp4 => ?_)
        have hV := hV v4 S4 hp4
        refine e_iadd f_139_52 ?_
        refine e_iconst (c := 4) f_139_53 (by decide) ?_
        refine e_icmp f_139_54 (fun hc => ?_) (fun hc => ?_)
        · have hc := x_cct_le hc
          rw [if_pos hc] at hV
          refine e_aload f_139_60 rfl (by decide) ?_
          obtain ⟨P5, hP5, hV⟩ := hV
          refine e_vv (n := 1) (A := [.ref 56]) (R := []) f_139_61 na_140 rfl rfl (Nat.le_of_ble_eq_true rfl) (Nat.le_of_ble_eq_true rfl) (by rw [ml_140]; exact Nat.le_of_ble_eq_true rfl) rfl (by rw [cy_140]; decide) (by rw [cy_140]; exact (by decide : x_tg 56 = 6)) hP5 (fun S5 hp5 => ?_)
          have hV := hV S5 hp5
          refine e_iload f_139_64 rfl ?_
          refine e_if f_139_65 (fun hc => ?_) (fun hc => ?_)
          · have hc := x_cct_ne hc
            rw [if_neg hc] at hV
            refine e_aload f_139_77 rfl (by decide) ?_
            refine e_gf (c := 6) (j := 25) f_139_78 (by decide) (by decide) (by decide) ?_
            exact e_ireturn f_139_81 rt_139 rfl hV
          · have hc := x_ccf_ne hc
            rw [if_pos hc] at hV
            refine e_aload f_139_68 rfl (by decide) ?_
            refine e_gr (c := 6) (j := 24) (r := 73) f_139_69 (by decide) (by decide) (by decide) (by decide) ?_
            refine e_iconst (c := 0) f_139_72 (by decide) ?_
            refine e_iak (n := 6) (kk := 0) f_139_73 (by decide) (by decide) (by decide) ?_
            refine e_goto f_139_74 ?_
            exact e_ireturn f_139_81 rt_139 rfl hV
        · have hc := x_ccf_le hc
          rw [if_neg hc] at hV
          refine e_iconst (c := (-1000000)) f_139_57 (by decide) ?_
          exact e_ireturn f_139_59 rt_139 rfl hV
    · have hc := x_ccf_ne hc
      rw [if_pos hc] at hV
      refine e_iconst (c := (-1000001)) f_139_22 (by decide) ?_
      exact e_ireturn f_139_24 rt_139 rfl hV
  · have hc := x_ccf_ne hc
    rw [if_pos hc] at hV
    refine e_iconst (c := (-1000002)) f_139_9 (by decide) ?_
    exact e_ireturn f_139_11 rt_139 rfl hV
set_option maxRecDepth 20000 in
theorem T_140_0 {xs : List Int32} {d : Nat} {S : x_M} {Q : Option Value → x_M → Prop}   (hV : ∀ S1 : x_M, S1 = x_up S 70 0 (S 57 30) → (∀ S2 : x_M, S2 = x_up S1 70 1 (S1 57 31) → (∃ P3 : x_M → Prop, x_Cv xs d 141 [.ref 56, .int 0, .int (S2 57 25), .int (S2 57 27)] S2 P3 ∧ ∀ (S3 : x_M), P3 S3 → (∀ S4 : x_M, S4 = x_up S3 56 25 (-1000000) → (x_E xs (d + 1) 140 53 [.ref 56, .int 0, .null, .null] [] S4 Q))))) : x_E xs (d + 1) 140 0 [.ref 56, .null, .null, .null] [] S Q := by
  refine e_aload f_140_0 rfl (by decide) ?_
  refine e_gr (c := 6) (j := 21) (r := 70) f_140_1 (by decide) (by decide) (by decide) (by decide) ?_
  refine e_iconst (c := 0) f_140_4 (by decide) ?_
  refine e_aload f_140_5 rfl (by decide) ?_
  refine e_gr (c := 6) (j := 0) (r := 57) f_140_6 (by decide) (by decide) (by decide) (by decide) ?_
  refine e_iconst (c := 30) f_140_9 (by decide) ?_
  refine e_iak (n := 99) (kk := 30) f_140_11 (by decide) (by decide) (by decide) ?_
  refine e_iskn (n := 12) (kk := 0) f_140_12 (by decide) (by decide) (by decide) (fun S1 hS1 => ?_)
  have hV := hV S1 hS1
  refine e_aload f_140_13 rfl (by decide) ?_
  refine e_gr (c := 6) (j := 21) (r := 70) f_140_14 (by decide) (by decide) (by decide) (by decide) ?_
  refine e_iconst (c := 1) f_140_17 (by decide) ?_
  refine e_aload f_140_18 rfl (by decide) ?_
  refine e_gr (c := 6) (j := 0) (r := 57) f_140_19 (by decide) (by decide) (by decide) (by decide) ?_
  refine e_iconst (c := 31) f_140_22 (by decide) ?_
  refine e_iak (n := 99) (kk := 31) f_140_24 (by decide) (by decide) (by decide) ?_
  refine e_iskn (n := 12) (kk := 1) f_140_25 (by decide) (by decide) (by decide) (fun S2 hS2 => ?_)
  have hV := hV S2 hS2
  refine e_aload f_140_26 rfl (by decide) ?_
  refine e_iconst (c := 0) f_140_27 (by decide) ?_
  refine e_aload f_140_28 rfl (by decide) ?_
  refine e_gr (c := 6) (j := 0) (r := 57) f_140_29 (by decide) (by decide) (by decide) (by decide) ?_
  refine e_iconst (c := 25) f_140_32 (by decide) ?_
  refine e_iak (n := 99) (kk := 25) f_140_34 (by decide) (by decide) (by decide) ?_
  refine e_aload f_140_35 rfl (by decide) ?_
  refine e_gr (c := 6) (j := 0) (r := 57) f_140_36 (by decide) (by decide) (by decide) (by decide) ?_
  refine e_iconst (c := 27) f_140_39 (by decide) ?_
  refine e_iak (n := 99) (kk := 27) f_140_41 (by decide) (by decide) (by decide) ?_
  obtain ⟨P3, hP3, hV⟩ := hV
  refine e_vv (n := 4) (A := [.ref 56, .int 0, .int (S2 57 25), .int (S2 57 27)]) (R := []) f_140_42 na_141 rfl rfl (Nat.le_of_ble_eq_true rfl) (Nat.le_of_ble_eq_true rfl) (by rw [ml_141]; exact Nat.le_of_ble_eq_true rfl) rfl (by rw [cy_141]; decide) (by rw [cy_141]; exact (by decide : x_tg 56 = 6)) hP3 (fun S3 hp3 => ?_)
  have hV := hV S3 hp3
  refine e_aload f_140_45 rfl (by decide) ?_
  refine e_iconst (c := (-1000000)) f_140_46 (by decide) ?_
  refine e_pfn (c := 6) (j := 25) f_140_48 (by decide) (by decide) (by decide) (x_fit_i rfl) (fun S4 hS4 => ?_)
  have hV := hV S4 hS4
  refine e_iconst (c := 0) f_140_51 (by decide) ?_
  refine e_istore (L' := [.ref 56, .int 0, .null, .null]) f_140_52 (Nat.le_of_ble_eq_true rfl) rfl ?_
  exact hV
set_option maxRecDepth 20000 in
theorem T_140_53 {xs : List Int32} {d : Nat} {S : x_M} {Q : Option Value → x_M → Prop} {a1 : Int32} {a2 : Value} {a3 : Value}  (hV : if a1 < 0 then (Q none S) else ((x_ib (2 * a1) 12) ∧ (if (S 70 (Int32.toNatClampNeg (2 * a1))) = 0 then ((x_ib ((2 * a1) + 1) 12) ∧ (if (S 70 (Int32.toNatClampNeg ((2 * a1) + 1))) = 0 then (x_E xs (d + 1) 140 123 [.ref 56, .int a1, .int 1, a3] [] S Q) else (x_E xs (d + 1) 140 81 [.ref 56, .int a1, a2, a3] [] S Q))) else (x_E xs (d + 1) 140 81 [.ref 56, .int a1, a2, a3] [] S Q)))) : x_E xs (d + 1) 140 53 [.ref 56, .int a1, a2, a3] [] S Q := by
  refine e_iload f_140_53 rfl ?_
  refine e_if f_140_54 (fun hc => ?_) (fun hc => ?_)
  · have hc := x_cct_lt hc
    rw [if_pos hc] at hV
    exact e_return f_140_262 rt_140 hV
  · have hc := x_ccf_lt hc
    rw [if_neg hc] at hV
    refine e_aload f_140_57 rfl (by decide) ?_
    refine e_gr (c := 6) (j := 21) (r := 70) f_140_58 (by decide) (by decide) (by decide) (by decide) ?_
    refine e_iconst (c := 2) f_140_61 (by decide) ?_
    refine e_iload f_140_62 rfl ?_
    refine e_imul f_140_63 ?_
    obtain ⟨hg, hV⟩ := hV
    refine e_ia (n := 12) f_140_64 (by decide) (by decide) hg ?_
    refine e_if f_140_65 (fun hc => ?_) (fun hc => ?_)
    · have hc := x_cct_ne hc
      rw [if_neg hc] at hV
      exact hV
    · have hc := x_ccf_ne hc
      rw [if_pos hc] at hV
      refine e_aload f_140_68 rfl (by decide) ?_
      refine e_gr (c := 6) (j := 21) (r := 70) f_140_69 (by decide) (by decide) (by decide) (by decide) ?_
      refine e_iconst (c := 2) f_140_72 (by decide) ?_
      refine e_iload f_140_73 rfl ?_
      refine e_imul f_140_74 ?_
      refine e_iconst (c := 1) f_140_75 (by decide) ?_
      refine e_iadd f_140_76 ?_
      obtain ⟨hg, hV⟩ := hV
      refine e_ia (n := 12) f_140_77 (by decide) (by decide) hg ?_
      refine e_if f_140_78 (fun hc => ?_) (fun hc => ?_)
      · have hc := x_cct_eq hc
        rw [if_pos hc] at hV
        refine e_iconst (c := 1) f_140_99 (by decide) ?_
        refine e_goto f_140_100 ?_
        refine e_istore (L' := [.ref 56, .int a1, .int 1, a3]) f_140_104 (Nat.le_of_ble_eq_true rfl) rfl ?_
        refine e_iload f_140_105 rfl ?_
        refine e_if f_140_106 (fun hc => ?_) (fun hc => absurd (by decide) hc)
        exact hV
      · have hc := x_ccf_eq hc
        rw [if_neg hc] at hV
        exact hV
set_option maxRecDepth 20000 in
theorem T_140_81 {xs : List Int32} {d : Nat} {S : x_M} {Q : Option Value → x_M → Prop} {a1 : Int32} {a2 : Value} {a3 : Value}  (hV : (x_ib a1 6) ∧ (if (S 71 (Int32.toNatClampNeg a1)) = (8 * (S 57 1)) then (x_E xs (d + 1) 140 123 [.ref 56, .int a1, .int 1, a3] [] S Q) else (∃ P1 : Int32 → x_M → Prop, x_Ci xs d 142 [.ref 56, .int a1] S P1 ∧ ∀ (v1 : Int32) (S1 : x_M), P1 v1 S1 → (if v1 = 0 then (x_E xs (d + 1) 140 123 [.ref 56, .int a1, .int 0, a3] [] S1 Q) else (x_E xs (d + 1) 140 53 [.ref 56, .int (a1 + 1), .int 0, a3] [] S1 Q))))) : x_E xs (d + 1) 140 81 [.ref 56, .int a1, a2, a3] [] S Q := by
  refine e_aload f_140_81 rfl (by decide) ?_
  refine e_gr (c := 6) (j := 22) (r := 71) f_140_82 (by decide) (by decide) (by decide) (by decide) ?_
  refine e_iload f_140_85 rfl ?_
  obtain ⟨hg, hV⟩ := hV
  refine e_ia (n := 6) f_140_86 (by decide) (by decide) hg ?_
  refine e_iconst (c := 8) f_140_87 (by decide) ?_
  refine e_aload f_140_89 rfl (by decide) ?_
  refine e_gr (c := 6) (j := 0) (r := 57) f_140_90 (by decide) (by decide) (by decide) (by decide) ?_
  refine e_iconst (c := 1) f_140_93 (by decide) ?_
  refine e_iak (n := 99) (kk := 1) f_140_94 (by decide) (by decide) (by decide) ?_
  refine e_imul f_140_95 ?_
  refine e_icmp f_140_96 (fun hc => ?_) (fun hc => ?_)
  · have hc := x_cct_ne hc
    rw [if_neg hc] at hV
    refine e_iconst (c := 0) f_140_103 (by decide) ?_
    refine e_istore (L' := [.ref 56, .int a1, .int 0, a3]) f_140_104 (Nat.le_of_ble_eq_true rfl) rfl ?_
    refine e_iload f_140_105 rfl ?_
    refine e_if f_140_106 (fun hc => absurd hc (by decide)) (fun hc => ?_)
    refine e_aload f_140_109 rfl (by decide) ?_
    refine e_iload f_140_110 rfl ?_
    obtain ⟨P1, hP1, hV⟩ := hV
    refine e_vi (n := 2) (A := [.ref 56, .int a1]) (R := []) f_140_111 na_142 rfl rfl (Nat.le_of_ble_eq_true rfl) (Nat.le_of_ble_eq_true rfl) (by rw [ml_142]; exact Nat.le_of_ble_eq_true rfl) rfl (by rw [cy_142]; decide) (by rw [cy_142]; exact (by decide : x_tg 56 = 6)) hP1 (fun v1 S1 hp1 => ?_)
    have hV := hV v1 S1 hp1
    refine e_if f_140_114 (fun hc => ?_) (fun hc => ?_)
    · have hc := x_cct_eq hc
      rw [if_pos hc] at hV
      exact hV
    · have hc := x_ccf_eq hc
      rw [if_neg hc] at hV
      refine e_inc (c := 1) (L' := [.ref 56, .int (a1 + 1), .int 0, a3]) f_140_117 rfl (by decide) rfl ?_
      refine e_goto f_140_120 ?_
      refine e_goto f_140_259 ?_
      exact hV
  · have hc := x_ccf_ne hc
    rw [if_pos hc] at hV
    refine e_iconst (c := 1) f_140_99 (by decide) ?_
    refine e_goto f_140_100 ?_
    refine e_istore (L' := [.ref 56, .int a1, .int 1, a3]) f_140_104 (Nat.le_of_ble_eq_true rfl) rfl ?_
    refine e_iload f_140_105 rfl ?_
    refine e_if f_140_106 (fun hc => ?_) (fun hc => absurd (by decide) hc)
    exact hV
set_option maxRecDepth 20000 in
theorem T_140_123 {xs : List Int32} {d : Nat} {S : x_M} {Q : Option Value → x_M → Prop} {a1 : Int32} {a2 : Int32} {a3 : Value}  (hV : if a2 = 0 then ((x_ib a1 6) ∧ ((x_ib a1 6) ∧ (∀ S1 : x_M, S1 = x_up S 71 (Int32.toNatClampNeg a1) ((S 71 (Int32.toNatClampNeg a1)) + 1) → (x_E xs (d + 1) 140 53 [.ref 56, .int a1, .int a2, a3] [] S1 Q)))) else (if (a1 + (-1)) < 0 then (x_E xs (d + 1) 140 53 [.ref 56, .int (a1 + (-1)), .int a2, a3] [] S Q) else ((x_ib (a1 + (-1)) 6) ∧ ((x_ib ((a1 + (-1)) + 1) 6) ∧ ((x_ib (a1 + (-1)) 6) ∧ (if (S 69 (Int32.toNatClampNeg ((a1 + (-1)) + 1))) = (S 69 (Int32.toNatClampNeg (a1 + (-1)))) then ((x_ib ((a1 + (-1)) + 1) 6) ∧ (x_E xs (d + 1) 140 190 [.ref 56, .int (a1 + (-1)), .int a2, a3] [.int (S 73 (Int32.toNatClampNeg ((a1 + (-1)) + 1))), .int (S 72 (Int32.toNatClampNeg (a1 + (-1))))] S Q)) else ((x_ib ((a1 + (-1)) + 1) 6) ∧ (x_E xs (d + 1) 140 190 [.ref 56, .int (a1 + (-1)), .int a2, a3] [.int (-(S 73 (Int32.toNatClampNeg ((a1 + (-1)) + 1)))), .int (S 72 (Int32.toNatClampNeg (a1 + (-1))))] S Q)))))))) : x_E xs (d + 1) 140 123 [.ref 56, .int a1, .int a2, a3] [] S Q := by
  refine e_iload f_140_123 rfl ?_
  refine e_if f_140_124 (fun hc => ?_) (fun hc => ?_)
  · have hc := x_cct_ne hc
    rw [if_neg hc] at hV
    refine e_inc (c := (-1)) (L' := [.ref 56, .int (a1 + (-1)), .int a2, a3]) f_140_140 rfl (by decide) rfl ?_
    refine e_iload f_140_143 rfl ?_
    refine e_if f_140_144 (fun hc => ?_) (fun hc => ?_)
    · have hc := x_cct_lt hc
      rw [if_pos hc] at hV
      refine e_goto f_140_259 ?_
      exact hV
    · have hc := x_ccf_lt hc
      rw [if_neg hc] at hV
      refine e_aload f_140_147 rfl (by decide) ?_
      refine e_gr (c := 6) (j := 23) (r := 72) f_140_148 (by decide) (by decide) (by decide) (by decide) ?_
      refine e_iload f_140_151 rfl ?_
      obtain ⟨hg, hV⟩ := hV
      refine e_ia (n := 6) f_140_152 (by decide) (by decide) hg ?_
      refine e_aload f_140_153 rfl (by decide) ?_
      refine e_gr (c := 6) (j := 20) (r := 69) f_140_154 (by decide) (by decide) (by decide) (by decide) ?_
      refine e_iload f_140_157 rfl ?_
      refine e_iconst (c := 1) f_140_158 (by decide) ?_
      refine e_iadd f_140_159 ?_
      obtain ⟨hg, hV⟩ := hV
      refine e_ia (n := 6) f_140_160 (by decide) (by decide) hg ?_
      refine e_aload f_140_161 rfl (by decide) ?_
      refine e_gr (c := 6) (j := 20) (r := 69) f_140_162 (by decide) (by decide) (by decide) (by decide) ?_
      refine e_iload f_140_165 rfl ?_
      obtain ⟨hg, hV⟩ := hV
      refine e_ia (n := 6) f_140_166 (by decide) (by decide) hg ?_
      refine e_icmp f_140_167 (fun hc => ?_) (fun hc => ?_)
      · have hc := x_cct_ne hc
        rw [if_neg hc] at hV
        refine e_aload f_140_181 rfl (by decide) ?_
        refine e_gr (c := 6) (j := 24) (r := 73) f_140_182 (by decide) (by decide) (by decide) (by decide) ?_
        refine e_iload f_140_185 rfl ?_
        refine e_iconst (c := 1) f_140_186 (by decide) ?_
        refine e_iadd f_140_187 ?_
        obtain ⟨hg, hV⟩ := hV
        refine e_ia (n := 6) f_140_188 (by decide) (by decide) hg ?_
        refine e_ineg f_140_189 ?_
        exact hV
      · have hc := x_ccf_ne hc
        rw [if_pos hc] at hV
        refine e_aload f_140_170 rfl (by decide) ?_
        refine e_gr (c := 6) (j := 24) (r := 73) f_140_171 (by decide) (by decide) (by decide) (by decide) ?_
        refine e_iload f_140_174 rfl ?_
        refine e_iconst (c := 1) f_140_175 (by decide) ?_
        refine e_iadd f_140_176 ?_
        obtain ⟨hg, hV⟩ := hV
        refine e_ia (n := 6) f_140_177 (by decide) (by decide) hg ?_
        refine e_goto f_140_178 ?_
        exact hV
  · have hc := x_ccf_ne hc
    rw [if_pos hc] at hV
    refine e_aload f_140_127 rfl (by decide) ?_
    refine e_gr (c := 6) (j := 22) (r := 71) f_140_128 (by decide) (by decide) (by decide) (by decide) ?_
    refine e_iload f_140_131 rfl ?_
    refine e_dup2 f_140_132 ⟨rfl, rfl⟩ ?_
    obtain ⟨hg, hV⟩ := hV
    refine e_ia (n := 6) f_140_133 (by decide) (by decide) hg ?_
    refine e_iconst (c := 1) f_140_134 (by decide) ?_
    refine e_iadd f_140_135 ?_
    obtain ⟨hg, hV⟩ := hV
    refine e_isn (n := 6) f_140_136 (by decide) (by decide) hg (fun S1 hS1 => ?_)
    have hV := hV S1 hS1
    refine e_goto f_140_137 ?_
    refine e_goto f_140_259 ?_
    exact hV
set_option maxRecDepth 20000 in
theorem T_140_190 {xs : List Int32} {d : Nat} {S : x_M} {Q : Option Value → x_M → Prop} {a1 : Int32} {a2 : Int32} {a3 : Value} {s0 : Int32} {s1 : Int32}  (hV : if a1 = 0 then (if (s0 + s1) ≤ (S 73 0) then (x_E xs (d + 1) 140 220 [.ref 56, .int a1, .int a2, .int (s0 + s1)] [.int (S 56 25), .ref 56] S Q) else (x_E xs (d + 1) 140 220 [.ref 56, .int a1, .int a2, .int (s0 + s1)] [.int (S 71 0), .ref 56] S Q)) else (x_E xs (d + 1) 140 220 [.ref 56, .int a1, .int a2, .int (s0 + s1)] [.int (S 56 25), .ref 56] S Q)) : x_E xs (d + 1) 140 190 [.ref 56, .int a1, .int a2, a3] [.int s1, .int s0] S Q := by
  refine e_iadd f_140_190 ?_
  refine e_istore (L' := [.ref 56, .int a1, .int a2, .int (s0 + s1)]) f_140_191 (Nat.le_of_ble_eq_true rfl) rfl ?_
  refine e_aload f_140_192 rfl (by decide) ?_
  refine e_iload f_140_193 rfl ?_
  refine e_if f_140_194 (fun hc => ?_) (fun hc => ?_)
  · have hc := x_cct_ne hc
    rw [if_neg hc] at hV
    refine e_aload f_140_216 rfl (by decide) ?_
    refine e_gf (c := 6) (j := 25) f_140_217 (by decide) (by decide) (by decide) ?_
    exact hV
  · have hc := x_ccf_ne hc
    rw [if_pos hc] at hV
    refine e_iload f_140_197 rfl ?_
    refine e_aload f_140_198 rfl (by decide) ?_
    refine e_gr (c := 6) (j := 24) (r := 73) f_140_199 (by decide) (by decide) (by decide) (by decide) ?_
    refine e_iconst (c := 0) f_140_202 (by decide) ?_
    refine e_iak (n := 6) (kk := 0) f_140_203 (by decide) (by decide) (by decide) ?_
    refine e_icmp f_140_204 (fun hc => ?_) (fun hc => ?_)
    · have hc := x_cct_le hc
      rw [if_pos hc] at hV
      refine e_aload f_140_216 rfl (by decide) ?_
      refine e_gf (c := 6) (j := 25) f_140_217 (by decide) (by decide) (by decide) ?_
      exact hV
    · have hc := x_ccf_le hc
      rw [if_neg hc] at hV
      refine e_aload f_140_207 rfl (by decide) ?_
      refine e_gr (c := 6) (j := 22) (r := 71) f_140_208 (by decide) (by decide) (by decide) (by decide) ?_
      refine e_iconst (c := 0) f_140_211 (by decide) ?_
      refine e_iak (n := 6) (kk := 0) f_140_212 (by decide) (by decide) (by decide) ?_
      refine e_goto f_140_213 ?_
      exact hV
set_option maxRecDepth 20000 in
theorem T_140_220 {xs : List Int32} {d : Nat} {S : x_M} {Q : Option Value → x_M → Prop} {a1 : Int32} {a2 : Int32} {a3 : Int32} {s1 : Int32}  (hV : ∀ S1 : x_M, S1 = x_up S 56 25 s1 → ((x_ib a1 6) ∧ (if a3 ≤ (S1 73 (Int32.toNatClampNeg a1)) then ((x_ib a1 6) ∧ ((x_ib a1 6) ∧ (∀ S2 : x_M, S2 = x_up S1 73 (Int32.toNatClampNeg a1) (S1 73 (Int32.toNatClampNeg a1)) → ((x_ib a1 6) ∧ ((x_ib a1 6) ∧ (∀ S3 : x_M, S3 = x_up S2 71 (Int32.toNatClampNeg a1) ((S2 71 (Int32.toNatClampNeg a1)) + 1) → (x_E xs (d + 1) 140 53 [.ref 56, .int a1, .int a2, .int a3] [] S3 Q))))))) else ((x_ib a1 6) ∧ (∀ S4 : x_M, S4 = x_up S1 73 (Int32.toNatClampNeg a1) a3 → ((x_ib a1 6) ∧ ((x_ib a1 6) ∧ (∀ S5 : x_M, S5 = x_up S4 71 (Int32.toNatClampNeg a1) ((S4 71 (Int32.toNatClampNeg a1)) + 1) → (x_E xs (d + 1) 140 53 [.ref 56, .int a1, .int a2, .int a3] [] S5 Q))))))))) : x_E xs (d + 1) 140 220 [.ref 56, .int a1, .int a2, .int a3] [.int s1, .ref 56] S Q := by
  refine e_pfn (c := 6) (j := 25) f_140_220 (by decide) (by decide) (by decide) (x_fit_i rfl) (fun S1 hS1 => ?_)
  have hV := hV S1 hS1
  refine e_aload f_140_223 rfl (by decide) ?_
  refine e_gr (c := 6) (j := 24) (r := 73) f_140_224 (by decide) (by decide) (by decide) (by decide) ?_
  refine e_iload f_140_227 rfl ?_
  refine e_iload f_140_228 rfl ?_
  refine e_aload f_140_229 rfl (by decide) ?_
  refine e_gr (c := 6) (j := 24) (r := 73) f_140_230 (by decide) (by decide) (by decide) (by decide) ?_
  refine e_iload f_140_233 rfl ?_
  obtain ⟨hg, hV⟩ := hV
  refine e_ia (n := 6) f_140_234 (by decide) (by decide) hg ?_
  refine e_icmp f_140_235 (fun hc => ?_) (fun hc => ?_)
  · have hc := x_cct_le hc
    rw [if_pos hc] at hV
    refine e_aload f_140_242 rfl (by decide) ?_
    refine e_gr (c := 6) (j := 24) (r := 73) f_140_243 (by decide) (by decide) (by decide) (by decide) ?_
    refine e_iload f_140_246 rfl ?_
    obtain ⟨hg, hV⟩ := hV
    refine e_ia (n := 6) f_140_247 (by decide) (by decide) hg ?_
    obtain ⟨hg, hV⟩ := hV
    refine e_isn (n := 6) f_140_248 (by decide) (by decide) hg (fun S2 hS2 => ?_)
    have hV := hV S2 hS2
    refine e_aload f_140_249 rfl (by decide) ?_
    refine e_gr (c := 6) (j := 22) (r := 71) f_140_250 (by decide) (by decide) (by decide) (by decide) ?_
    refine e_iload f_140_253 rfl ?_
    refine e_dup2 f_140_254 ⟨rfl, rfl⟩ ?_
    obtain ⟨hg, hV⟩ := hV
    refine e_ia (n := 6) f_140_255 (by decide) (by decide) hg ?_
    refine e_iconst (c := 1) f_140_256 (by decide) ?_
    refine e_iadd f_140_257 ?_
    obtain ⟨hg, hV⟩ := hV
    refine e_isn (n := 6) f_140_258 (by decide) (by decide) hg (fun S3 hS3 => ?_)
    have hV := hV S3 hS3
    refine e_goto f_140_259 ?_
    exact hV
  · have hc := x_ccf_le hc
    rw [if_neg hc] at hV
    refine e_iload f_140_238 rfl ?_
    refine e_goto f_140_239 ?_
    obtain ⟨hg, hV⟩ := hV
    refine e_isn (n := 6) f_140_248 (by decide) (by decide) hg (fun S4 hS4 => ?_)
    have hV := hV S4 hS4
    refine e_aload f_140_249 rfl (by decide) ?_
    refine e_gr (c := 6) (j := 22) (r := 71) f_140_250 (by decide) (by decide) (by decide) (by decide) ?_
    refine e_iload f_140_253 rfl ?_
    refine e_dup2 f_140_254 ⟨rfl, rfl⟩ ?_
    obtain ⟨hg, hV⟩ := hV
    refine e_ia (n := 6) f_140_255 (by decide) (by decide) hg ?_
    refine e_iconst (c := 1) f_140_256 (by decide) ?_
    refine e_iadd f_140_257 ?_
    obtain ⟨hg, hV⟩ := hV
    refine e_isn (n := 6) f_140_258 (by decide) (by decide) hg (fun S5 hS5 => ?_)
    have hV := hV S5 hS5
    refine e_goto f_140_259 ?_
    exact hV
set_option maxRecDepth 20000 in
theorem T_141_0 {xs : List Int32} {d : Nat} {S : x_M} {Q : Option Value → x_M → Prop} {a1 : Int32} {a2 : Int32} {a3 : Int32}  (hV : (x_ib a1 6) ∧ (∀ S1 : x_M, S1 = x_up S 68 (Int32.toNatClampNeg a1) a2 → ((x_ib a1 6) ∧ (∀ S2 : x_M, S2 = x_up S1 69 (Int32.toNatClampNeg a1) a3 → ((x_ib a1 6) ∧ (∀ S3 : x_M, S3 = x_up S2 71 (Int32.toNatClampNeg a1) 0 → ((x_ib (2 * a1) 12) ∧ (if (S3 70 (Int32.toNatClampNeg (2 * a1))) = 0 then ((x_ib ((2 * a1) + 1) 12) ∧ (if (S3 70 (Int32.toNatClampNeg ((2 * a1) + 1))) = 0 then ((x_ib a1 6) ∧ (∀ S6 : x_M, S6 = x_up S3 73 (Int32.toNatClampNeg a1) 0 → (Q none S6))) else ((x_ib a1 6) ∧ (∀ S5 : x_M, S5 = x_up S3 73 (Int32.toNatClampNeg a1) (-268435456) → (Q none S5))))) else ((x_ib a1 6) ∧ (∀ S4 : x_M, S4 = x_up S3 73 (Int32.toNatClampNeg a1) (-268435456) → (Q none S4))))))))))) : x_E xs (d + 1) 141 0 [.ref 56, .int a1, .int a2, .int a3] [] S Q := by
  refine e_aload f_141_0 rfl (by decide) ?_
  refine e_gr (c := 6) (j := 19) (r := 68) f_141_1 (by decide) (by decide) (by decide) (by decide) ?_
  refine e_iload f_141_4 rfl ?_
  refine e_iload f_141_5 rfl ?_
  obtain ⟨hg, hV⟩ := hV
  refine e_isn (n := 6) f_141_6 (by decide) (by decide) hg (fun S1 hS1 => ?_)
  have hV := hV S1 hS1
  refine e_aload f_141_7 rfl (by decide) ?_
  refine e_gr (c := 6) (j := 20) (r := 69) f_141_8 (by decide) (by decide) (by decide) (by decide) ?_
  refine e_iload f_141_11 rfl ?_
  refine e_iload f_141_12 rfl ?_
  obtain ⟨hg, hV⟩ := hV
  refine e_isn (n := 6) f_141_13 (by decide) (by decide) hg (fun S2 hS2 => ?_)
  have hV := hV S2 hS2
  refine e_aload f_141_14 rfl (by decide) ?_
  refine e_gr (c := 6) (j := 22) (r := 71) f_141_15 (by decide) (by decide) (by decide) (by decide) ?_
  refine e_iload f_141_18 rfl ?_
  refine e_iconst (c := 0) f_141_19 (by decide) ?_
  obtain ⟨hg, hV⟩ := hV
  refine e_isn (n := 6) f_141_20 (by decide) (by decide) hg (fun S3 hS3 => ?_)
  have hV := hV S3 hS3
  refine e_aload f_141_21 rfl (by decide) ?_
  refine e_gr (c := 6) (j := 24) (r := 73) f_141_22 (by decide) (by decide) (by decide) (by decide) ?_
  refine e_iload f_141_25 rfl ?_
  refine e_aload f_141_26 rfl (by decide) ?_
  refine e_gr (c := 6) (j := 21) (r := 70) f_141_27 (by decide) (by decide) (by decide) (by decide) ?_
  refine e_iconst (c := 2) f_141_30 (by decide) ?_
  refine e_iload f_141_31 rfl ?_
  refine e_imul f_141_32 ?_
  obtain ⟨hg, hV⟩ := hV
  refine e_ia (n := 12) f_141_33 (by decide) (by decide) hg ?_
  refine e_if f_141_34 (fun hc => ?_) (fun hc => ?_)
  · have hc := x_cct_ne hc
    rw [if_neg hc] at hV
    refine e_iconst (c := (-268435456)) f_141_54 (by decide) ?_
    obtain ⟨hg, hV⟩ := hV
    refine e_isn (n := 6) f_141_56 (by decide) (by decide) hg (fun S4 hS4 => ?_)
    have hV := hV S4 hS4
    exact e_return f_141_57 rt_141 hV
  · have hc := x_ccf_ne hc
    rw [if_pos hc] at hV
    refine e_aload f_141_37 rfl (by decide) ?_
    refine e_gr (c := 6) (j := 21) (r := 70) f_141_38 (by decide) (by decide) (by decide) (by decide) ?_
    refine e_iconst (c := 2) f_141_41 (by decide) ?_
    refine e_iload f_141_42 rfl ?_
    refine e_imul f_141_43 ?_
    refine e_iconst (c := 1) f_141_44 (by decide) ?_
    refine e_iadd f_141_45 ?_
    obtain ⟨hg, hV⟩ := hV
    refine e_ia (n := 12) f_141_46 (by decide) (by decide) hg ?_
    refine e_if f_141_47 (fun hc => ?_) (fun hc => ?_)
    · have hc := x_cct_ne hc
      rw [if_neg hc] at hV
      refine e_iconst (c := (-268435456)) f_141_54 (by decide) ?_
      obtain ⟨hg, hV⟩ := hV
      refine e_isn (n := 6) f_141_56 (by decide) (by decide) hg (fun S5 hS5 => ?_)
      have hV := hV S5 hS5
      exact e_return f_141_57 rt_141 hV
    · have hc := x_ccf_ne hc
      rw [if_pos hc] at hV
      refine e_iconst (c := 0) f_141_50 (by decide) ?_
      refine e_goto f_141_51 ?_
      obtain ⟨hg, hV⟩ := hV
      refine e_isn (n := 6) f_141_56 (by decide) (by decide) hg (fun S6 hS6 => ?_)
      have hV := hV S6 hS6
      exact e_return f_141_57 rt_141 hV
