set_option maxRecDepth 20000 in
theorem T_105_128 {xs : List Int32} {d : Nat} {S : x_M} {Q : Option Value → x_M → Prop} {a1 : Int32} {a2 : Int32} {a3 : Int32} {a4 : Int32} {a5 : Int32} {a6 : Int32} {a7 : Value} {s0 : Int32}  (hV : (x_ib (((40 * a1) + a2) + s0) 320) ∧ ((x_ib (((40 * a3) + a4) + s0) 320) ∧ (∀ S1 : x_M, S1 = x_up S 61 (Int32.toNatClampNeg (((40 * a3) + a4) + s0)) (S 61 (Int32.toNatClampNeg (((40 * a1) + a2) + s0))) → (x_E xs (d + 1) 105 98 [.ref 56, .int a1, .int a2, .int a3, .int a4, .int a5, .int (a6 + 1), .int s0] [] S1 Q)))) : x_E xs (d + 1) 105 128 [.ref 56, .int a1, .int a2, .int a3, .int a4, .int a5, .int a6, a7] [.int s0] S Q := by
  refine e_istore (L' := [.ref 56, .int a1, .int a2, .int a3, .int a4, .int a5, .int a6, .int s0]) f_105_128 (Nat.le_of_ble_eq_true rfl) rfl ?_
  refine e_aload f_105_130 rfl (by decide) ?_
  refine e_gr (c := 6) (j := 7) (r := 61) f_105_131 (by decide) (by decide) (by decide) (by decide) ?_
  refine e_iconst (c := 40) f_105_134 (by decide) ?_
  refine e_iload f_105_136 rfl ?_
  refine e_imul f_105_137 ?_
  refine e_iload f_105_138 rfl ?_
  refine e_iadd f_105_140 ?_
  refine e_iload f_105_141 rfl ?_
  refine e_iadd f_105_143 ?_
  refine e_aload f_105_144 rfl (by decide) ?_
  refine e_gr (c := 6) (j := 7) (r := 61) f_105_145 (by decide) (by decide) (by decide) (by decide) ?_
  refine e_iconst (c := 40) f_105_148 (by decide) ?_
  refine e_iload f_105_150 rfl ?_
  refine e_imul f_105_151 ?_
  refine e_iload f_105_152 rfl ?_
  refine e_iadd f_105_153 ?_
  refine e_iload f_105_154 rfl ?_
  refine e_iadd f_105_156 ?_
  obtain ⟨hg, hV⟩ := hV
  refine e_ia (n := 320) f_105_157 (by decide) (by decide) hg ?_
  obtain ⟨hg, hV⟩ := hV
  refine e_isn (n := 320) f_105_158 (by decide) (by decide) hg (fun S1 hS1 => ?_)
  have hV := hV S1 hS1
  refine e_inc (c := 1) (L' := [.ref 56, .int a1, .int a2, .int a3, .int a4, .int a5, .int (a6 + 1), .int s0]) f_105_159 rfl (by decide) rfl ?_
  refine e_goto f_105_162 ?_
  exact hV
set_option maxRecDepth 20000 in
theorem T_106_0 {xs : List Int32} {d : Nat} {S : x_M} {Q : Option Value → x_M → Prop} {a1 : Int32} {a2 : Int32} {a3 : Int32}  (hV : if a2 < 0 then (Q (some (.int 0)) S) else (if a3 < 0 then (Q (some (.int 0)) S) else ((x_ib a1 8) ∧ (if (0 : Int32) < (lg_cmp ((Int32.toInt64 a2) + (Int32.toInt64 a3)) (Int32.toInt64 (S 60 (Int32.toNatClampNeg a1)))) then (Q (some (.int 0)) S) else (Q (some (.int 1)) S))))) : x_E xs (d + 1) 106 0 [.ref 56, .int a1, .int a2, .int a3] [] S Q := by
  refine e_iload f_106_0 rfl ?_
  refine e_if f_106_1 (fun hc => ?_) (fun hc => ?_)
  · have hc := x_cct_lt hc
    rw [if_pos hc] at hV
    refine e_iconst (c := 0) f_106_28 (by decide) ?_
    exact e_ireturn f_106_29 rt_106 (by decide) hV
  · have hc := x_ccf_lt hc
    rw [if_neg hc] at hV
    refine e_iload f_106_4 rfl ?_
    refine e_if f_106_5 (fun hc => ?_) (fun hc => ?_)
    · have hc := x_cct_lt hc
      rw [if_pos hc] at hV
      refine e_iconst (c := 0) f_106_28 (by decide) ?_
      exact e_ireturn f_106_29 rt_106 (by decide) hV
    · have hc := x_ccf_lt hc
      rw [if_neg hc] at hV
      refine e_iload f_106_8 rfl ?_
      refine e_i2l f_106_9 ?_
      refine e_iload f_106_10 rfl ?_
      refine e_i2l f_106_11 ?_
      refine e_ladd f_106_12 ?_
      refine e_aload f_106_13 rfl (by decide) ?_
      refine e_gr (c := 6) (j := 6) (r := 60) f_106_14 (by decide) (by decide) (by decide) (by decide) ?_
      refine e_iload f_106_17 rfl ?_
      obtain ⟨hg, hV⟩ := hV
      refine e_ia (n := 8) f_106_18 (by decide) (by decide) hg ?_
      refine e_i2l f_106_19 ?_
      refine e_lcmp f_106_20 ?_
      refine e_if f_106_21 (fun hc => ?_) (fun hc => ?_)
      · have hc := x_cct_gt hc
        rw [if_pos hc] at hV
        refine e_iconst (c := 0) f_106_28 (by decide) ?_
        exact e_ireturn f_106_29 rt_106 (by decide) hV
      · have hc := x_ccf_gt hc
        rw [if_neg hc] at hV
        refine e_iconst (c := 1) f_106_24 (by decide) ?_
        refine e_goto f_106_25 ?_
        exact e_ireturn f_106_29 rt_106 (by decide) hV
set_option maxRecDepth 20000 in
theorem T_107_0 {xs : List Int32} {d : Nat} {S : x_M} {Q : Option Value → x_M → Prop} {a1 : Int32}  (hV : ∃ P1 : Int32 → x_M → Prop, x_Ci xs d 100 [.int a1] S P1 ∧ ∀ (v1 : Int32) (S1 : x_M), P1 v1 S1 → (if v1 = 0 then (Q (some (.int (-1000001))) S1) else ((x_ib a1 8) ∧ (if (S1 59 (Int32.toNatClampNeg a1)) = (-1000000) then (∃ P4 : Int32 → x_M → Prop, x_Ci xs d 102 [.ref 56, .int 1] S1 P4 ∧ ∀ (v4 : Int32) (S4 : x_M), P4 v4 S4 → (Q (some (.int v4)) S4)) else ((x_ib a1 8) ∧ (∀ S2 : x_M, S2 = x_up S1 59 (Int32.toNatClampNeg a1) (-1000000) → ((x_ib a1 8) ∧ (∃ P3 : Int32 → x_M → Prop, x_Ci xs d 103 [.ref 56, .int (S2 60 (Int32.toNatClampNeg a1))] S2 P3 ∧ ∀ (v3 : Int32) (S3 : x_M), P3 v3 S3 → (Q (some (.int v3)) S3))))))))) : x_E xs (d + 1) 107 0 [.ref 56, .int a1] [] S Q := by
  refine e_iload f_107_0 rfl ?_
  obtain ⟨P1, hP1, hV⟩ := hV
  refine e_si (n := 1) (A := [.int a1]) (R := []) f_107_1 na_100 rfl rfl (Nat.le_of_ble_eq_true rfl) (Nat.le_of_ble_eq_true rfl) (by rw [ml_100]; exact Nat.le_of_ble_eq_true rfl) hP1 (fun v1 S1 hp1 => ?_)
  have hV := hV v1 S1 hp1
  refine e_if f_107_4 (fun hc => ?_) (fun hc => ?_)
  · have hc := x_cct_ne hc
    rw [if_neg hc] at hV
    refine e_aload f_107_10 rfl (by decide) ?_
    refine e_gr (c := 6) (j := 5) (r := 59) f_107_11 (by decide) (by decide) (by decide) (by decide) ?_
    refine e_iload f_107_14 rfl ?_
    obtain ⟨hg, hV⟩ := hV
    refine e_ia (n := 8) f_107_15 (by decide) (by decide) hg ?_
    refine e_iconst (c := (-1000000)) f_107_16 (by decide) ?_
    refine e_icmp f_107_18 (fun hc => ?_) (fun hc => ?_)
    · have hc := x_cct_ne hc
      rw [if_neg hc] at hV
      refine e_aload f_107_27 rfl (by decide) ?_
      refine e_gr (c := 6) (j := 5) (r := 59) f_107_28 (by decide) (by decide) (by decide) (by decide) ?_
      refine e_iload f_107_31 rfl ?_
      refine e_iconst (c := (-1000000)) f_107_32 (by decide) ?_
      obtain ⟨hg, hV⟩ := hV
      refine e_isn (n := 8) f_107_34 (by decide) (by decide) hg (fun S2 hS2 => ?_)
      have hV := hV S2 hS2
      refine e_aload f_107_35 rfl (by decide) ?_
      refine e_aload f_107_36 rfl (by decide) ?_
      refine e_gr (c := 6) (j := 6) (r := 60) f_107_37 (by decide) (by decide) (by decide) (by decide) ?_
      refine e_iload f_107_40 rfl ?_
      obtain ⟨hg, hV⟩ := hV
      refine e_ia (n := 8) f_107_41 (by decide) (by decide) hg ?_
      obtain ⟨P3, hP3, hV⟩ := hV
      refine e_vi (n := 2) (A := [.ref 56, .int (S2 60 (Int32.toNatClampNeg a1))]) (R := []) f_107_42 na_103 rfl rfl (Nat.le_of_ble_eq_true rfl) (Nat.le_of_ble_eq_true rfl) (by rw [ml_103]; exact Nat.le_of_ble_eq_true rfl) rfl (by rw [cy_103]; decide) (by rw [cy_103]; exact (by decide : x_tg 56 = 6)) hP3 (fun v3 S3 hp3 => ?_)
      have hV := hV v3 S3 hp3
      exact e_ireturn f_107_45 rt_107 rfl hV
    · have hc := x_ccf_ne hc
      rw [if_pos hc] at hV
      refine e_aload f_107_21 rfl (by decide) ?_
      refine e_iconst (c := 1) f_107_22 (by decide) ?_
      obtain ⟨P4, hP4, hV⟩ := hV
      refine e_vi (n := 2) (A := [.ref 56, .int 1]) (R := []) f_107_23 na_102 rfl rfl (Nat.le_of_ble_eq_true rfl) (Nat.le_of_ble_eq_true rfl) (by rw [ml_102]; exact Nat.le_of_ble_eq_true rfl) rfl (by rw [cy_102]; decide) (by rw [cy_102]; exact (by decide : x_tg 56 = 6)) hP4 (fun v4 S4 hp4 => ?_)
      have hV := hV v4 S4 hp4
      exact e_ireturn f_107_26 rt_107 rfl hV
  · have hc := x_ccf_ne hc
    rw [if_pos hc] at hV
    refine e_iconst (c := (-1000001)) f_107_7 (by decide) ?_
    exact e_ireturn f_107_9 rt_107 rfl hV
set_option maxRecDepth 20000 in
theorem T_108_0 {xs : List Int32} {d : Nat} {S : x_M} {Q : Option Value → x_M → Prop} {a1 : Int64} {a3 : Int32}  (hV : ∃ P1 : Int32 → x_M → Prop, x_Ci xs d 101 [.long (Int32.toInt64 a3), .long 1, .long 8] S P1 ∧ ∀ (v1 : Int32) (S1 : x_M), P1 v1 S1 → (if v1 = 0 then (Q (some (.int (-1000001))) S1) else (if ((S1 56 2) + a3) ≤ 400 then (x_E xs (d + 1) 108 35 [.ref 56, .long a1, .null, .int a3, .int (a3 - 1)] [] S1 Q) else (Q (some (.int (-1000003))) S1)))) : x_E xs (d + 1) 108 0 [.ref 56, .long a1, .null, .int a3, .null] [] S Q := by
  refine e_iload f_108_0 rfl ?_
  refine e_i2l f_108_1 ?_
  refine e_lconst (c := 1) f_108_2 (by decide) ?_
  refine e_lconst (c := 8) f_108_3 (by decide) ?_
  obtain ⟨P1, hP1, hV⟩ := hV
  refine e_si (n := 3) (A := [.long (Int32.toInt64 a3), .long 1, .long 8]) (R := []) f_108_6 na_101 rfl rfl (Nat.le_of_ble_eq_true rfl) (Nat.le_of_ble_eq_true rfl) (by rw [ml_101]; exact Nat.le_of_ble_eq_true rfl) hP1 (fun v1 S1 hp1 => ?_)
  have hV := hV v1 S1 hp1
  refine e_if f_108_9 (fun hc => ?_) (fun hc => ?_)
  · have hc := x_cct_ne hc
    rw [if_neg hc] at hV
    refine e_aload f_108_15 rfl (by decide) ?_
    refine e_gf (c := 6) (j := 2) f_108_16 (by decide) (by decide) (by decide) ?_
    refine e_iload f_108_19 rfl ?_
    refine e_iadd f_108_20 ?_
    refine e_iconst (c := 400) f_108_21 (by decide) ?_
    refine e_icmp f_108_24 (fun hc => ?_) (fun hc => ?_)
    · have hc := x_cct_le hc
      rw [if_pos hc] at hV
      refine e_iload f_108_30 rfl ?_
      refine e_iconst (c := 1) f_108_31 (by decide) ?_
      refine e_isub f_108_32 ?_
      refine e_istore (L' := [.ref 56, .long a1, .null, .int a3, .int (a3 - 1)]) f_108_33 (Nat.le_of_ble_eq_true rfl) rfl ?_
      exact hV
    · have hc := x_ccf_le hc
      rw [if_neg hc] at hV
      refine e_iconst (c := (-1000003)) f_108_27 (by decide) ?_
      exact e_ireturn f_108_29 rt_108 rfl hV
  · have hc := x_ccf_ne hc
    rw [if_pos hc] at hV
    refine e_iconst (c := (-1000001)) f_108_12 (by decide) ?_
    exact e_ireturn f_108_14 rt_108 rfl hV
set_option maxRecDepth 20000 in
theorem T_108_35 {xs : List Int32} {d : Nat} {S : x_M} {Q : Option Value → x_M → Prop} {a1 : Int64} {a3 : Int32} {a4 : Int32}  (hV : if a4 < 0 then (Q (some (.int (S 56 2))) S) else ((x_ib (S 56 2) 400) ∧ (∀ S1 : x_M, S1 = x_up S 58 (Int32.toNatClampNeg (S 56 2)) (Int64.toInt32 ((a1 >>> ((Int32.toInt64 (8 * a4)) &&& 63)) &&& 255)) → (∀ S2 : x_M, S2 = x_up S1 56 2 ((S1 56 2) + 1) → (x_E xs (d + 1) 108 35 [.ref 56, .long a1, .null, .int a3, .int (a4 + (-1))] [] S2 Q))))) : x_E xs (d + 1) 108 35 [.ref 56, .long a1, .null, .int a3, .int a4] [] S Q := by
  refine e_iload f_108_35 rfl ?_
  refine e_if f_108_37 (fun hc => ?_) (fun hc => ?_)
  · have hc := x_cct_lt hc
    rw [if_pos hc] at hV
    refine e_aload f_108_77 rfl (by decide) ?_
    refine e_gf (c := 6) (j := 2) f_108_78 (by decide) (by decide) (by decide) ?_
    exact e_ireturn f_108_81 rt_108 rfl hV
  · have hc := x_ccf_lt hc
    rw [if_neg hc] at hV
    refine e_aload f_108_40 rfl (by decide) ?_
    refine e_gr (c := 6) (j := 1) (r := 58) f_108_41 (by decide) (by decide) (by decide) (by decide) ?_
    refine e_aload f_108_44 rfl (by decide) ?_
    refine e_gf (c := 6) (j := 2) f_108_45 (by decide) (by decide) (by decide) ?_
    refine e_lload f_108_48 rfl ?_
    refine e_iconst (c := 8) f_108_49 (by decide) ?_
    refine e_iload f_108_51 rfl ?_
    refine e_imul f_108_53 ?_
    refine e_lshr f_108_54 ?_
    refine e_lconst (c := 255) f_108_55 (by decide) ?_
    refine e_land f_108_58 ?_
    refine e_l2i f_108_59 ?_
    obtain ⟨hg, hV⟩ := hV
    refine e_isn (n := 400) f_108_60 (by decide) (by decide) hg (fun S1 hS1 => ?_)
    have hV := hV S1 hS1
    refine e_aload f_108_61 rfl (by decide) ?_
    refine e_dup f_108_62 rfl ?_
    refine e_gf (c := 6) (j := 2) f_108_63 (by decide) (by decide) (by decide) ?_
    refine e_iconst (c := 1) f_108_66 (by decide) ?_
    refine e_iadd f_108_67 ?_
    refine e_pfn (c := 6) (j := 2) f_108_68 (by decide) (by decide) (by decide) (x_fit_i rfl) (fun S2 hS2 => ?_)
    have hV := hV S2 hS2
    refine e_inc (c := (-1)) (L' := [.ref 56, .long a1, .null, .int a3, .int (a4 + (-1))]) f_108_71 rfl (by decide) rfl ?_
    refine e_goto f_108_74 ?_
    exact hV
set_option maxRecDepth 20000 in
theorem T_109_0 {xs : List Int32} {d : Nat} {S : x_M} {Q : Option Value → x_M → Prop}   (hV : ∃ P1 : Int32 → x_M → Prop, x_Ci xs d 110 [.ref 56] S P1 ∧ ∀ (v1 : Int32) (S1 : x_M), P1 v1 S1 → (∀ S2 : x_M, S2 = x_up S1 56 2 0 → (if v1 = 0 then (Q (some (.int ((-1000100) - (S1 56 11)))) S2) else (∀ S3 : x_M, S3 = x_up S2 57 0 1 → (∀ S4 : x_M, S4 = x_up S3 57 1 (S3 56 16) → (∀ S5 : x_M, S5 = x_up S4 57 30 0 → (∀ S6 : x_M, S6 = x_up S5 57 31 0 → (x_E xs (d + 1) 109 59 [.ref 56, .int v1, .int (S1 56 11), .int 0] [] S6 Q)))))))) : x_E xs (d + 1) 109 0 [.ref 56, .null, .null, .null] [] S Q := by
  refine e_aload f_109_0 rfl (by decide) ?_
  obtain ⟨P1, hP1, hV⟩ := hV
  refine e_vi (n := 1) (A := [.ref 56]) (R := []) f_109_1 na_110 rfl rfl (Nat.le_of_ble_eq_true rfl) (Nat.le_of_ble_eq_true rfl) (by rw [ml_110]; exact Nat.le_of_ble_eq_true rfl) rfl (by rw [cy_110]; decide) (by rw [cy_110]; exact (by decide : x_tg 56 = 6)) hP1 (fun v1 S1 hp1 => ?_)
  have hV := hV v1 S1 hp1
  refine e_istore (L' := [.ref 56, .int v1, .null, .null]) f_109_4 (Nat.le_of_ble_eq_true rfl) rfl ?_
  refine e_aload f_109_5 rfl (by decide) ?_
  refine e_gf (c := 6) (j := 11) f_109_6 (by decide) (by decide) (by decide) ?_
  refine e_istore (L' := [.ref 56, .int v1, .int (S1 56 11), .null]) f_109_9 (Nat.le_of_ble_eq_true rfl) rfl ?_
  refine e_aload f_109_10 rfl (by decide) ?_
  refine e_iconst (c := 0) f_109_11 (by decide) ?_
  refine e_pfn (c := 6) (j := 2) f_109_12 (by decide) (by decide) (by decide) (x_fit_i rfl) (fun S2 hS2 => ?_)
  have hV := hV S2 hS2
  refine e_iload f_109_15 rfl ?_
  refine e_if f_109_16 (fun hc => ?_) (fun hc => ?_)
  · have hc := x_cct_ne hc
    rw [if_neg hc] at hV
    refine e_aload f_109_24 rfl (by decide) ?_
    refine e_gr (c := 6) (j := 0) (r := 57) f_109_25 (by decide) (by decide) (by decide) (by decide) ?_
    refine e_iconst (c := 0) f_109_28 (by decide) ?_
    refine e_iconst (c := 1) f_109_29 (by decide) ?_
    refine e_iskn (n := 99) (kk := 0) f_109_30 (by decide) (by decide) (by decide) (fun S3 hS3 => ?_)
    have hV := hV S3 hS3
    refine e_aload f_109_31 rfl (by decide) ?_
    refine e_gr (c := 6) (j := 0) (r := 57) f_109_32 (by decide) (by decide) (by decide) (by decide) ?_
    refine e_iconst (c := 1) f_109_35 (by decide) ?_
    refine e_aload f_109_36 rfl (by decide) ?_
    refine e_gf (c := 6) (j := 16) f_109_37 (by decide) (by decide) (by decide) ?_
    refine e_iskn (n := 99) (kk := 1) f_109_40 (by decide) (by decide) (by decide) (fun S4 hS4 => ?_)
    have hV := hV S4 hS4
    refine e_aload f_109_41 rfl (by decide) ?_
    refine e_gr (c := 6) (j := 0) (r := 57) f_109_42 (by decide) (by decide) (by decide) (by decide) ?_
    refine e_iconst (c := 30) f_109_45 (by decide) ?_
    refine e_iconst (c := 0) f_109_47 (by decide) ?_
    refine e_iskn (n := 99) (kk := 30) f_109_48 (by decide) (by decide) (by decide) (fun S5 hS5 => ?_)
    have hV := hV S5 hS5
    refine e_aload f_109_49 rfl (by decide) ?_
    refine e_gr (c := 6) (j := 0) (r := 57) f_109_50 (by decide) (by decide) (by decide) (by decide) ?_
    refine e_iconst (c := 31) f_109_53 (by decide) ?_
    refine e_iconst (c := 0) f_109_55 (by decide) ?_
    refine e_iskn (n := 99) (kk := 31) f_109_56 (by decide) (by decide) (by decide) (fun S6 hS6 => ?_)
    have hV := hV S6 hS6
    refine e_iconst (c := 0) f_109_57 (by decide) ?_
    refine e_istore (L' := [.ref 56, .int v1, .int (S1 56 11), .int 0]) f_109_58 (Nat.le_of_ble_eq_true rfl) rfl ?_
    exact hV
  · have hc := x_ccf_ne hc
    rw [if_pos hc] at hV
    refine e_iconst (c := (-1000100)) f_109_19 (by decide) ?_
    refine e_iload f_109_21 rfl ?_
    refine e_isub f_109_22 ?_
    exact e_ireturn f_109_23 rt_109 rfl hV
set_option maxRecDepth 20000 in
theorem T_109_59 {xs : List Int32} {d : Nat} {S : x_M} {Q : Option Value → x_M → Prop} {a1 : Int32} {a2 : Int32} {a3 : Int32}  (hV : if (S 56 16) ≤ a3 then (x_E xs (d + 1) 109 109 [.ref 56, .int a1, .int a2, .int 0] [] S Q) else ((x_ib a3 14) ∧ ((x_ib (2 + a3) 99) ∧ (∀ S1 : x_M, S1 = x_up S 57 (Int32.toNatClampNeg (2 + a3)) (S 64 (Int32.toNatClampNeg a3)) → ((x_ib a3 14) ∧ ((x_ib (30 + (S1 65 (Int32.toNatClampNeg a3))) 99) ∧ ((x_ib (30 + (S1 65 (Int32.toNatClampNeg a3))) 99) ∧ (∀ S2 : x_M, S2 = x_up S1 57 (Int32.toNatClampNeg (30 + (S1 65 (Int32.toNatClampNeg a3)))) ((S1 57 (Int32.toNatClampNeg (30 + (S1 65 (Int32.toNatClampNeg a3))))) ||| (1 <<< (a3 &&& 31))) → (x_E xs (d + 1) 109 59 [.ref 56, .int a1, .int a2, .int (a3 + 1)] [] S2 Q))))))))) : x_E xs (d + 1) 109 59 [.ref 56, .int a1, .int a2, .int a3] [] S Q := by
  refine e_iload f_109_59 rfl ?_
  refine e_aload f_109_60 rfl (by decide) ?_
  refine e_gf (c := 6) (j := 16) f_109_61 (by decide) (by decide) (by decide) ?_
  refine e_icmp f_109_64 (fun hc => ?_) (fun hc => ?_)
  · have hc := x_cct_ge hc
    rw [if_pos hc] at hV
    refine e_iconst (c := 0) f_109_107 (by decide) ?_
    refine e_istore (L' := [.ref 56, .int a1, .int a2, .int 0]) f_109_108 (Nat.le_of_ble_eq_true rfl) rfl ?_
    exact hV
  · have hc := x_ccf_ge hc
    rw [if_neg hc] at hV
    refine e_aload f_109_67 rfl (by decide) ?_
    refine e_gr (c := 6) (j := 0) (r := 57) f_109_68 (by decide) (by decide) (by decide) (by decide) ?_
    refine e_iconst (c := 2) f_109_71 (by decide) ?_
    refine e_iload f_109_72 rfl ?_
    refine e_iadd f_109_73 ?_
    refine e_aload f_109_74 rfl (by decide) ?_
    refine e_gr (c := 6) (j := 14) (r := 64) f_109_75 (by decide) (by decide) (by decide) (by decide) ?_
    refine e_iload f_109_78 rfl ?_
    obtain ⟨hg, hV⟩ := hV
    refine e_ia (n := 14) f_109_79 (by decide) (by decide) hg ?_
    obtain ⟨hg, hV⟩ := hV
    refine e_isn (n := 99) f_109_80 (by decide) (by decide) hg (fun S1 hS1 => ?_)
    have hV := hV S1 hS1
    refine e_aload f_109_81 rfl (by decide) ?_
    refine e_gr (c := 6) (j := 0) (r := 57) f_109_82 (by decide) (by decide) (by decide) (by decide) ?_
    refine e_iconst (c := 30) f_109_85 (by decide) ?_
    refine e_aload f_109_87 rfl (by decide) ?_
    refine e_gr (c := 6) (j := 15) (r := 65) f_109_88 (by decide) (by decide) (by decide) (by decide) ?_
    refine e_iload f_109_91 rfl ?_
    obtain ⟨hg, hV⟩ := hV
    refine e_ia (n := 14) f_109_92 (by decide) (by decide) hg ?_
    refine e_iadd f_109_93 ?_
    refine e_dup2 f_109_94 ⟨rfl, rfl⟩ ?_
    obtain ⟨hg, hV⟩ := hV
    refine e_ia (n := 99) f_109_95 (by decide) (by decide) hg ?_
    refine e_iconst (c := 1) f_109_96 (by decide) ?_
    refine e_iload f_109_97 rfl ?_
    refine e_ishl f_109_98 ?_
    refine e_ior f_109_99 ?_
    obtain ⟨hg, hV⟩ := hV
    refine e_isn (n := 99) f_109_100 (by decide) (by decide) hg (fun S2 hS2 => ?_)
    have hV := hV S2 hS2
    refine e_inc (c := 1) (L' := [.ref 56, .int a1, .int a2, .int (a3 + 1)]) f_109_101 rfl (by decide) rfl ?_
    refine e_goto f_109_104 ?_
    exact hV
set_option maxRecDepth 20000 in
theorem T_109_109 {xs : List Int32} {d : Nat} {S : x_M} {Q : Option Value → x_M → Prop} {a1 : Int32} {a2 : Int32} {a3 : Int32}  (hV : if (9 : Int32) ≤ a3 then (∀ S1 : x_M, S1 = x_up S 57 25 511 → (∀ S2 : x_M, S2 = x_up S1 57 26 0 → (if (S2 57 30) = 0 then (x_E xs (d + 1) 109 175 [.ref 56, .int a1, .int a2, .int a3] [.int 1, .int 27, .ref 57] S2 Q) else (x_E xs (d + 1) 109 175 [.ref 56, .int a1, .int a2, .int a3] [.int 0, .int 27, .ref 57] S2 Q)))) else ((x_ib a3 9) ∧ ((x_ib (16 + a3) 99) ∧ (∀ S3 : x_M, S3 = x_up S 57 (Int32.toNatClampNeg (16 + a3)) (S 63 (Int32.toNatClampNeg a3)) → (x_E xs (d + 1) 109 109 [.ref 56, .int a1, .int a2, .int (a3 + 1)] [] S3 Q))))) : x_E xs (d + 1) 109 109 [.ref 56, .int a1, .int a2, .int a3] [] S Q := by
  refine e_iload f_109_109 rfl ?_
  refine e_iconst (c := 9) f_109_110 (by decide) ?_
  refine e_icmp f_109_112 (fun hc => ?_) (fun hc => ?_)
  · have hc := x_cct_ge hc
    rw [if_pos hc] at hV
    refine e_aload f_109_136 rfl (by decide) ?_
    refine e_gr (c := 6) (j := 0) (r := 57) f_109_137 (by decide) (by decide) (by decide) (by decide) ?_
    refine e_iconst (c := 25) f_109_140 (by decide) ?_
    refine e_iconst (c := 511) f_109_142 (by decide) ?_
    refine e_iskn (n := 99) (kk := 25) f_109_145 (by decide) (by decide) (by decide) (fun S1 hS1 => ?_)
    have hV := hV S1 hS1
    refine e_aload f_109_146 rfl (by decide) ?_
    refine e_gr (c := 6) (j := 0) (r := 57) f_109_147 (by decide) (by decide) (by decide) (by decide) ?_
    refine e_iconst (c := 26) f_109_150 (by decide) ?_
    refine e_iconst (c := 0) f_109_152 (by decide) ?_
    refine e_iskn (n := 99) (kk := 26) f_109_153 (by decide) (by decide) (by decide) (fun S2 hS2 => ?_)
    have hV := hV S2 hS2
    refine e_aload f_109_154 rfl (by decide) ?_
    refine e_gr (c := 6) (j := 0) (r := 57) f_109_155 (by decide) (by decide) (by decide) (by decide) ?_
    refine e_iconst (c := 27) f_109_158 (by decide) ?_
    refine e_aload f_109_160 rfl (by decide) ?_
    refine e_gr (c := 6) (j := 0) (r := 57) f_109_161 (by decide) (by decide) (by decide) (by decide) ?_
    refine e_iconst (c := 30) f_109_164 (by decide) ?_
    refine e_iak (n := 99) (kk := 30) f_109_166 (by decide) (by decide) (by decide) ?_
    refine e_if f_109_167 (fun hc => ?_) (fun hc => ?_)
    · have hc := x_cct_ne hc
      rw [if_neg hc] at hV
      refine e_iconst (c := 0) f_109_174 (by decide) ?_
      exact hV
    · have hc := x_ccf_ne hc
      rw [if_pos hc] at hV
      refine e_iconst (c := 1) f_109_170 (by decide) ?_
      refine e_goto f_109_171 ?_
      exact hV
  · have hc := x_ccf_ge hc
    rw [if_neg hc] at hV
    refine e_aload f_109_115 rfl (by decide) ?_
    refine e_gr (c := 6) (j := 0) (r := 57) f_109_116 (by decide) (by decide) (by decide) (by decide) ?_
    refine e_iconst (c := 16) f_109_119 (by decide) ?_
    refine e_iload f_109_121 rfl ?_
    refine e_iadd f_109_122 ?_
    refine e_aload f_109_123 rfl (by decide) ?_
    refine e_gr (c := 6) (j := 13) (r := 63) f_109_124 (by decide) (by decide) (by decide) (by decide) ?_
    refine e_iload f_109_127 rfl ?_
    obtain ⟨hg, hV⟩ := hV
    refine e_ia (n := 9) f_109_128 (by decide) (by decide) hg ?_
    obtain ⟨hg, hV⟩ := hV
    refine e_isn (n := 99) f_109_129 (by decide) (by decide) hg (fun S3 hS3 => ?_)
    have hV := hV S3 hS3
    refine e_inc (c := 1) (L' := [.ref 56, .int a1, .int a2, .int (a3 + 1)]) f_109_130 rfl (by decide) rfl ?_
    refine e_goto f_109_133 ?_
    exact hV
set_option maxRecDepth 20000 in
theorem T_109_175 {xs : List Int32} {d : Nat} {S : x_M} {Q : Option Value → x_M → Prop} {a1 : Int32} {a2 : Int32} {a3 : Int32} {s1 : Int32} {s2 : Int32}  (hV : (x_ib s1 99) ∧ (∀ S1 : x_M, S1 = x_up S 57 (Int32.toNatClampNeg s1) s2 → (∀ S2 : x_M, S2 = x_up S1 57 28 0 → (∀ S3 : x_M, S3 = x_up S2 57 29 0 → (∀ S4 : x_M, S4 = x_up S3 57 32 0 → (∃ P5 : x_M → Prop, x_Cv xs d 120 [.ref 56] S4 P5 ∧ ∀ (S5 : x_M), P5 S5 → (Q (some (.int (S5 56 16))) S5))))))) : x_E xs (d + 1) 109 175 [.ref 56, .int a1, .int a2, .int a3] [.int s2, .int s1, .ref 57] S Q := by
  obtain ⟨hg, hV⟩ := hV
  refine e_isn (n := 99) f_109_175 (by decide) (by decide) hg (fun S1 hS1 => ?_)
  have hV := hV S1 hS1
  refine e_aload f_109_176 rfl (by decide) ?_
  refine e_gr (c := 6) (j := 0) (r := 57) f_109_177 (by decide) (by decide) (by decide) (by decide) ?_
  refine e_iconst (c := 28) f_109_180 (by decide) ?_
  refine e_iconst (c := 0) f_109_182 (by decide) ?_
  refine e_iskn (n := 99) (kk := 28) f_109_183 (by decide) (by decide) (by decide) (fun S2 hS2 => ?_)
  have hV := hV S2 hS2
  refine e_aload f_109_184 rfl (by decide) ?_
  refine e_gr (c := 6) (j := 0) (r := 57) f_109_185 (by decide) (by decide) (by decide) (by decide) ?_
  refine e_iconst (c := 29) f_109_188 (by decide) ?_
  refine e_iconst (c := 0) f_109_190 (by decide) ?_
  refine e_iskn (n := 99) (kk := 29) f_109_191 (by decide) (by decide) (by decide) (fun S3 hS3 => ?_)
  have hV := hV S3 hS3
  refine e_aload f_109_192 rfl (by decide) ?_
  refine e_gr (c := 6) (j := 0) (r := 57) f_109_193 (by decide) (by decide) (by decide) (by decide) ?_
  refine e_iconst (c := 32) f_109_196 (by decide) ?_
  refine e_iconst (c := 0) f_109_198 (by decide) ?_
  refine e_iskn (n := 99) (kk := 32) f_109_199 (by decide) (by decide) (by decide) (fun S4 hS4 => ?_)
  have hV := hV S4 hS4
  refine e_aload f_109_200 rfl (by decide) ?_
  obtain ⟨P5, hP5, hV⟩ := hV
  refine e_vv (n := 1) (A := [.ref 56]) (R := []) f_109_201 na_120 rfl rfl (Nat.le_of_ble_eq_true rfl) (Nat.le_of_ble_eq_true rfl) (by rw [ml_120]; exact Nat.le_of_ble_eq_true rfl) rfl (by rw [cy_120]; decide) (by rw [cy_120]; exact (by decide : x_tg 56 = 6)) hP5 (fun S5 hp5 => ?_)
  have hV := hV S5 hp5
  refine e_aload f_109_204 rfl (by decide) ?_
  refine e_gf (c := 6) (j := 16) f_109_205 (by decide) (by decide) (by decide) ?_
  exact e_ireturn f_109_208 rt_109 rfl hV
set_option maxRecDepth 20000 in
theorem T_110_0 {xs : List Int32} {d : Nat} {S : x_M} {Q : Option Value → x_M → Prop}   (hV : ∀ S1 : x_M, S1 = x_up S 56 10 0 → (∀ S2 : x_M, S2 = x_up S1 56 16 0 → (∃ P3 : x_M → Prop, x_Cv xs d 111 [.ref 56] S2 P3 ∧ ∀ (S3 : x_M), P3 S3 → (∃ P4 : Int32 → x_M → Prop, x_Ci xs d 113 [.ref 56] S3 P4 ∧ ∀ (v4 : Int32) (S4 : x_M), P4 v4 S4 → (if v4 = 0 then (Q (some (.int 0)) S4) else (∃ P5 : Int32 → x_M → Prop, x_Ci xs d 118 [.ref 56] S4 P5 ∧ ∀ (v5 : Int32) (S5 : x_M), P5 v5 S5 → (if v5 = 0 then (Q (some (.int 0)) S5) else (x_E xs (d + 1) 110 30 [.ref 56] [] S5 Q)))))))) : x_E xs (d + 1) 110 0 [.ref 56] [] S Q := by
  refine e_aload f_110_0 rfl (by decide) ?_
  refine e_iconst (c := 0) f_110_1 (by decide) ?_
  refine e_pfn (c := 6) (j := 10) f_110_2 (by decide) (by decide) (by decide) (x_fit_i rfl) (fun S1 hS1 => ?_)
  have hV := hV S1 hS1
  refine e_aload f_110_5 rfl (by decide) ?_
  refine e_iconst (c := 0) f_110_6 (by decide) ?_
  refine e_pfn (c := 6) (j := 16) f_110_7 (by decide) (by decide) (by decide) (x_fit_i rfl) (fun S2 hS2 => ?_)
  have hV := hV S2 hS2
  refine e_aload f_110_10 rfl (by decide) ?_
  obtain ⟨P3, hP3, hV⟩ := hV
  refine e_vv (n := 1) (A := [.ref 56]) (R := []) f_110_11 na_111 rfl rfl (Nat.le_of_ble_eq_true rfl) (Nat.le_of_ble_eq_true rfl) (by rw [ml_111]; exact Nat.le_of_ble_eq_true rfl) rfl (by rw [cy_111]; decide) (by rw [cy_111]; exact (by decide : x_tg 56 = 6)) hP3 (fun S3 hp3 => ?_)
  have hV := hV S3 hp3
  refine e_aload f_110_14 rfl (by decide) ?_
  obtain ⟨P4, hP4, hV⟩ := hV
  refine e_vi (n := 1) (A := [.ref 56]) (R := []) f_110_15 na_113 rfl rfl (Nat.le_of_ble_eq_true rfl) (Nat.le_of_ble_eq_true rfl) (by rw [ml_113]; exact Nat.le_of_ble_eq_true rfl) rfl (by rw [cy_113]; decide) (by rw [cy_113]; exact (by decide : x_tg 56 = 6)) hP4 (fun v4 S4 hp4 => ?_)
  have hV := hV v4 S4 hp4
  refine e_if f_110_18 (fun hc => ?_) (fun hc => ?_)
  · have hc := x_cct_eq hc
    rw [if_pos hc] at hV
    refine e_iconst (c := 0) f_110_28 (by decide) ?_
    exact e_ireturn f_110_29 rt_110 (by decide) hV
  · have hc := x_ccf_eq hc
    rw [if_neg hc] at hV
    refine e_aload f_110_21 rfl (by decide) ?_
    obtain ⟨P5, hP5, hV⟩ := hV
    refine e_vi (n := 1) (A := [.ref 56]) (R := []) f_110_22 na_118 rfl rfl (Nat.le_of_ble_eq_true rfl) (Nat.le_of_ble_eq_true rfl) (by rw [ml_118]; exact Nat.le_of_ble_eq_true rfl) rfl (by rw [cy_118]; decide) (by rw [cy_118]; exact (by decide : x_tg 56 = 6)) hP5 (fun v5 S5 hp5 => ?_)
    have hV := hV v5 S5 hp5
    refine e_if f_110_25 (fun hc => ?_) (fun hc => ?_)
    · have hc := x_cct_ne hc
      rw [if_neg hc] at hV
      exact hV
    · have hc := x_ccf_ne hc
      rw [if_pos hc] at hV
      refine e_iconst (c := 0) f_110_28 (by decide) ?_
      exact e_ireturn f_110_29 rt_110 (by decide) hV
set_option maxRecDepth 20000 in
theorem T_110_30 {xs : List Int32} {d : Nat} {S : x_M} {Q : Option Value → x_M → Prop}   (hV : if (S 56 2) ≤ (S 56 11) then (Q (some (.int 1)) S) else (∃ P1 : Int32 → x_M → Prop, x_Ci xs d 118 [.ref 56] S P1 ∧ ∀ (v1 : Int32) (S1 : x_M), P1 v1 S1 → (if v1 = 0 then (Q (some (.int 0)) S1) else (x_E xs (d + 1) 110 30 [.ref 56] [] S1 Q)))) : x_E xs (d + 1) 110 30 [.ref 56] [] S Q := by
  refine e_aload f_110_30 rfl (by decide) ?_
  refine e_gf (c := 6) (j := 11) f_110_31 (by decide) (by decide) (by decide) ?_
  refine e_aload f_110_34 rfl (by decide) ?_
  refine e_gf (c := 6) (j := 2) f_110_35 (by decide) (by decide) (by decide) ?_
  refine e_icmp f_110_38 (fun hc => ?_) (fun hc => ?_)
  · have hc := x_cct_ge hc
    rw [if_pos hc] at hV
    refine e_iconst (c := 1) f_110_50 (by decide) ?_
    exact e_ireturn f_110_51 rt_110 (by decide) hV
  · have hc := x_ccf_ge hc
    rw [if_neg hc] at hV
    refine e_aload f_110_41 rfl (by decide) ?_
    obtain ⟨P1, hP1, hV⟩ := hV
    refine e_vi (n := 1) (A := [.ref 56]) (R := []) f_110_42 na_118 rfl rfl (Nat.le_of_ble_eq_true rfl) (Nat.le_of_ble_eq_true rfl) (by rw [ml_118]; exact Nat.le_of_ble_eq_true rfl) rfl (by rw [cy_118]; decide) (by rw [cy_118]; exact (by decide : x_tg 56 = 6)) hP1 (fun v1 S1 hp1 => ?_)
    have hV := hV v1 S1 hp1
    refine e_if f_110_45 (fun hc => ?_) (fun hc => ?_)
    · have hc := x_cct_ne hc
      rw [if_neg hc] at hV
      exact hV
    · have hc := x_ccf_ne hc
      rw [if_pos hc] at hV
      refine e_iconst (c := 0) f_110_48 (by decide) ?_
      exact e_ireturn f_110_49 rt_110 (by decide) hV
set_option maxRecDepth 20000 in
theorem T_111_0 {xs : List Int32} {d : Nat} {S : x_M} {Q : Option Value → x_M → Prop}   (hV : if (S 56 2) ≤ (S 56 10) then (x_E xs (d + 1) 111 52 [.ref 56] [] S Q) else ((x_ib (S 56 10) 400) ∧ (if (S 58 (Int32.toNatClampNeg (S 56 10))) = 32 then (∀ S1 : x_M, S1 = x_up S 56 10 ((S 56 10) + 1) → (x_E xs (d + 1) 111 0 [.ref 56] [] S1 Q)) else ((x_ib (S 56 10) 400) ∧ (if (S 58 (Int32.toNatClampNeg (S 56 10))) = 10 then (∀ S2 : x_M, S2 = x_up S 56 10 ((S 56 10) + 1) → (x_E xs (d + 1) 111 0 [.ref 56] [] S2 Q)) else (x_E xs (d + 1) 111 52 [.ref 56] [] S Q)))))) : x_E xs (d + 1) 111 0 [.ref 56] [] S Q := by
  refine e_aload f_111_0 rfl (by decide) ?_
  refine e_gf (c := 6) (j := 10) f_111_1 (by decide) (by decide) (by decide) ?_
  refine e_aload f_111_4 rfl (by decide) ?_
  refine e_gf (c := 6) (j := 2) f_111_5 (by decide) (by decide) (by decide) ?_
  refine e_icmp f_111_8 (fun hc => ?_) (fun hc => ?_)
  · have hc := x_cct_ge hc
    rw [if_pos hc] at hV
    exact hV
  · have hc := x_ccf_ge hc
    rw [if_neg hc] at hV
    refine e_aload f_111_11 rfl (by decide) ?_
    refine e_gr (c := 6) (j := 1) (r := 58) f_111_12 (by decide) (by decide) (by decide) (by decide) ?_
    refine e_aload f_111_15 rfl (by decide) ?_
    refine e_gf (c := 6) (j := 10) f_111_16 (by decide) (by decide) (by decide) ?_
    obtain ⟨hg, hV⟩ := hV
    refine e_ia (n := 400) f_111_19 (by decide) (by decide) hg ?_
    refine e_iconst (c := 32) f_111_20 (by decide) ?_
    refine e_icmp f_111_22 (fun hc => ?_) (fun hc => ?_)
    · have hc := x_cct_eq hc
      rw [if_pos hc] at hV
      refine e_aload f_111_39 rfl (by decide) ?_
      refine e_dup f_111_40 rfl ?_
      refine e_gf (c := 6) (j := 10) f_111_41 (by decide) (by decide) (by decide) ?_
      refine e_iconst (c := 1) f_111_44 (by decide) ?_
      refine e_iadd f_111_45 ?_
      refine e_pfn (c := 6) (j := 10) f_111_46 (by decide) (by decide) (by decide) (x_fit_i rfl) (fun S1 hS1 => ?_)
      have hV := hV S1 hS1
      refine e_goto f_111_49 ?_
      exact hV
    · have hc := x_ccf_eq hc
      rw [if_neg hc] at hV
      refine e_aload f_111_25 rfl (by decide) ?_
      refine e_gr (c := 6) (j := 1) (r := 58) f_111_26 (by decide) (by decide) (by decide) (by decide) ?_
      refine e_aload f_111_29 rfl (by decide) ?_
      refine e_gf (c := 6) (j := 10) f_111_30 (by decide) (by decide) (by decide) ?_
      obtain ⟨hg, hV⟩ := hV
      refine e_ia (n := 400) f_111_33 (by decide) (by decide) hg ?_
      refine e_iconst (c := 10) f_111_34 (by decide) ?_
      refine e_icmp f_111_36 (fun hc => ?_) (fun hc => ?_)
      · have hc := x_cct_ne hc
        rw [if_neg hc] at hV
        exact hV
      · have hc := x_ccf_ne hc
        rw [if_pos hc] at hV
        refine e_aload f_111_39 rfl (by decide) ?_
        refine e_dup f_111_40 rfl ?_
        refine e_gf (c := 6) (j := 10) f_111_41 (by decide) (by decide) (by decide) ?_
        refine e_iconst (c := 1) f_111_44 (by decide) ?_
        refine e_iadd f_111_45 ?_
        refine e_pfn (c := 6) (j := 10) f_111_46 (by decide) (by decide) (by decide) (x_fit_i rfl) (fun S2 hS2 => ?_)
        have hV := hV S2 hS2
        refine e_goto f_111_49 ?_
        exact hV
set_option maxRecDepth 20000 in
theorem T_111_52 {xs : List Int32} {d : Nat} {S : x_M} {Q : Option Value → x_M → Prop}   (hV : ∀ S1 : x_M, S1 = x_up S 56 11 (S 56 10) → (if (S1 56 2) ≤ (S1 56 10) then (∀ S2 : x_M, S2 = x_up S1 56 10 ((S1 56 10) + 0) → (x_E xs (d + 1) 111 85 [.ref 56] [] S2 Q)) else (∀ S3 : x_M, S3 = x_up S1 56 10 ((S1 56 10) + 1) → (x_E xs (d + 1) 111 85 [.ref 56] [] S3 Q)))) : x_E xs (d + 1) 111 52 [.ref 56] [] S Q := by
  refine e_aload f_111_52 rfl (by decide) ?_
  refine e_aload f_111_53 rfl (by decide) ?_
  refine e_gf (c := 6) (j := 10) f_111_54 (by decide) (by decide) (by decide) ?_
  refine e_pfn (c := 6) (j := 11) f_111_57 (by decide) (by decide) (by decide) (x_fit_i rfl) (fun S1 hS1 => ?_)
  have hV := hV S1 hS1
  refine e_aload f_111_60 rfl (by decide) ?_
  refine e_dup f_111_61 rfl ?_
  refine e_gf (c := 6) (j := 10) f_111_62 (by decide) (by decide) (by decide) ?_
  refine e_aload f_111_65 rfl (by decide) ?_
  refine e_gf (c := 6) (j := 10) f_111_66 (by decide) (by decide) (by decide) ?_
  refine e_aload f_111_69 rfl (by decide) ?_
  refine e_gf (c := 6) (j := 2) f_111_70 (by decide) (by decide) (by decide) ?_
  refine e_icmp f_111_73 (fun hc => ?_) (fun hc => ?_)
  · have hc := x_cct_ge hc
    rw [if_pos hc] at hV
    refine e_iconst (c := 0) f_111_80 (by decide) ?_
    refine e_iadd f_111_81 ?_
    refine e_pfn (c := 6) (j := 10) f_111_82 (by decide) (by decide) (by decide) (x_fit_i rfl) (fun S2 hS2 => ?_)
    have hV := hV S2 hS2
    exact hV
  · have hc := x_ccf_ge hc
    rw [if_neg hc] at hV
    refine e_iconst (c := 1) f_111_76 (by decide) ?_
    refine e_goto f_111_77 ?_
    refine e_iadd f_111_81 ?_
    refine e_pfn (c := 6) (j := 10) f_111_82 (by decide) (by decide) (by decide) (x_fit_i rfl) (fun S3 hS3 => ?_)
    have hV := hV S3 hS3
    exact hV
set_option maxRecDepth 20000 in
theorem T_111_85 {xs : List Int32} {d : Nat} {S : x_M} {Q : Option Value → x_M → Prop}   (hV : if (S 56 2) ≤ (S 56 10) then (∀ S1 : x_M, S1 = x_up S 56 12 (S 56 10) → (Q none S1)) else ((x_ib (S 56 11) 400) ∧ (∃ P2 : Int32 → x_M → Prop, x_Ci xs d 112 [.int (S 58 (Int32.toNatClampNeg (S 56 11)))] S P2 ∧ ∀ (v2 : Int32) (S2 : x_M), P2 v2 S2 → (if v2 ≤ 0 then (∀ S3 : x_M, S3 = x_up S2 56 12 (S2 56 10) → (Q none S3)) else ((x_ib (S2 56 10) 400) ∧ (∃ P4 : Int32 → x_M → Prop, x_Ci xs d 112 [.int (S2 58 (Int32.toNatClampNeg (S2 56 10)))] S2 P4 ∧ ∀ (v4 : Int32) (S4 : x_M), P4 v4 S4 → ((x_ib (S4 56 11) 400) ∧ (∃ P5 : Int32 → x_M → Prop, x_Ci xs d 112 [.int (S4 58 (Int32.toNatClampNeg (S4 56 11)))] S4 P5 ∧ ∀ (v5 : Int32) (S5 : x_M), P5 v5 S5 → (if v4 = v5 then (∀ S7 : x_M, S7 = x_up S5 56 10 ((S5 56 10) + 1) → (x_E xs (d + 1) 111 85 [.ref 56] [] S7 Q)) else (∀ S6 : x_M, S6 = x_up S5 56 12 (S5 56 10) → (Q none S6))))))))))) : x_E xs (d + 1) 111 85 [.ref 56] [] S Q := by
  refine e_aload f_111_85 rfl (by decide) ?_
  refine e_gf (c := 6) (j := 10) f_111_86 (by decide) (by decide) (by decide) ?_
  refine e_aload f_111_89 rfl (by decide) ?_
  refine e_gf (c := 6) (j := 2) f_111_90 (by decide) (by decide) (by decide) ?_
  refine e_icmp f_111_93 (fun hc => ?_) (fun hc => ?_)
  · have hc := x_cct_ge hc
    rw [if_pos hc] at hV
    refine e_aload f_111_151 rfl (by decide) ?_
    refine e_aload f_111_152 rfl (by decide) ?_
    refine e_gf (c := 6) (j := 10) f_111_153 (by decide) (by decide) (by decide) ?_
    refine e_pfn (c := 6) (j := 12) f_111_156 (by decide) (by decide) (by decide) (x_fit_i rfl) (fun S1 hS1 => ?_)
    have hV := hV S1 hS1
    exact e_return f_111_159 rt_111 hV
  · have hc := x_ccf_ge hc
    rw [if_neg hc] at hV
    refine e_aload f_111_96 rfl (by decide) ?_
    refine e_gr (c := 6) (j := 1) (r := 58) f_111_97 (by decide) (by decide) (by decide) (by decide) ?_
    refine e_aload f_111_100 rfl (by decide) ?_
    refine e_gf (c := 6) (j := 11) f_111_101 (by decide) (by decide) (by decide) ?_
    obtain ⟨hg, hV⟩ := hV
    refine e_ia (n := 400) f_111_104 (by decide) (by decide) hg ?_
    obtain ⟨P2, hP2, hV⟩ := hV
    refine e_si (n := 1) (A := [.int (S 58 (Int32.toNatClampNeg (S 56 11)))]) (R := []) f_111_105 na_112 rfl rfl (Nat.le_of_ble_eq_true rfl) (Nat.le_of_ble_eq_true rfl) (by rw [ml_112]; exact Nat.le_of_ble_eq_true rfl) hP2 (fun v2 S2 hp2 => ?_)
    have hV := hV v2 S2 hp2
    refine e_if f_111_108 (fun hc => ?_) (fun hc => ?_)
    · have hc := x_cct_le hc
      rw [if_pos hc] at hV
      refine e_aload f_111_151 rfl (by decide) ?_
      refine e_aload f_111_152 rfl (by decide) ?_
      refine e_gf (c := 6) (j := 10) f_111_153 (by decide) (by decide) (by decide) ?_
      refine e_pfn (c := 6) (j := 12) f_111_156 (by decide) (by decide) (by decide) (x_fit_i rfl) (fun S3 hS3 => ?_)
      have hV := hV S3 hS3
      exact e_return f_111_159 rt_111 hV
    · have hc := x_ccf_le hc
      rw [if_neg hc] at hV
      refine e_aload f_111_111 rfl (by decide) ?_
      refine e_gr (c := 6) (j := 1) (r := 58) f_111_112 (by decide) (by decide) (by decide) (by decide) ?_
      refine e_aload f_111_115 rfl (by decide) ?_
      refine e_gf (c := 6) (j := 10) f_111_116 (by decide) (by decide) (by decide) ?_
      obtain ⟨hg, hV⟩ := hV
      refine e_ia (n := 400) f_111_119 (by decide) (by decide) hg ?_
      obtain ⟨P4, hP4, hV⟩ := hV
      refine e_si (n := 1) (A := [.int (S2 58 (Int32.toNatClampNeg (S2 56 10)))]) (R := []) f_111_120 na_112 rfl rfl (Nat.le_of_ble_eq_true rfl) (Nat.le_of_ble_eq_true rfl) (by rw [ml_112]; exact Nat.le_of_ble_eq_true rfl) hP4 (fun v4 S4 hp4 => ?_)
      have hV := hV v4 S4 hp4
      refine e_aload f_111_123 rfl (by decide) ?_
      refine e_gr (c := 6) (j := 1) (r := 58) f_111_124 (by decide) (by decide) (by decide) (by decide) ?_
      refine e_aload f_111_127 rfl (by decide) ?_
      refine e_gf (c := 6) (j := 11) f_111_128 (by decide) (by decide) (by decide) ?_
      obtain ⟨hg, hV⟩ := hV
      refine e_ia (n := 400) f_111_131 (by decide) (by decide) hg ?_
      obtain ⟨P5, hP5, hV⟩ := hV
      refine e_si (n := 1) (A := [.int (S4 58 (Int32.toNatClampNeg (S4 56 11)))]) (R := [.int v4]) f_111_132 na_112 rfl rfl (Nat.le_of_ble_eq_true rfl) (Nat.le_of_ble_eq_true rfl) (by rw [ml_112]; exact Nat.le_of_ble_eq_true rfl) hP5 (fun v5 S5 hp5 => ?_)
      have hV := hV v5 S5 hp5
      refine e_icmp f_111_135 (fun hc => ?_) (fun hc => ?_)
      · have hc := x_cct_ne hc
        rw [if_neg hc] at hV
        refine e_aload f_111_151 rfl (by decide) ?_
        refine e_aload f_111_152 rfl (by decide) ?_
        refine e_gf (c := 6) (j := 10) f_111_153 (by decide) (by decide) (by decide) ?_
        refine e_pfn (c := 6) (j := 12) f_111_156 (by decide) (by decide) (by decide) (x_fit_i rfl) (fun S6 hS6 => ?_)
        have hV := hV S6 hS6
        exact e_return f_111_159 rt_111 hV
      · have hc := x_ccf_ne hc
        rw [if_pos hc] at hV
        refine e_aload f_111_138 rfl (by decide) ?_
        refine e_dup f_111_139 rfl ?_
        refine e_gf (c := 6) (j := 10) f_111_140 (by decide) (by decide) (by decide) ?_
        refine e_iconst (c := 1) f_111_143 (by decide) ?_
        refine e_iadd f_111_144 ?_
        refine e_pfn (c := 6) (j := 10) f_111_145 (by decide) (by decide) (by decide) (x_fit_i rfl) (fun S7 hS7 => ?_)
        have hV := hV S7 hS7
        refine e_goto f_111_148 ?_
        exact hV
set_option maxRecDepth 20000 in
theorem T_112_0 {xs : List Int32} {d : Nat} {S : x_M} {Q : Option Value → x_M → Prop} {a0 : Int32}  (hV : if a0 < 97 then (if a0 < 48 then (Q (some (.int 0)) S) else (if (57 : Int32) < a0 then (Q (some (.int 0)) S) else (Q (some (.int 2)) S))) else (if (122 : Int32) < a0 then (if a0 < 48 then (Q (some (.int 0)) S) else (if (57 : Int32) < a0 then (Q (some (.int 0)) S) else (Q (some (.int 2)) S))) else (Q (some (.int 1)) S))) : x_E xs (d + 1) 112 0 [.int a0] [] S Q := by
  refine e_iload f_112_0 rfl ?_
  refine e_iconst (c := 97) f_112_1 (by decide) ?_
  refine e_icmp f_112_3 (fun hc => ?_) (fun hc => ?_)
  · have hc := x_cct_lt hc
    rw [if_pos hc] at hV
    refine e_iload f_112_16 rfl ?_
    refine e_iconst (c := 48) f_112_17 (by decide) ?_
    refine e_icmp f_112_19 (fun hc => ?_) (fun hc => ?_)
    · have hc := x_cct_lt hc
      rw [if_pos hc] at hV
      refine e_iconst (c := 0) f_112_32 (by decide) ?_
      exact e_ireturn f_112_33 rt_112 rfl hV
    · have hc := x_ccf_lt hc
      rw [if_neg hc] at hV
      refine e_iload f_112_22 rfl ?_
      refine e_iconst (c := 57) f_112_23 (by decide) ?_
      refine e_icmp f_112_25 (fun hc => ?_) (fun hc => ?_)
      · have hc := x_cct_gt hc
        rw [if_pos hc] at hV
        refine e_iconst (c := 0) f_112_32 (by decide) ?_
        exact e_ireturn f_112_33 rt_112 rfl hV
      · have hc := x_ccf_gt hc
        rw [if_neg hc] at hV
        refine e_iconst (c := 2) f_112_28 (by decide) ?_
        refine e_goto f_112_29 ?_
        exact e_ireturn f_112_33 rt_112 rfl hV
  · have hc := x_ccf_lt hc
    rw [if_neg hc] at hV
    refine e_iload f_112_6 rfl ?_
    refine e_iconst (c := 122) f_112_7 (by decide) ?_
    refine e_icmp f_112_9 (fun hc => ?_) (fun hc => ?_)
    · have hc := x_cct_gt hc
      rw [if_pos hc] at hV
      refine e_iload f_112_16 rfl ?_
      refine e_iconst (c := 48) f_112_17 (by decide) ?_
      refine e_icmp f_112_19 (fun hc => ?_) (fun hc => ?_)
      · have hc := x_cct_lt hc
        rw [if_pos hc] at hV
        refine e_iconst (c := 0) f_112_32 (by decide) ?_
        exact e_ireturn f_112_33 rt_112 rfl hV
      · have hc := x_ccf_lt hc
        rw [if_neg hc] at hV
        refine e_iload f_112_22 rfl ?_
        refine e_iconst (c := 57) f_112_23 (by decide) ?_
        refine e_icmp f_112_25 (fun hc => ?_) (fun hc => ?_)
        · have hc := x_cct_gt hc
          rw [if_pos hc] at hV
          refine e_iconst (c := 0) f_112_32 (by decide) ?_
          exact e_ireturn f_112_33 rt_112 rfl hV
        · have hc := x_ccf_gt hc
          rw [if_neg hc] at hV
          refine e_iconst (c := 2) f_112_28 (by decide) ?_
          refine e_goto f_112_29 ?_
          exact e_ireturn f_112_33 rt_112 rfl hV
    · have hc := x_ccf_gt hc
      rw [if_neg hc] at hV
      refine e_iconst (c := 1) f_112_12 (by decide) ?_
      refine e_goto f_112_13 ?_
      exact e_ireturn f_112_33 rt_112 rfl hV
set_option maxRecDepth 20000 in
theorem T_113_0 {xs : List Int32} {d : Nat} {S : x_M} {Q : Option Value → x_M → Prop}   (hV : ∃ P1 : Int32 → x_M → Prop, x_Ci xs d 114 [.ref 56, .int 5638196, .int 5] S P1 ∧ ∀ (v1 : Int32) (S1 : x_M), P1 v1 S1 → (if v1 = 0 then (∀ S3 : x_M, S3 = x_up S1 56 3 1 → (Q (some (.int 0)) S3)) else (∃ P2 : x_M → Prop, x_Cv xs d 111 [.ref 56] S1 P2 ∧ ∀ (S2 : x_M), P2 S2 → (x_E xs (d + 1) 113 23 [.ref 56, .int 0, .null] [] S2 Q)))) : x_E xs (d + 1) 113 0 [.ref 56, .null, .null] [] S Q := by
  refine e_aload f_113_0 rfl (by decide) ?_
  refine e_iconst (c := 5638196) f_113_1 (by decide) ?_
  refine e_iconst (c := 5) f_113_3 (by decide) ?_
  obtain ⟨P1, hP1, hV⟩ := hV
  refine e_vi (n := 3) (A := [.ref 56, .int 5638196, .int 5]) (R := []) f_113_4 na_114 rfl rfl (Nat.le_of_ble_eq_true rfl) (Nat.le_of_ble_eq_true rfl) (by rw [ml_114]; exact Nat.le_of_ble_eq_true rfl) rfl (by rw [cy_114]; decide) (by rw [cy_114]; exact (by decide : x_tg 56 = 6)) hP1 (fun v1 S1 hp1 => ?_)
  have hV := hV v1 S1 hp1
  refine e_if f_113_7 (fun hc => ?_) (fun hc => ?_)
  · have hc := x_cct_ne hc
    rw [if_neg hc] at hV
    refine e_aload f_113_17 rfl (by decide) ?_
    obtain ⟨P2, hP2, hV⟩ := hV
    refine e_vv (n := 1) (A := [.ref 56]) (R := []) f_113_18 na_111 rfl rfl (Nat.le_of_ble_eq_true rfl) (Nat.le_of_ble_eq_true rfl) (by rw [ml_111]; exact Nat.le_of_ble_eq_true rfl) rfl (by rw [cy_111]; decide) (by rw [cy_111]; exact (by decide : x_tg 56 = 6)) hP2 (fun S2 hp2 => ?_)
    have hV := hV S2 hp2
    refine e_iconst (c := 0) f_113_21 (by decide) ?_
    refine e_istore (L' := [.ref 56, .int 0, .null]) f_113_22 (Nat.le_of_ble_eq_true rfl) rfl ?_
    exact hV
  · have hc := x_ccf_ne hc
    rw [if_pos hc] at hV
    refine e_aload f_113_10 rfl (by decide) ?_
    refine e_iconst (c := 1) f_113_11 (by decide) ?_
    refine e_pfn (c := 6) (j := 3) f_113_12 (by decide) (by decide) (by decide) (x_fit_i rfl) (fun S3 hS3 => ?_)
    have hV := hV S3 hS3
    refine e_iconst (c := 0) f_113_15 (by decide) ?_
    exact e_ireturn f_113_16 rt_113 (by decide) hV
set_option maxRecDepth 20000 in
theorem T_113_23 {xs : List Int32} {d : Nat} {S : x_M} {Q : Option Value → x_M → Prop} {a1 : Int32} {a2 : Value}  (hV : if (9 : Int32) ≤ a1 then (∃ P1 : Int32 → x_M → Prop, x_Ci xs d 116 [.ref 56] S P1 ∧ ∀ (v1 : Int32) (S1 : x_M), P1 v1 S1 → ((v1 = 0 ∨ v1 = 1) ∧ Q (some (.int v1)) S1)) else (∃ P2 : Int32 → x_M → Prop, x_Ci xs d 115 [.ref 56, .int 99] S P2 ∧ ∀ (v2 : Int32) (S2 : x_M), P2 v2 S2 → (if v2 = (-1000000) then (Q (some (.int 0)) S2) else ((x_ib a1 9) ∧ (∀ S3 : x_M, S3 = x_up S2 63 (Int32.toNatClampNeg a1) v2 → (x_E xs (d + 1) 113 23 [.ref 56, .int (a1 + 1), .int v2] [] S3 Q)))))) : x_E xs (d + 1) 113 23 [.ref 56, .int a1, a2] [] S Q := by
  refine e_iload f_113_23 rfl ?_
  refine e_iconst (c := 9) f_113_24 (by decide) ?_
  refine e_icmp f_113_26 (fun hc => ?_) (fun hc => ?_)
  · have hc := x_cct_ge hc
    rw [if_pos hc] at hV
    refine e_aload f_113_57 rfl (by decide) ?_
    obtain ⟨P1, hP1, hV⟩ := hV
    refine e_vi (n := 1) (A := [.ref 56]) (R := []) f_113_58 na_116 rfl rfl (Nat.le_of_ble_eq_true rfl) (Nat.le_of_ble_eq_true rfl) (by rw [ml_116]; exact Nat.le_of_ble_eq_true rfl) rfl (by rw [cy_116]; decide) (by rw [cy_116]; exact (by decide : x_tg 56 = 6)) hP1 (fun v1 S1 hp1 => ?_)
    have hV := hV v1 S1 hp1
    obtain ⟨hg, hV⟩ := hV
    exact e_ireturn f_113_61 rt_113 (x_nz hg) hV
  · have hc := x_ccf_ge hc
    rw [if_neg hc] at hV
    refine e_aload f_113_29 rfl (by decide) ?_
    refine e_iconst (c := 99) f_113_30 (by decide) ?_
    obtain ⟨P2, hP2, hV⟩ := hV
    refine e_vi (n := 2) (A := [.ref 56, .int 99]) (R := []) f_113_32 na_115 rfl rfl (Nat.le_of_ble_eq_true rfl) (Nat.le_of_ble_eq_true rfl) (by rw [ml_115]; exact Nat.le_of_ble_eq_true rfl) rfl (by rw [cy_115]; decide) (by rw [cy_115]; exact (by decide : x_tg 56 = 6)) hP2 (fun v2 S2 hp2 => ?_)
    have hV := hV v2 S2 hp2
    refine e_istore (L' := [.ref 56, .int a1, .int v2]) f_113_35 (Nat.le_of_ble_eq_true rfl) rfl ?_
    refine e_iload f_113_36 rfl ?_
    refine e_iconst (c := (-1000000)) f_113_37 (by decide) ?_
    refine e_icmp f_113_39 (fun hc => ?_) (fun hc => ?_)
    · have hc := x_cct_ne hc
      rw [if_neg hc] at hV
      refine e_aload f_113_44 rfl (by decide) ?_
      refine e_gr (c := 6) (j := 13) (r := 63) f_113_45 (by decide) (by decide) (by decide) (by decide) ?_
      refine e_iload f_113_48 rfl ?_
      refine e_iload f_113_49 rfl ?_
      obtain ⟨hg, hV⟩ := hV
      refine e_isn (n := 9) f_113_50 (by decide) (by decide) hg (fun S3 hS3 => ?_)
      have hV := hV S3 hS3
      refine e_inc (c := 1) (L' := [.ref 56, .int (a1 + 1), .int v2]) f_113_51 rfl (by decide) rfl ?_
      refine e_goto f_113_54 ?_
      exact hV
    · have hc := x_ccf_ne hc
      rw [if_pos hc] at hV
      refine e_iconst (c := 0) f_113_42 (by decide) ?_
      exact e_ireturn f_113_43 rt_113 (by decide) hV
set_option maxRecDepth 20000 in
theorem T_114_0 {xs : List Int32} {d : Nat} {S : x_M} {Q : Option Value → x_M → Prop} {a1 : Int32} {a2 : Int32}  (hV : if ((S 56 12) - (S 56 11)) = a2 then (x_E xs (d + 1) 114 22 [.ref 56, .int a1, .int a2, .int 1, .int 0] [] S Q) else (x_E xs (d + 1) 114 22 [.ref 56, .int a1, .int a2, .int 0, .int 0] [] S Q)) : x_E xs (d + 1) 114 0 [.ref 56, .int a1, .int a2, .null, .null] [] S Q := by
  refine e_aload f_114_0 rfl (by decide) ?_
  refine e_gf (c := 6) (j := 12) f_114_1 (by decide) (by decide) (by decide) ?_
  refine e_aload f_114_4 rfl (by decide) ?_
  refine e_gf (c := 6) (j := 11) f_114_5 (by decide) (by decide) (by decide) ?_
  refine e_isub f_114_8 ?_
  refine e_iload f_114_9 rfl ?_
  refine e_icmp f_114_10 (fun hc => ?_) (fun hc => ?_)
  · have hc := x_cct_ne hc
    rw [if_neg hc] at hV
    refine e_iconst (c := 0) f_114_17 (by decide) ?_
    refine e_istore (L' := [.ref 56, .int a1, .int a2, .int 0, .null]) f_114_18 (Nat.le_of_ble_eq_true rfl) rfl ?_
    refine e_iconst (c := 0) f_114_19 (by decide) ?_
    refine e_istore (L' := [.ref 56, .int a1, .int a2, .int 0, .int 0]) f_114_20 (Nat.le_of_ble_eq_true rfl) rfl ?_
    exact hV
  · have hc := x_ccf_ne hc
    rw [if_pos hc] at hV
    refine e_iconst (c := 1) f_114_13 (by decide) ?_
    refine e_goto f_114_14 ?_
    refine e_istore (L' := [.ref 56, .int a1, .int a2, .int 1, .null]) f_114_18 (Nat.le_of_ble_eq_true rfl) rfl ?_
    refine e_iconst (c := 0) f_114_19 (by decide) ?_
    refine e_istore (L' := [.ref 56, .int a1, .int a2, .int 1, .int 0]) f_114_20 (Nat.le_of_ble_eq_true rfl) rfl ?_
    exact hV
set_option maxRecDepth 20000 in
theorem T_114_22 {xs : List Int32} {d : Nat} {S : x_M} {Q : Option Value → x_M → Prop} {a1 : Int32} {a2 : Int32} {a3 : Int32} {a4 : Int32}  (hV : if a3 = 0 then ((a3 = 0 ∨ a3 = 1) ∧ Q (some (.int a3)) S) else (if a2 ≤ a4 then ((a3 = 0 ∨ a3 = 1) ∧ Q (some (.int a3)) S) else ((x_ib ((S 56 11) + a4) 400) ∧ (if (S 58 (Int32.toNatClampNeg ((S 56 11) + a4))) = (96 + ((a1 >>> ((5 * a4) &&& 31)) &&& 31)) then (x_E xs (d + 1) 114 22 [.ref 56, .int a1, .int a2, .int 1, .int (a4 + 1)] [] S Q) else (x_E xs (d + 1) 114 22 [.ref 56, .int a1, .int a2, .int 0, .int (a4 + 1)] [] S Q))))) : x_E xs (d + 1) 114 22 [.ref 56, .int a1, .int a2, .int a3, .int a4] [] S Q := by
  refine e_iload f_114_22 rfl ?_
  refine e_if f_114_23 (fun hc => ?_) (fun hc => ?_)
  · have hc := x_cct_eq hc
    rw [if_pos hc] at hV
    refine e_iload f_114_71 rfl ?_
    obtain ⟨hg, hV⟩ := hV
    exact e_ireturn f_114_72 rt_114 (x_nz hg) hV
  · have hc := x_ccf_eq hc
    rw [if_neg hc] at hV
    refine e_iload f_114_26 rfl ?_
    refine e_iload f_114_28 rfl ?_
    refine e_icmp f_114_29 (fun hc => ?_) (fun hc => ?_)
    · have hc := x_cct_ge hc
      rw [if_pos hc] at hV
      refine e_iload f_114_71 rfl ?_
      obtain ⟨hg, hV⟩ := hV
      exact e_ireturn f_114_72 rt_114 (x_nz hg) hV
    · have hc := x_ccf_ge hc
      rw [if_neg hc] at hV
      refine e_aload f_114_32 rfl (by decide) ?_
      refine e_gr (c := 6) (j := 1) (r := 58) f_114_33 (by decide) (by decide) (by decide) (by decide) ?_
      refine e_aload f_114_36 rfl (by decide) ?_
      refine e_gf (c := 6) (j := 11) f_114_37 (by decide) (by decide) (by decide) ?_
      refine e_iload f_114_40 rfl ?_
      refine e_iadd f_114_42 ?_
      obtain ⟨hg, hV⟩ := hV
      refine e_ia (n := 400) f_114_43 (by decide) (by decide) hg ?_
      refine e_iconst (c := 96) f_114_44 (by decide) ?_
      refine e_iload f_114_46 rfl ?_
      refine e_iconst (c := 5) f_114_47 (by decide) ?_
      refine e_iload f_114_48 rfl ?_
      refine e_imul f_114_50 ?_
      refine e_ishr f_114_51 ?_
      refine e_iconst (c := 31) f_114_52 (by decide) ?_
      refine e_iand f_114_54 ?_
      refine e_iadd f_114_55 ?_
      refine e_icmp f_114_56 (fun hc => ?_) (fun hc => ?_)
      · have hc := x_cct_ne hc
        rw [if_neg hc] at hV
        refine e_iconst (c := 0) f_114_63 (by decide) ?_
        refine e_istore (L' := [.ref 56, .int a1, .int a2, .int 0, .int a4]) f_114_64 (Nat.le_of_ble_eq_true rfl) rfl ?_
        refine e_inc (c := 1) (L' := [.ref 56, .int a1, .int a2, .int 0, .int (a4 + 1)]) f_114_65 rfl (by decide) rfl ?_
        refine e_goto f_114_68 ?_
        exact hV
      · have hc := x_ccf_ne hc
        rw [if_pos hc] at hV
        refine e_iconst (c := 1) f_114_59 (by decide) ?_
        refine e_goto f_114_60 ?_
        refine e_istore (L' := [.ref 56, .int a1, .int a2, .int 1, .int a4]) f_114_64 (Nat.le_of_ble_eq_true rfl) rfl ?_
        refine e_inc (c := 1) (L' := [.ref 56, .int a1, .int a2, .int 1, .int (a4 + 1)]) f_114_65 rfl (by decide) rfl ?_
        refine e_goto f_114_68 ?_
        exact hV
set_option maxRecDepth 20000 in
theorem T_115_0 {xs : List Int32} {d : Nat} {S : x_M} {Q : Option Value → x_M → Prop} {a1 : Int32}  (hV : if (S 56 11) = (S 56 2) then (∀ S1 : x_M, S1 = x_up S 56 3 1 → (Q (some (.int (-1000000))) S1)) else ((x_ib (S 56 11) 400) ∧ (∃ P2 : Int32 → x_M → Prop, x_Ci xs d 112 [.int (S 58 (Int32.toNatClampNeg (S 56 11)))] S P2 ∧ ∀ (v2 : Int32) (S2 : x_M), P2 v2 S2 → (if v2 = 2 then (x_E xs (d + 1) 115 42 [.ref 56, .int a1, .int 0, .int (S2 56 11)] [] S2 Q) else (∀ S3 : x_M, S3 = x_up S2 56 3 1 → (Q (some (.int (-1000000))) S3)))))) : x_E xs (d + 1) 115 0 [.ref 56, .int a1, .null, .null] [] S Q := by
  refine e_aload f_115_0 rfl (by decide) ?_
  refine e_gf (c := 6) (j := 11) f_115_1 (by decide) (by decide) (by decide) ?_
  refine e_aload f_115_4 rfl (by decide) ?_
  refine e_gf (c := 6) (j := 2) f_115_5 (by decide) (by decide) (by decide) ?_
  refine e_icmp f_115_8 (fun hc => ?_) (fun hc => ?_)
  · have hc := x_cct_eq hc
    rw [if_pos hc] at hV
    refine e_aload f_115_27 rfl (by decide) ?_
    refine e_iconst (c := 1) f_115_28 (by decide) ?_
    refine e_pfn (c := 6) (j := 3) f_115_29 (by decide) (by decide) (by decide) (x_fit_i rfl) (fun S1 hS1 => ?_)
    have hV := hV S1 hS1
    refine e_iconst (c := (-1000000)) f_115_32 (by decide) ?_
    exact e_ireturn f_115_34 rt_115 rfl hV
  · have hc := x_ccf_eq hc
    rw [if_neg hc] at hV
    refine e_aload f_115_11 rfl (by decide) ?_
    refine e_gr (c := 6) (j := 1) (r := 58) f_115_12 (by decide) (by decide) (by decide) (by decide) ?_
    refine e_aload f_115_15 rfl (by decide) ?_
    refine e_gf (c := 6) (j := 11) f_115_16 (by decide) (by decide) (by decide) ?_
    obtain ⟨hg, hV⟩ := hV
    refine e_ia (n := 400) f_115_19 (by decide) (by decide) hg ?_
    obtain ⟨P2, hP2, hV⟩ := hV
    refine e_si (n := 1) (A := [.int (S 58 (Int32.toNatClampNeg (S 56 11)))]) (R := []) f_115_20 na_112 rfl rfl (Nat.le_of_ble_eq_true rfl) (Nat.le_of_ble_eq_true rfl) (by rw [ml_112]; exact Nat.le_of_ble_eq_true rfl) hP2 (fun v2 S2 hp2 => ?_)
    have hV := hV v2 S2 hp2
    refine e_iconst (c := 2) f_115_23 (by decide) ?_
    refine e_icmp f_115_24 (fun hc => ?_) (fun hc => ?_)
    · have hc := x_cct_eq hc
      rw [if_pos hc] at hV
      refine e_iconst (c := 0) f_115_35 (by decide) ?_
      refine e_istore (L' := [.ref 56, .int a1, .int 0, .null]) f_115_36 (Nat.le_of_ble_eq_true rfl) rfl ?_
      refine e_aload f_115_37 rfl (by decide) ?_
      refine e_gf (c := 6) (j := 11) f_115_38 (by decide) (by decide) (by decide) ?_
      refine e_istore (L' := [.ref 56, .int a1, .int 0, .int (S2 56 11)]) f_115_41 (Nat.le_of_ble_eq_true rfl) rfl ?_
      exact hV
    · have hc := x_ccf_eq hc
      rw [if_neg hc] at hV
      refine e_aload f_115_27 rfl (by decide) ?_
      refine e_iconst (c := 1) f_115_28 (by decide) ?_
      refine e_pfn (c := 6) (j := 3) f_115_29 (by decide) (by decide) (by decide) (x_fit_i rfl) (fun S3 hS3 => ?_)
      have hV := hV S3 hS3
      refine e_iconst (c := (-1000000)) f_115_32 (by decide) ?_
      exact e_ireturn f_115_34 rt_115 rfl hV
set_option maxRecDepth 20000 in
theorem T_115_42 {xs : List Int32} {d : Nat} {S : x_M} {Q : Option Value → x_M → Prop} {a1 : Int32} {a2 : Int32} {a3 : Int32}  (hV : if (S 56 12) ≤ a3 then (x_E xs (d + 1) 115 81 [.ref 56, .int a1, .int a2, .int a3] [] S Q) else (if ((S 56 11) + 4) ≤ a3 then (x_E xs (d + 1) 115 81 [.ref 56, .int a1, .int a2, .int a3] [] S Q) else ((x_ib a3 400) ∧ (x_E xs (d + 1) 115 42 [.ref 56, .int a1, .int (((10 * a2) + (S 58 (Int32.toNatClampNeg a3))) - 48), .int (a3 + 1)] [] S Q)))) : x_E xs (d + 1) 115 42 [.ref 56, .int a1, .int a2, .int a3] [] S Q := by
  refine e_iload f_115_42 rfl ?_
  refine e_aload f_115_43 rfl (by decide) ?_
  refine e_gf (c := 6) (j := 12) f_115_44 (by decide) (by decide) (by decide) ?_
  refine e_icmp f_115_47 (fun hc => ?_) (fun hc => ?_)
  · have hc := x_cct_ge hc
    rw [if_pos hc] at hV
    exact hV
  · have hc := x_ccf_ge hc
    rw [if_neg hc] at hV
    refine e_iload f_115_50 rfl ?_
    refine e_aload f_115_51 rfl (by decide) ?_
    refine e_gf (c := 6) (j := 11) f_115_52 (by decide) (by decide) (by decide) ?_
    refine e_iconst (c := 4) f_115_55 (by decide) ?_
    refine e_iadd f_115_56 ?_
    refine e_icmp f_115_57 (fun hc => ?_) (fun hc => ?_)
    · have hc := x_cct_ge hc
      rw [if_pos hc] at hV
      exact hV
    · have hc := x_ccf_ge hc
      rw [if_neg hc] at hV
      refine e_iconst (c := 10) f_115_60 (by decide) ?_
      refine e_iload f_115_62 rfl ?_
      refine e_imul f_115_63 ?_
      refine e_aload f_115_64 rfl (by decide) ?_
      refine e_gr (c := 6) (j := 1) (r := 58) f_115_65 (by decide) (by decide) (by decide) (by decide) ?_
      refine e_iload f_115_68 rfl ?_
      obtain ⟨hg, hV⟩ := hV
      refine e_ia (n := 400) f_115_69 (by decide) (by decide) hg ?_
      refine e_iadd f_115_70 ?_
      refine e_iconst (c := 48) f_115_71 (by decide) ?_
      refine e_isub f_115_73 ?_
      refine e_istore (L' := [.ref 56, .int a1, .int (((10 * a2) + (S 58 (Int32.toNatClampNeg a3))) - 48), .int a3]) f_115_74 (Nat.le_of_ble_eq_true rfl) rfl ?_
      refine e_inc (c := 1) (L' := [.ref 56, .int a1, .int (((10 * a2) + (S 58 (Int32.toNatClampNeg a3))) - 48), .int (a3 + 1)]) f_115_75 rfl (by decide) rfl ?_
      refine e_goto f_115_78 ?_
      exact hV
set_option maxRecDepth 20000 in
theorem T_115_81 {xs : List Int32} {d : Nat} {S : x_M} {Q : Option Value → x_M → Prop} {a1 : Int32} {a2 : Int32} {a3 : Int32}  (hV : if (3 : Int32) < ((S 56 12) - (S 56 11)) then (if ((S 56 12) - (S 56 11)) ≤ 3 then (∀ S1 : x_M, S1 = x_up S 56 3 2 → (Q (some (.int (-1000000))) S1)) else (∀ S2 : x_M, S2 = x_up S 56 3 1 → (Q (some (.int (-1000000))) S2))) else (if a2 ≤ a1 then (∃ P3 : x_M → Prop, x_Cv xs d 111 [.ref 56] S P3 ∧ ∀ (S3 : x_M), P3 S3 → (Q (some (.int a2)) S3)) else (if ((S 56 12) - (S 56 11)) ≤ 3 then (∀ S4 : x_M, S4 = x_up S 56 3 2 → (Q (some (.int (-1000000))) S4)) else (∀ S5 : x_M, S5 = x_up S 56 3 1 → (Q (some (.int (-1000000))) S5))))) : x_E xs (d + 1) 115 81 [.ref 56, .int a1, .int a2, .int a3] [] S Q := by
  refine e_aload f_115_81 rfl (by decide) ?_
  refine e_gf (c := 6) (j := 12) f_115_82 (by decide) (by decide) (by decide) ?_
  refine e_aload f_115_85 rfl (by decide) ?_
  refine e_gf (c := 6) (j := 11) f_115_86 (by decide) (by decide) (by decide) ?_
  refine e_isub f_115_89 ?_
  refine e_iconst (c := 3) f_115_90 (by decide) ?_
  refine e_icmp f_115_91 (fun hc => ?_) (fun hc => ?_)
  · have hc := x_cct_gt hc
    rw [if_pos hc] at hV
    refine e_aload f_115_99 rfl (by decide) ?_
    refine e_aload f_115_100 rfl (by decide) ?_
    refine e_gf (c := 6) (j := 12) f_115_101 (by decide) (by decide) (by decide) ?_
    refine e_aload f_115_104 rfl (by decide) ?_
    refine e_gf (c := 6) (j := 11) f_115_105 (by decide) (by decide) (by decide) ?_
    refine e_isub f_115_108 ?_
    refine e_iconst (c := 3) f_115_109 (by decide) ?_
    refine e_icmp f_115_110 (fun hc => ?_) (fun hc => ?_)
    · have hc := x_cct_le hc
      rw [if_pos hc] at hV
      refine e_iconst (c := 2) f_115_117 (by decide) ?_
      refine e_pfn (c := 6) (j := 3) f_115_118 (by decide) (by decide) (by decide) (x_fit_i rfl) (fun S1 hS1 => ?_)
      have hV := hV S1 hS1
      refine e_iconst (c := (-1000000)) f_115_121 (by decide) ?_
      exact e_ireturn f_115_123 rt_115 rfl hV
    · have hc := x_ccf_le hc
      rw [if_neg hc] at hV
      refine e_iconst (c := 1) f_115_113 (by decide) ?_
      refine e_goto f_115_114 ?_
      refine e_pfn (c := 6) (j := 3) f_115_118 (by decide) (by decide) (by decide) (x_fit_i rfl) (fun S2 hS2 => ?_)
      have hV := hV S2 hS2
      refine e_iconst (c := (-1000000)) f_115_121 (by decide) ?_
      exact e_ireturn f_115_123 rt_115 rfl hV
  · have hc := x_ccf_gt hc
    rw [if_neg hc] at hV
    refine e_iload f_115_94 rfl ?_
    refine e_iload f_115_95 rfl ?_
    refine e_icmp f_115_96 (fun hc => ?_) (fun hc => ?_)
    · have hc := x_cct_le hc
      rw [if_pos hc] at hV
      refine e_aload f_115_124 rfl (by decide) ?_
      obtain ⟨P3, hP3, hV⟩ := hV
      refine e_vv (n := 1) (A := [.ref 56]) (R := []) f_115_125 na_111 rfl rfl (Nat.le_of_ble_eq_true rfl) (Nat.le_of_ble_eq_true rfl) (by rw [ml_111]; exact Nat.le_of_ble_eq_true rfl) rfl (by rw [cy_111]; decide) (by rw [cy_111]; exact (by decide : x_tg 56 = 6)) hP3 (fun S3 hp3 => ?_)
      have hV := hV S3 hp3
      refine e_iload f_115_128 rfl ?_
      exact e_ireturn f_115_129 rt_115 rfl hV
    · have hc := x_ccf_le hc
      rw [if_neg hc] at hV
      refine e_aload f_115_99 rfl (by decide) ?_
      refine e_aload f_115_100 rfl (by decide) ?_
      refine e_gf (c := 6) (j := 12) f_115_101 (by decide) (by decide) (by decide) ?_
      refine e_aload f_115_104 rfl (by decide) ?_
      refine e_gf (c := 6) (j := 11) f_115_105 (by decide) (by decide) (by decide) ?_
      refine e_isub f_115_108 ?_
      refine e_iconst (c := 3) f_115_109 (by decide) ?_
      refine e_icmp f_115_110 (fun hc => ?_) (fun hc => ?_)
      · have hc := x_cct_le hc
        rw [if_pos hc] at hV
        refine e_iconst (c := 2) f_115_117 (by decide) ?_
        refine e_pfn (c := 6) (j := 3) f_115_118 (by decide) (by decide) (by decide) (x_fit_i rfl) (fun S4 hS4 => ?_)
        have hV := hV S4 hS4
        refine e_iconst (c := (-1000000)) f_115_121 (by decide) ?_
        exact e_ireturn f_115_123 rt_115 rfl hV
      · have hc := x_ccf_le hc
        rw [if_neg hc] at hV
        refine e_iconst (c := 1) f_115_113 (by decide) ?_
        refine e_goto f_115_114 ?_
        refine e_pfn (c := 6) (j := 3) f_115_118 (by decide) (by decide) (by decide) (x_fit_i rfl) (fun S5 hS5 => ?_)
        have hV := hV S5 hS5
        refine e_iconst (c := (-1000000)) f_115_121 (by decide) ?_
        exact e_ireturn f_115_123 rt_115 rfl hV
