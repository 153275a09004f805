set_option maxRecDepth 20000 in
theorem T_65_0 {xs : List Int32} {d : Nat} {S : x_M} {Q : Option Value → x_M → Prop} {a1 : Nat} {a2 : Int32} {a3 : Int32} (ha1 : x_tg a1 = 2) (hV : x_E xs (d + 1) 65 3 [.ref 8, .ref a1, .int a2, .int a3, .int 0, .null] [] S Q) : x_E xs (d + 1) 65 0 [.ref 8, .ref a1, .int a2, .int a3, .null, .null] [] S Q := by
  refine e_iconst (c := 0) f_65_0 (by decide) ?_
  refine e_istore (L' := [.ref 8, .ref a1, .int a2, .int a3, .int 0, .null]) f_65_1 (Nat.le_of_ble_eq_true rfl) rfl ?_
  exact hV
set_option maxRecDepth 20000 in
theorem T_65_3 {xs : List Int32} {d : Nat} {S : x_M} {Q : Option Value → x_M → Prop} {a1 : Nat} {a2 : Int32} {a3 : Int32} {a4 : Int32} {a5 : Value} (ha1 : x_tg a1 = 2) (hV : if a3 ≤ a4 then (Q (some (.int 1)) S) else (∃ P1 : Int32 → x_M → Prop, x_Ci xs d 27 [.ref a1, .int (a2 + a4)] S P1 ∧ ∀ (v1 : Int32) (S1 : x_M), P1 v1 S1 → (if v1 < 0 then (Q (some (.int 0)) S1) else (if v1 < (8 * (S1 12 5)) then (x_E xs (d + 1) 65 3 [.ref 8, .ref a1, .int a2, .int a3, .int (a4 + 1), .int v1] [] S1 Q) else (Q (some (.int 0)) S1))))) : x_E xs (d + 1) 65 3 [.ref 8, .ref a1, .int a2, .int a3, .int a4, a5] [] S Q := by
  refine e_iload f_65_3 rfl ?_
  refine e_iload f_65_5 rfl ?_
  refine e_icmp f_65_6 (fun hc => ?_) (fun hc => ?_)
  · have hc := x_cct_ge hc
    rw [if_pos hc] at hV
    refine e_iconst (c := 1) f_65_47 (by decide) ?_
    exact e_ireturn f_65_48 rt_65 (by decide) hV
  · have hc := x_ccf_ge hc
    rw [if_neg hc] at hV
    refine e_aload f_65_9 rfl (x_n7 ha1 (by decide)) ?_
    refine e_iload f_65_10 rfl ?_
    refine e_iload f_65_11 rfl ?_
    refine e_iadd f_65_13 ?_
    obtain ⟨P1, hP1, hV⟩ := hV
    refine e_vi (n := 2) (A := [.ref a1, .int (a2 + a4)]) (R := []) f_65_14 na_27 rfl rfl (Nat.le_of_ble_eq_true rfl) (Nat.le_of_ble_eq_true rfl) (by rw [ml_27]; exact Nat.le_of_ble_eq_true rfl) rfl (by rw [cy_27]; decide) (by rw [cy_27]; exact ha1) hP1 (fun v1 S1 hp1 => ?_)
    have hV := hV v1 S1 hp1
    refine e_istore (L' := [.ref 8, .ref a1, .int a2, .int a3, .int a4, .int v1]) f_65_17 (Nat.le_of_ble_eq_true rfl) rfl ?_
    refine e_iload f_65_19 rfl ?_
    refine e_if f_65_21 (fun hc => ?_) (fun hc => ?_)
    · have hc := x_cct_lt hc
      rw [if_pos hc] at hV
      refine e_iconst (c := 0) f_65_39 (by decide) ?_
      exact e_ireturn f_65_40 rt_65 (by decide) hV
    · have hc := x_ccf_lt hc
      rw [if_neg hc] at hV
      refine e_iload f_65_24 rfl ?_
      refine e_iconst (c := 8) f_65_26 (by decide) ?_
      refine e_aload f_65_28 rfl (by decide) ?_
      refine e_gr (c := 5) (j := 2) (r := 12) f_65_29 (by decide) (by decide) (by decide) (by decide) ?_
      refine e_gf (c := 0) (j := 5) f_65_32 (by decide) (by decide) (by decide) ?_
      refine e_imul f_65_35 ?_
      refine e_icmp f_65_36 (fun hc => ?_) (fun hc => ?_)
      · have hc := x_cct_lt hc
        rw [if_pos hc] at hV
        refine e_inc (c := 1) (L' := [.ref 8, .ref a1, .int a2, .int a3, .int (a4 + 1), .int v1]) f_65_41 rfl (by decide) rfl ?_
        refine e_goto f_65_44 ?_
        exact hV
      · have hc := x_ccf_lt hc
        rw [if_neg hc] at hV
        refine e_iconst (c := 0) f_65_39 (by decide) ?_
        exact e_ireturn f_65_40 rt_65 (by decide) hV
set_option maxRecDepth 20000 in
theorem T_66_0 {xs : List Int32} {d : Nat} {S : x_M} {Q : Option Value → x_M → Prop} {a0 : Nat} {a1 : Nat} {a2 : Int32} {a3 : Int32} (ha0 : x_tg a0 = 0) (ha1 : x_tg a1 = 2) (hV : x_E xs (d + 1) 66 3 [.ref a0, .ref a1, .int a2, .int a3, .int 0, .null] [] S Q) : x_E xs (d + 1) 66 0 [.ref a0, .ref a1, .int a2, .int a3, .null, .null] [] S Q := by
  refine e_iconst (c := 0) f_66_0 (by decide) ?_
  refine e_istore (L' := [.ref a0, .ref a1, .int a2, .int a3, .int 0, .null]) f_66_1 (Nat.le_of_ble_eq_true rfl) rfl ?_
  exact hV
set_option maxRecDepth 20000 in
theorem T_66_3 {xs : List Int32} {d : Nat} {S : x_M} {Q : Option Value → x_M → Prop} {a0 : Nat} {a1 : Nat} {a2 : Int32} {a3 : Int32} {a4 : Int32} {a5 : Value} (ha0 : x_tg a0 = 0) (ha1 : x_tg a1 = 2) (hV : if a3 ≤ a4 then (Q (some (.int 1)) S) else (∃ P1 : Int32 → x_M → Prop, x_Ci xs d 27 [.ref a1, .int (a2 + a4)] S P1 ∧ ∀ (v1 : Int32) (S1 : x_M), P1 v1 S1 → (∃ P2 : Int32 → x_M → Prop, x_Ci xs d 10 [.ref a0, .int (v1 / 8)] S1 P2 ∧ ∀ (v2 : Int32) (S2 : x_M), P2 v2 S2 → (if v2 = 0 then (Q (some (.int 0)) S2) else (∃ P3 : Int32 → x_M → Prop, x_Ci xs d 12 [.ref a0, .int (v1 / 8), .int (v1 - v1 / 8 * 8)] S2 P3 ∧ ∀ (v3 : Int32) (S3 : x_M), P3 v3 S3 → (x_E xs (d + 1) 66 3 [.ref a0, .ref a1, .int a2, .int a3, .int (a4 + 1), .int v1] [] S3 Q)))))) : x_E xs (d + 1) 66 3 [.ref a0, .ref a1, .int a2, .int a3, .int a4, a5] [] S Q := by
  refine e_iload f_66_3 rfl ?_
  refine e_iload f_66_5 rfl ?_
  refine e_icmp f_66_6 (fun hc => ?_) (fun hc => ?_)
  · have hc := x_cct_ge hc
    rw [if_pos hc] at hV
    refine e_iconst (c := 1) f_66_54 (by decide) ?_
    exact e_ireturn f_66_55 rt_66 (by decide) hV
  · have hc := x_ccf_ge hc
    rw [if_neg hc] at hV
    refine e_aload f_66_9 rfl (x_n7 ha1 (by decide)) ?_
    refine e_iload f_66_10 rfl ?_
    refine e_iload f_66_11 rfl ?_
    refine e_iadd f_66_13 ?_
    obtain ⟨P1, hP1, hV⟩ := hV
    refine e_vi (n := 2) (A := [.ref a1, .int (a2 + a4)]) (R := []) f_66_14 na_27 rfl rfl (Nat.le_of_ble_eq_true rfl) (Nat.le_of_ble_eq_true rfl) (by rw [ml_27]; exact Nat.le_of_ble_eq_true rfl) rfl (by rw [cy_27]; decide) (by rw [cy_27]; exact ha1) hP1 (fun v1 S1 hp1 => ?_)
    have hV := hV v1 S1 hp1
    refine e_istore (L' := [.ref a0, .ref a1, .int a2, .int a3, .int a4, .int v1]) f_66_17 (Nat.le_of_ble_eq_true rfl) rfl ?_
    refine e_aload f_66_19 rfl (x_n7 ha0 (by decide)) ?_
    refine e_iload f_66_20 rfl ?_
    refine e_iconst (c := 8) f_66_22 (by decide) ?_
    refine e_idiv f_66_24 (by decide) ?_
    obtain ⟨P2, hP2, hV⟩ := hV
    refine e_vi (n := 2) (A := [.ref a0, .int (v1 / 8)]) (R := []) f_66_25 na_10 rfl rfl (Nat.le_of_ble_eq_true rfl) (Nat.le_of_ble_eq_true rfl) (by rw [ml_10]; exact Nat.le_of_ble_eq_true rfl) rfl (by rw [cy_10]; decide) (by rw [cy_10]; exact ha0) hP2 (fun v2 S2 hp2 => ?_)
    have hV := hV v2 S2 hp2
    refine e_if f_66_28 (fun hc => ?_) (fun hc => ?_)
    · have hc := x_cct_ne hc
      rw [if_neg hc] at hV
      refine e_aload f_66_33 rfl (x_n7 ha0 (by decide)) ?_
      refine e_iload f_66_34 rfl ?_
      refine e_iconst (c := 8) f_66_36 (by decide) ?_
      refine e_idiv f_66_38 (by decide) ?_
      refine e_iload f_66_39 rfl ?_
      refine e_iconst (c := 8) f_66_41 (by decide) ?_
      refine e_irem f_66_43 (by decide) ?_
      obtain ⟨P3, hP3, hV⟩ := hV
      refine e_vi (n := 3) (A := [.ref a0, .int (v1 / 8), .int (v1 - v1 / 8 * 8)]) (R := []) f_66_44 na_12 rfl rfl (Nat.le_of_ble_eq_true rfl) (Nat.le_of_ble_eq_true rfl) (by rw [ml_12]; exact Nat.le_of_ble_eq_true rfl) rfl (by rw [cy_12]; decide) (by rw [cy_12]; exact ha0) hP3 (fun v3 S3 hp3 => ?_)
      have hV := hV v3 S3 hp3
      refine e_pop f_66_47 rfl ?_
      refine e_inc (c := 1) (L' := [.ref a0, .ref a1, .int a2, .int a3, .int (a4 + 1), .int v1]) f_66_48 rfl (by decide) rfl ?_
      refine e_goto f_66_51 ?_
      exact hV
    · have hc := x_ccf_ne hc
      rw [if_pos hc] at hV
      refine e_iconst (c := 0) f_66_31 (by decide) ?_
      exact e_ireturn f_66_32 rt_66 (by decide) hV
set_option maxRecDepth 20000 in
theorem T_67_0 {xs : List Int32} {d : Nat} {S : x_M} {Q : Option Value → x_M → Prop} {a1 : Int32} {a2 : Int32}  (hV : if (S 12 4) = 0 then (Q (some (.int (-1000002))) S) else (if a1 < 1 then (Q (some (.int (-1000001))) S) else (if (14 : Int32) < a1 then (Q (some (.int (-1000001))) S) else (if a2 < 1 then (Q (some (.int (-1000001))) S) else (if a2 ≤ 999999 then (x_E xs (d + 1) 67 44 [.ref 8, .int a1, .int a2, .long (Int32.toInt64 a2), .null, .int 0] [] S Q) else (Q (some (.int (-1000001))) S)))))) : x_E xs (d + 1) 67 0 [.ref 8, .int a1, .int a2, .null, .null, .null] [] S Q := by
  refine e_aload f_67_0 rfl (by decide) ?_
  refine e_gr (c := 5) (j := 2) (r := 12) f_67_1 (by decide) (by decide) (by decide) (by decide) ?_
  refine e_gf (c := 0) (j := 4) f_67_4 (by decide) (by decide) (by decide) ?_
  refine e_if f_67_7 (fun hc => ?_) (fun hc => ?_)
  · have hc := x_cct_ne hc
    rw [if_neg hc] at hV
    refine e_iload f_67_13 rfl ?_
    refine e_iconst (c := 1) f_67_14 (by decide) ?_
    refine e_icmp f_67_15 (fun hc => ?_) (fun hc => ?_)
    · have hc := x_cct_lt hc
      rw [if_pos hc] at hV
      refine e_iconst (c := (-1000001)) f_67_35 (by decide) ?_
      exact e_ireturn f_67_37 rt_67 rfl hV
    · have hc := x_ccf_lt hc
      rw [if_neg hc] at hV
      refine e_iload f_67_18 rfl ?_
      refine e_iconst (c := 14) f_67_19 (by decide) ?_
      refine e_icmp f_67_21 (fun hc => ?_) (fun hc => ?_)
      · have hc := x_cct_gt hc
        rw [if_pos hc] at hV
        refine e_iconst (c := (-1000001)) f_67_35 (by decide) ?_
        exact e_ireturn f_67_37 rt_67 rfl hV
      · have hc := x_ccf_gt hc
        rw [if_neg hc] at hV
        refine e_iload f_67_24 rfl ?_
        refine e_iconst (c := 1) f_67_25 (by decide) ?_
        refine e_icmp f_67_26 (fun hc => ?_) (fun hc => ?_)
        · have hc := x_cct_lt hc
          rw [if_pos hc] at hV
          refine e_iconst (c := (-1000001)) f_67_35 (by decide) ?_
          exact e_ireturn f_67_37 rt_67 rfl hV
        · have hc := x_ccf_lt hc
          rw [if_neg hc] at hV
          refine e_iload f_67_29 rfl ?_
          refine e_iconst (c := 999999) f_67_30 (by decide) ?_
          refine e_icmp f_67_32 (fun hc => ?_) (fun hc => ?_)
          · have hc := x_cct_le hc
            rw [if_pos hc] at hV
            refine e_iload f_67_38 rfl ?_
            refine e_i2l f_67_39 ?_
            refine e_lstore (L' := [.ref 8, .int a1, .int a2, .long (Int32.toInt64 a2), .null, .null]) f_67_40 (Nat.le_of_ble_eq_true rfl) rfl ?_
            refine e_iconst (c := 0) f_67_41 (by decide) ?_
            refine e_istore (L' := [.ref 8, .int a1, .int a2, .long (Int32.toInt64 a2), .null, .int 0]) f_67_42 (Nat.le_of_ble_eq_true rfl) rfl ?_
            exact hV
          · have hc := x_ccf_le hc
            rw [if_neg hc] at hV
            refine e_iconst (c := (-1000001)) f_67_35 (by decide) ?_
            exact e_ireturn f_67_37 rt_67 rfl hV
  · have hc := x_ccf_ne hc
    rw [if_pos hc] at hV
    refine e_iconst (c := (-1000002)) f_67_10 (by decide) ?_
    exact e_ireturn f_67_12 rt_67 rfl hV
set_option maxRecDepth 20000 in
theorem T_67_44 {xs : List Int32} {d : Nat} {S : x_M} {Q : Option Value → x_M → Prop} {a1 : Int32} {a2 : Int32} {a3 : Int64} {a5 : Int32}  (hV : if a1 ≤ a5 then (Q (some (.int a5)) S) else (∃ P1 : Int32 → x_M → Prop, x_Ci xs d 11 [.ref 12] S P1 ∧ ∀ (v1 : Int32) (S1 : x_M), P1 v1 S1 → (if v1 = 0 then (Q (some (.int a5)) S1) else (∃ P2 : x_M → Prop, x_Cv xs d 68 [.ref 12, .long ((a3 * 16807) - (a3 * 16807) / 2147483647 * 2147483647)] S1 P2 ∧ ∀ (S2 : x_M), P2 S2 → (x_E xs (d + 1) 67 44 [.ref 8, .int a1, .int a2, .long ((a3 * 16807) - (a3 * 16807) / 2147483647 * 2147483647), .null, .int (a5 + 1)] [] S2 Q))))) : x_E xs (d + 1) 67 44 [.ref 8, .int a1, .int a2, .long a3, .null, .int a5] [] S Q := by
  refine e_iload f_67_44 rfl ?_
  refine e_iload f_67_46 rfl ?_
  refine e_icmp f_67_47 (fun hc => ?_) (fun hc => ?_)
  · have hc := x_cct_ge hc
    rw [if_pos hc] at hV
    refine e_iload f_67_84 rfl ?_
    exact e_ireturn f_67_86 rt_67 rfl hV
  · have hc := x_ccf_ge hc
    rw [if_neg hc] at hV
    refine e_aload f_67_50 rfl (by decide) ?_
    refine e_gr (c := 5) (j := 2) (r := 12) f_67_51 (by decide) (by decide) (by decide) (by decide) ?_
    obtain ⟨P1, hP1, hV⟩ := hV
    refine e_vi (n := 1) (A := [.ref 12]) (R := []) f_67_54 na_11 rfl rfl (Nat.le_of_ble_eq_true rfl) (Nat.le_of_ble_eq_true rfl) (by rw [ml_11]; exact Nat.le_of_ble_eq_true rfl) rfl (by rw [cy_11]; decide) (by rw [cy_11]; exact (by decide : x_tg 12 = 0)) hP1 (fun v1 S1 hp1 => ?_)
    have hV := hV v1 S1 hp1
    refine e_if f_67_57 (fun hc => ?_) (fun hc => ?_)
    · have hc := x_cct_eq hc
      rw [if_pos hc] at hV
      refine e_iload f_67_84 rfl ?_
      exact e_ireturn f_67_86 rt_67 rfl hV
    · have hc := x_ccf_eq hc
      rw [if_neg hc] at hV
      refine e_lload f_67_60 rfl ?_
      refine e_lconst (c := 16807) f_67_61 (by decide) ?_
      refine e_lmul f_67_64 ?_
      refine e_lconst (c := 2147483647) f_67_65 (by decide) ?_
      refine e_lrem f_67_68 (by decide) ?_
      refine e_lstore (L' := [.ref 8, .int a1, .int a2, .long ((a3 * 16807) - (a3 * 16807) / 2147483647 * 2147483647), .null, .int a5]) f_67_69 (Nat.le_of_ble_eq_true rfl) rfl ?_
      refine e_aload f_67_70 rfl (by decide) ?_
      refine e_gr (c := 5) (j := 2) (r := 12) f_67_71 (by decide) (by decide) (by decide) (by decide) ?_
      refine e_lload f_67_74 rfl ?_
      obtain ⟨P2, hP2, hV⟩ := hV
      refine e_sv (n := 2) (A := [.ref 12, .long ((a3 * 16807) - (a3 * 16807) / 2147483647 * 2147483647)]) (R := []) f_67_75 na_68 rfl rfl (Nat.le_of_ble_eq_true rfl) (Nat.le_of_ble_eq_true rfl) (by rw [ml_68]; exact Nat.le_of_ble_eq_true rfl) hP2 (fun S2 hp2 => ?_)
      have hV := hV S2 hp2
      refine e_inc (c := 1) (L' := [.ref 8, .int a1, .int a2, .long ((a3 * 16807) - (a3 * 16807) / 2147483647 * 2147483647), .null, .int (a5 + 1)]) f_67_78 rfl (by decide) rfl ?_
      refine e_goto f_67_81 ?_
      exact hV
set_option maxRecDepth 20000 in
theorem T_68_0 {xs : List Int32} {d : Nat} {S : x_M} {Q : Option Value → x_M → Prop} {a0 : Nat} {a1 : Int64} (ha0 : x_tg a0 = 0) (hV : ∃ P1 : Int32 → x_M → Prop, x_Ci xs d 11 [.ref a0] S P1 ∧ ∀ (v1 : Int32) (S1 : x_M), P1 v1 S1 → (∃ P2 : Int32 → x_M → Prop, x_Ci xs d 179 [.int v1] S1 P2 ∧ ∀ (v2 : Int32) (S2 : x_M), P2 v2 S2 → (if v2 = 0 then (Q none S2) else ((¬ (Int32.toInt64 (8 * v2)) = 0) ∧ (∀ x3 : Int32, x3 = (Int64.toInt32 (a1 - a1 / (Int32.toInt64 (8 * v2)) * (Int32.toInt64 (8 * v2)))) → (∃ P4 : Int32 → x_M → Prop, x_Ci xs d 11 [.ref a0] S2 P4 ∧ ∀ (v4 : Int32) (S4 : x_M), P4 v4 S4 → (∃ P5 : Int32 → x_M → Prop, x_Ci xs d 69 [.int v4, .int (x3 / 8)] S4 P5 ∧ ∀ (v5 : Int32) (S5 : x_M), P5 v5 S5 → (∃ P6 : Int32 → x_M → Prop, x_Ci xs d 12 [.ref a0, .int v5, .int (x3 - x3 / 8 * 8)] S5 P6 ∧ ∀ (v6 : Int32) (S6 : x_M), P6 v6 S6 → (Q none S6))))))))) : x_E xs (d + 1) 68 0 [.ref a0, .long a1, .null, .null, .null] [] S Q := by
  refine e_aload f_68_0 rfl (x_n7 ha0 (by decide)) ?_
  obtain ⟨P1, hP1, hV⟩ := hV
  refine e_vi (n := 1) (A := [.ref a0]) (R := []) f_68_1 na_11 rfl rfl (Nat.le_of_ble_eq_true rfl) (Nat.le_of_ble_eq_true rfl) (by rw [ml_11]; exact Nat.le_of_ble_eq_true rfl) rfl (by rw [cy_11]; decide) (by rw [cy_11]; exact ha0) hP1 (fun v1 S1 hp1 => ?_)
  have hV := hV v1 S1 hp1
  obtain ⟨P2, hP2, hV⟩ := hV
  refine e_si (n := 1) (A := [.int v1]) (R := []) f_68_4 na_179 rfl rfl (Nat.le_of_ble_eq_true rfl) (Nat.le_of_ble_eq_true rfl) (by rw [ml_179]; exact Nat.le_of_ble_eq_true rfl) hP2 (fun v2 S2 hp2 => ?_)
  have hV := hV v2 S2 hp2
  refine e_istore (L' := [.ref a0, .long a1, .null, .int v2, .null]) f_68_7 (Nat.le_of_ble_eq_true rfl) rfl ?_
  refine e_iload f_68_8 rfl ?_
  refine e_if f_68_9 (fun hc => ?_) (fun hc => ?_)
  · have hc := x_cct_ne hc
    rw [if_neg hc] at hV
    refine e_lload f_68_13 rfl ?_
    refine e_iconst (c := 8) f_68_14 (by decide) ?_
    refine e_iload f_68_16 rfl ?_
    refine e_imul f_68_17 ?_
    refine e_i2l f_68_18 ?_
    obtain ⟨hg, hV⟩ := hV
    refine e_lrem f_68_19 hg ?_
    refine e_l2i f_68_20 ?_
    refine e_istoren (L' := fun x3 => [.ref a0, .long a1, .null, .int v2, .int x3]) f_68_21 (Nat.le_of_ble_eq_true rfl) (fun _ => rfl) (fun x3 hx3 => ?_)
    have hV := hV x3 hx3
    refine e_aload f_68_23 rfl (x_n7 ha0 (by decide)) ?_
    refine e_aload f_68_24 rfl (x_n7 ha0 (by decide)) ?_
    obtain ⟨P4, hP4, hV⟩ := hV
    refine e_vi (n := 1) (A := [.ref a0]) (R := [.ref a0]) f_68_25 na_11 rfl rfl (Nat.le_of_ble_eq_true rfl) (Nat.le_of_ble_eq_true rfl) (by rw [ml_11]; exact Nat.le_of_ble_eq_true rfl) rfl (by rw [cy_11]; decide) (by rw [cy_11]; exact ha0) hP4 (fun v4 S4 hp4 => ?_)
    have hV := hV v4 S4 hp4
    refine e_iload f_68_28 rfl ?_
    refine e_iconst (c := 8) f_68_30 (by decide) ?_
    refine e_idiv f_68_32 (by decide) ?_
    obtain ⟨P5, hP5, hV⟩ := hV
    refine e_si (n := 2) (A := [.int v4, .int (x3 / 8)]) (R := [.ref a0]) f_68_33 na_69 rfl rfl (Nat.le_of_ble_eq_true rfl) (Nat.le_of_ble_eq_true rfl) (by rw [ml_69]; exact Nat.le_of_ble_eq_true rfl) hP5 (fun v5 S5 hp5 => ?_)
    have hV := hV v5 S5 hp5
    refine e_iload f_68_36 rfl ?_
    refine e_iconst (c := 8) f_68_38 (by decide) ?_
    refine e_irem f_68_40 (by decide) ?_
    obtain ⟨P6, hP6, hV⟩ := hV
    refine e_vi (n := 3) (A := [.ref a0, .int v5, .int (x3 - x3 / 8 * 8)]) (R := []) f_68_41 na_12 rfl rfl (Nat.le_of_ble_eq_true rfl) (Nat.le_of_ble_eq_true rfl) (by rw [ml_12]; exact Nat.le_of_ble_eq_true rfl) rfl (by rw [cy_12]; decide) (by rw [cy_12]; exact ha0) hP6 (fun v6 S6 hp6 => ?_)
    have hV := hV v6 S6 hp6
    refine e_pop f_68_44 rfl ?_
    exact e_return f_68_45 rt_68 hV
  · have hc := x_ccf_ne hc
    rw [if_pos hc] at hV
    exact e_return f_68_12 rt_68 hV
set_option maxRecDepth 20000 in
theorem T_69_0 {xs : List Int32} {d : Nat} {S : x_M} {Q : Option Value → x_M → Prop} {a0 : Int32} {a1 : Int32}  (hV : x_E xs (d + 1) 69 4 [.int a0, .int a1, .int 0, .int 0] [] S Q) : x_E xs (d + 1) 69 0 [.int a0, .int a1, .null, .null] [] S Q := by
  refine e_iconst (c := 0) f_69_0 (by decide) ?_
  refine e_istore (L' := [.int a0, .int a1, .int 0, .null]) f_69_1 (Nat.le_of_ble_eq_true rfl) rfl ?_
  refine e_iconst (c := 0) f_69_2 (by decide) ?_
  refine e_istore (L' := [.int a0, .int a1, .int 0, .int 0]) f_69_3 (Nat.le_of_ble_eq_true rfl) rfl ?_
  exact hV
set_option maxRecDepth 20000 in
theorem T_69_4 {xs : List Int32} {d : Nat} {S : x_M} {Q : Option Value → x_M → Prop} {a0 : Int32} {a1 : Int32} {a2 : Int32} {a3 : Int32}  (hV : if (14 : Int32) ≤ a3 then (Q (some (.int (-1))) S) else (if ((a0 >>> (a3 &&& 31)) &&& 1) = 0 then (x_E xs (d + 1) 69 4 [.int a0, .int a1, .int a2, .int (a3 + 1)] [] S Q) else (if a2 = a1 then (Q (some (.int a3)) S) else (x_E xs (d + 1) 69 4 [.int a0, .int a1, .int (a2 + 1), .int (a3 + 1)] [] S Q)))) : x_E xs (d + 1) 69 4 [.int a0, .int a1, .int a2, .int a3] [] S Q := by
  refine e_iload f_69_4 rfl ?_
  refine e_iconst (c := 14) f_69_5 (by decide) ?_
  refine e_icmp f_69_7 (fun hc => ?_) (fun hc => ?_)
  · have hc := x_cct_ge hc
    rw [if_pos hc] at hV
    refine e_iconst (c := (-1)) f_69_37 (by decide) ?_
    exact e_ireturn f_69_38 rt_69 rfl hV
  · have hc := x_ccf_ge hc
    rw [if_neg hc] at hV
    refine e_iload f_69_10 rfl ?_
    refine e_iload f_69_11 rfl ?_
    refine e_ishr f_69_12 ?_
    refine e_iconst (c := 1) f_69_13 (by decide) ?_
    refine e_iand f_69_14 ?_
    refine e_if f_69_15 (fun hc => ?_) (fun hc => ?_)
    · have hc := x_cct_ne hc
      rw [if_neg hc] at hV
      refine e_iload f_69_21 rfl ?_
      refine e_iload f_69_22 rfl ?_
      refine e_icmp f_69_23 (fun hc => ?_) (fun hc => ?_)
      · have hc := x_cct_ne hc
        rw [if_neg hc] at hV
        refine e_inc (c := 1) (L' := [.int a0, .int a1, .int (a2 + 1), .int a3]) f_69_28 rfl (by decide) rfl ?_
        refine e_inc (c := 1) (L' := [.int a0, .int a1, .int (a2 + 1), .int (a3 + 1)]) f_69_31 rfl (by decide) rfl ?_
        refine e_goto f_69_34 ?_
        exact hV
      · have hc := x_ccf_ne hc
        rw [if_pos hc] at hV
        refine e_iload f_69_26 rfl ?_
        exact e_ireturn f_69_27 rt_69 rfl hV
    · have hc := x_ccf_ne hc
      rw [if_pos hc] at hV
      refine e_goto f_69_18 ?_
      refine e_inc (c := 1) (L' := [.int a0, .int a1, .int a2, .int (a3 + 1)]) f_69_31 rfl (by decide) rfl ?_
      refine e_goto f_69_34 ?_
      exact hV
set_option maxRecDepth 20000 in
theorem T_70_0 {xs : List Int32} {d : Nat} {S : x_M} {Q : Option Value → x_M → Prop} {a1 : Int32}  (hV : if (S 12 4) = 0 then (Q (some (.int (-1000002))) S) else (if a1 = 0 then (Q (some (.int (S 12 6))) S) else (if a1 = 1 then (Q (some (.int (S 12 7))) S) else (if a1 = 2 then (Q (some (.int (S 12 8))) S) else (if a1 = 3 then (Q (some (.int (S 16 0))) S) else (if a1 = 4 then (Q (some (.int (S 16 1))) S) else (if a1 = 5 then (Q (some (.int (S 15 0))) S) else (if a1 = 6 then (Q (some (.int (S 15 1))) S) else (if a1 = 7 then (Q (some (.int (S 12 9))) S) else (Q (some (.int (-1000001))) S)))))))))) : x_E xs (d + 1) 70 0 [.ref 8, .int a1] [] S Q := by
  refine e_aload f_70_0 rfl (by decide) ?_
  refine e_gr (c := 5) (j := 2) (r := 12) f_70_1 (by decide) (by decide) (by decide) (by decide) ?_
  refine e_gf (c := 0) (j := 4) f_70_4 (by decide) (by decide) (by decide) ?_
  refine e_if f_70_7 (fun hc => ?_) (fun hc => ?_)
  · have hc := x_cct_ne hc
    rw [if_neg hc] at hV
    refine e_iload f_70_13 rfl ?_
    by_cases hx0 : a1 = 0
    · rw [if_pos hx0] at hV
      refine e_ts f_70_14 hx0 (t := 60) (by decide) ?_
      refine e_aload f_70_60 rfl (by decide) ?_
      refine e_gr (c := 5) (j := 2) (r := 12) f_70_61 (by decide) (by decide) (by decide) (by decide) ?_
      refine e_gf (c := 0) (j := 6) f_70_64 (by decide) (by decide) (by decide) ?_
      exact e_ireturn f_70_67 rt_70 rfl hV
    rw [if_neg hx0] at hV
    by_cases hx1 : a1 = 1
    · rw [if_pos hx1] at hV
      refine e_ts f_70_14 hx1 (t := 68) (by decide) ?_
      refine e_aload f_70_68 rfl (by decide) ?_
      refine e_gr (c := 5) (j := 2) (r := 12) f_70_69 (by decide) (by decide) (by decide) (by decide) ?_
      refine e_gf (c := 0) (j := 7) f_70_72 (by decide) (by decide) (by decide) ?_
      exact e_ireturn f_70_75 rt_70 rfl hV
    rw [if_neg hx1] at hV
    by_cases hx2 : a1 = 2
    · rw [if_pos hx2] at hV
      refine e_ts f_70_14 hx2 (t := 76) (by decide) ?_
      refine e_aload f_70_76 rfl (by decide) ?_
      refine e_gr (c := 5) (j := 2) (r := 12) f_70_77 (by decide) (by decide) (by decide) (by decide) ?_
      refine e_gf (c := 0) (j := 8) f_70_80 (by decide) (by decide) (by decide) ?_
      exact e_ireturn f_70_83 rt_70 rfl hV
    rw [if_neg hx2] at hV
    by_cases hx3 : a1 = 3
    · rw [if_pos hx3] at hV
      refine e_ts f_70_14 hx3 (t := 84) (by decide) ?_
      refine e_aload f_70_84 rfl (by decide) ?_
      refine e_gr (c := 5) (j := 2) (r := 12) f_70_85 (by decide) (by decide) (by decide) (by decide) ?_
      refine e_gr (c := 0) (j := 3) (r := 16) f_70_88 (by decide) (by decide) (by decide) (by decide) ?_
      refine e_iconst (c := 0) f_70_91 (by decide) ?_
      refine e_iak (n := 2) (kk := 0) f_70_92 (by decide) (by decide) (by decide) ?_
      exact e_ireturn f_70_93 rt_70 rfl hV
    rw [if_neg hx3] at hV
    by_cases hx4 : a1 = 4
    · rw [if_pos hx4] at hV
      refine e_ts f_70_14 hx4 (t := 94) (by decide) ?_
      refine e_aload f_70_94 rfl (by decide) ?_
      refine e_gr (c := 5) (j := 2) (r := 12) f_70_95 (by decide) (by decide) (by decide) (by decide) ?_
      refine e_gr (c := 0) (j := 3) (r := 16) f_70_98 (by decide) (by decide) (by decide) (by decide) ?_
      refine e_iconst (c := 1) f_70_101 (by decide) ?_
      refine e_iak (n := 2) (kk := 1) f_70_102 (by decide) (by decide) (by decide) ?_
      exact e_ireturn f_70_103 rt_70 rfl hV
    rw [if_neg hx4] at hV
    by_cases hx5 : a1 = 5
    · rw [if_pos hx5] at hV
      refine e_ts f_70_14 hx5 (t := 104) (by decide) ?_
      refine e_aload f_70_104 rfl (by decide) ?_
      refine e_gr (c := 5) (j := 2) (r := 12) f_70_105 (by decide) (by decide) (by decide) (by decide) ?_
      refine e_gr (c := 0) (j := 2) (r := 15) f_70_108 (by decide) (by decide) (by decide) (by decide) ?_
      refine e_iconst (c := 0) f_70_111 (by decide) ?_
      refine e_iak (n := 2) (kk := 0) f_70_112 (by decide) (by decide) (by decide) ?_
      exact e_ireturn f_70_113 rt_70 rfl hV
    rw [if_neg hx5] at hV
    by_cases hx6 : a1 = 6
    · rw [if_pos hx6] at hV
      refine e_ts f_70_14 hx6 (t := 114) (by decide) ?_
      refine e_aload f_70_114 rfl (by decide) ?_
      refine e_gr (c := 5) (j := 2) (r := 12) f_70_115 (by decide) (by decide) (by decide) (by decide) ?_
      refine e_gr (c := 0) (j := 2) (r := 15) f_70_118 (by decide) (by decide) (by decide) (by decide) ?_
      refine e_iconst (c := 1) f_70_121 (by decide) ?_
      refine e_iak (n := 2) (kk := 1) f_70_122 (by decide) (by decide) (by decide) ?_
      exact e_ireturn f_70_123 rt_70 rfl hV
    rw [if_neg hx6] at hV
    by_cases hx7 : a1 = 7
    · rw [if_pos hx7] at hV
      refine e_ts f_70_14 hx7 (t := 124) (by decide) ?_
      refine e_aload f_70_124 rfl (by decide) ?_
      refine e_gr (c := 5) (j := 2) (r := 12) f_70_125 (by decide) (by decide) (by decide) (by decide) ?_
      refine e_gf (c := 0) (j := 9) f_70_128 (by decide) (by decide) (by decide) ?_
      exact e_ireturn f_70_131 rt_70 rfl hV
    rw [if_neg hx7] at hV
    have hy0 := lv_neT (a := 0) hx0 (by decide)
    have hy1 := lv_neT (a := 1) hx1 (by decide)
    have hy2 := lv_neT (a := 2) hx2 (by decide)
    have hy3 := lv_neT (a := 3) hx3 (by decide)
    have hy4 := lv_neT (a := 4) hx4 (by decide)
    have hy5 := lv_neT (a := 5) hx5 (by decide)
    have hy6 := lv_neT (a := 6) hx6 (by decide)
    have hy7 := lv_neT (a := 7) hx7 (by decide)
    refine e_tsd f_70_14 (by omega) (t := 132) (by decide) ?_
    refine e_iconst (c := (-1000001)) f_70_132 (by decide) ?_
    exact e_ireturn f_70_134 rt_70 rfl hV
  · have hc := x_ccf_ne hc
    rw [if_pos hc] at hV
    refine e_iconst (c := (-1000002)) f_70_10 (by decide) ?_
    exact e_ireturn f_70_12 rt_70 rfl hV
set_option maxRecDepth 20000 in
theorem T_71_0 {xs : List Int32} {d : Nat} {S : x_M} {Q : Option Value → x_M → Prop} {a1 : Int32}  (hV : if (S 12 4) = 0 then (Q (some (.int (-1000002))) S) else (if a1 < 0 then (Q (some (.int (-1000001))) S) else (if a1 ≤ 1 then (∃ P1 : Int32 → x_M → Prop, x_Ci xs d 13 [.ref 12] S P1 ∧ ∀ (v1 : Int32) (S1 : x_M), P1 v1 S1 → (if v1 = 0 then (Q (some (.int (-1000000))) S1) else (if v1 ≤ 4 then (∃ P2 : x_M → Prop, x_Cv xs d 17 [.ref 23, .ref 12] S1 P2 ∧ ∀ (S2 : x_M), P2 S2 → (∃ P3 : Int32 → x_M → Prop, x_Ci xs d 18 [.ref 23, .ref 12] S2 P3 ∧ ∀ (v3 : Int32) (S3 : x_M), P3 v3 S3 → (∃ P4 : Int32 → x_M → Prop, x_Ci xs d 72 [.ref 12, .ref 23, .int v3, .int v1] S3 P4 ∧ ∀ (v4 : Int32) (S4 : x_M), P4 v4 S4 → (if a1 = 0 then (Q (some (.int v4)) S4) else (Q (some (.int (S4 23 4))) S4))))) else (Q (some (.int (-1000000))) S1)))) else (Q (some (.int (-1000001))) S)))) : x_E xs (d + 1) 71 0 [.ref 8, .int a1, .null, .null] [] S Q := by
  refine e_aload f_71_0 rfl (by decide) ?_
  refine e_gr (c := 5) (j := 2) (r := 12) f_71_1 (by decide) (by decide) (by decide) (by decide) ?_
  refine e_gf (c := 0) (j := 4) f_71_4 (by decide) (by decide) (by decide) ?_
  refine e_if f_71_7 (fun hc => ?_) (fun hc => ?_)
  · have hc := x_cct_ne hc
    rw [if_neg hc] at hV
    refine e_iload f_71_13 rfl ?_
    refine e_if f_71_14 (fun hc => ?_) (fun hc => ?_)
    · have hc := x_cct_lt hc
      rw [if_pos hc] at hV
      refine e_iconst (c := (-1000001)) f_71_22 (by decide) ?_
      exact e_ireturn f_71_24 rt_71 rfl hV
    · have hc := x_ccf_lt hc
      rw [if_neg hc] at hV
      refine e_iload f_71_17 rfl ?_
      refine e_iconst (c := 1) f_71_18 (by decide) ?_
      refine e_icmp f_71_19 (fun hc => ?_) (fun hc => ?_)
      · have hc := x_cct_le hc
        rw [if_pos hc] at hV
        refine e_aload f_71_25 rfl (by decide) ?_
        refine e_gr (c := 5) (j := 2) (r := 12) f_71_26 (by decide) (by decide) (by decide) (by decide) ?_
        obtain ⟨P1, hP1, hV⟩ := hV
        refine e_vi (n := 1) (A := [.ref 12]) (R := []) f_71_29 na_13 rfl rfl (Nat.le_of_ble_eq_true rfl) (Nat.le_of_ble_eq_true rfl) (by rw [ml_13]; exact Nat.le_of_ble_eq_true rfl) rfl (by rw [cy_13]; decide) (by rw [cy_13]; exact (by decide : x_tg 12 = 0)) hP1 (fun v1 S1 hp1 => ?_)
        have hV := hV v1 S1 hp1
        refine e_istore (L' := [.ref 8, .int a1, .int v1, .null]) f_71_32 (Nat.le_of_ble_eq_true rfl) rfl ?_
        refine e_iload f_71_33 rfl ?_
        refine e_if f_71_34 (fun hc => ?_) (fun hc => ?_)
        · have hc := x_cct_eq hc
          rw [if_pos hc] at hV
          refine e_iconst (c := (-1000000)) f_71_42 (by decide) ?_
          exact e_ireturn f_71_44 rt_71 rfl hV
        · have hc := x_ccf_eq hc
          rw [if_neg hc] at hV
          refine e_iload f_71_37 rfl ?_
          refine e_iconst (c := 4) f_71_38 (by decide) ?_
          refine e_icmp f_71_39 (fun hc => ?_) (fun hc => ?_)
          · have hc := x_cct_le hc
            rw [if_pos hc] at hV
            refine e_aload f_71_45 rfl (by decide) ?_
            refine e_gr (c := 5) (j := 5) (r := 23) f_71_46 (by decide) (by decide) (by decide) (by decide) ?_
            refine e_aload f_71_49 rfl (by decide) ?_
            refine e_gr (c := 5) (j := 2) (r := 12) f_71_50 (by decide) (by decide) (by decide) (by decide) ?_
            obtain ⟨P2, hP2, hV⟩ := hV
            refine e_vv (n := 2) (A := [.ref 23, .ref 12]) (R := []) f_71_53 na_17 rfl rfl (Nat.le_of_ble_eq_true rfl) (Nat.le_of_ble_eq_true rfl) (by rw [ml_17]; exact Nat.le_of_ble_eq_true rfl) rfl (by rw [cy_17]; decide) (by rw [cy_17]; exact (by decide : x_tg 23 = 1)) hP2 (fun S2 hp2 => ?_)
            have hV := hV S2 hp2
            refine e_aload f_71_56 rfl (by decide) ?_
            refine e_gr (c := 5) (j := 2) (r := 12) f_71_57 (by decide) (by decide) (by decide) (by decide) ?_
            refine e_aload f_71_60 rfl (by decide) ?_
            refine e_gr (c := 5) (j := 5) (r := 23) f_71_61 (by decide) (by decide) (by decide) (by decide) ?_
            refine e_aload f_71_64 rfl (by decide) ?_
            refine e_gr (c := 5) (j := 5) (r := 23) f_71_65 (by decide) (by decide) (by decide) (by decide) ?_
            refine e_aload f_71_68 rfl (by decide) ?_
            refine e_gr (c := 5) (j := 2) (r := 12) f_71_69 (by decide) (by decide) (by decide) (by decide) ?_
            obtain ⟨P3, hP3, hV⟩ := hV
            refine e_vi (n := 2) (A := [.ref 23, .ref 12]) (R := [.ref 23, .ref 12]) f_71_72 na_18 rfl rfl (Nat.le_of_ble_eq_true rfl) (Nat.le_of_ble_eq_true rfl) (by rw [ml_18]; exact Nat.le_of_ble_eq_true rfl) rfl (by rw [cy_18]; decide) (by rw [cy_18]; exact (by decide : x_tg 23 = 1)) hP3 (fun v3 S3 hp3 => ?_)
            have hV := hV v3 S3 hp3
            refine e_iload f_71_75 rfl ?_
            obtain ⟨P4, hP4, hV⟩ := hV
            refine e_si (n := 4) (A := [.ref 12, .ref 23, .int v3, .int v1]) (R := []) f_71_76 na_72 rfl rfl (Nat.le_of_ble_eq_true rfl) (Nat.le_of_ble_eq_true rfl) (by rw [ml_72]; exact Nat.le_of_ble_eq_true rfl) hP4 (fun v4 S4 hp4 => ?_)
            have hV := hV v4 S4 hp4
            refine e_istore (L' := [.ref 8, .int a1, .int v1, .int v4]) f_71_79 (Nat.le_of_ble_eq_true rfl) rfl ?_
            refine e_iload f_71_80 rfl ?_
            refine e_if f_71_81 (fun hc => ?_) (fun hc => ?_)
            · have hc := x_cct_ne hc
              rw [if_neg hc] at hV
              refine e_aload f_71_88 rfl (by decide) ?_
              refine e_gr (c := 5) (j := 5) (r := 23) f_71_89 (by decide) (by decide) (by decide) (by decide) ?_
              refine e_gf (c := 1) (j := 4) f_71_92 (by decide) (by decide) (by decide) ?_
              exact e_ireturn f_71_95 rt_71 rfl hV
            · have hc := x_ccf_ne hc
              rw [if_pos hc] at hV
              refine e_iload f_71_84 rfl ?_
              refine e_goto f_71_85 ?_
              exact e_ireturn f_71_95 rt_71 rfl hV
          · have hc := x_ccf_le hc
            rw [if_neg hc] at hV
            refine e_iconst (c := (-1000000)) f_71_42 (by decide) ?_
            exact e_ireturn f_71_44 rt_71 rfl hV
      · have hc := x_ccf_le hc
        rw [if_neg hc] at hV
        refine e_iconst (c := (-1000001)) f_71_22 (by decide) ?_
        exact e_ireturn f_71_24 rt_71 rfl hV
  · have hc := x_ccf_ne hc
    rw [if_pos hc] at hV
    refine e_iconst (c := (-1000002)) f_71_10 (by decide) ?_
    exact e_ireturn f_71_12 rt_71 rfl hV
set_option maxRecDepth 20000 in
theorem T_72_0 {xs : List Int32} {d : Nat} {S : x_M} {Q : Option Value → x_M → Prop} {a0 : Nat} {a2 : Int32} {a3 : Int32} (ha0 : x_tg a0 = 0) (hV : if a3 ≤ 0 then (Q (some (.int 0)) S) else (if a2 < 0 then (Q (some (.int 0)) S) else (if a2 < 16384 then ((x_ib a2 16384) ∧ (if (S 26 (Int32.toNatClampNeg a2)) = (-1000000000) then (∃ P1 : Int32 → x_M → Prop, x_Ci xs d 20 [.ref 23, .int a2] S P1 ∧ ∀ (v1 : Int32) (S1 : x_M), P1 v1 S1 → (x_E xs (d + 1) 72 56 [.ref a0, .ref 23, .int a2, .int a3, .int (-1000000000), .int 0, .int v1, .int 0, .null, .null, .null, .null, .null] [] S1 Q)) else ((x_ib a2 16384) ∧ (Q (some (.int (S 26 (Int32.toNatClampNeg a2)))) S)))) else (Q (some (.int 0)) S)))) : x_E xs (d + 1) 72 0 [.ref a0, .ref 23, .int a2, .int a3, .null, .null, .null, .null, .null, .null, .null, .null, .null] [] S Q := by
  refine e_iload f_72_0 rfl ?_
  refine e_if f_72_1 (fun hc => ?_) (fun hc => ?_)
  · have hc := x_cct_le hc
    rw [if_pos hc] at hV
    refine e_iconst (c := 0) f_72_17 (by decide) ?_
    exact e_ireturn f_72_18 rt_72 rfl hV
  · have hc := x_ccf_le hc
    rw [if_neg hc] at hV
    refine e_iload f_72_4 rfl ?_
    refine e_if f_72_5 (fun hc => ?_) (fun hc => ?_)
    · have hc := x_cct_lt hc
      rw [if_pos hc] at hV
      refine e_iconst (c := 0) f_72_17 (by decide) ?_
      exact e_ireturn f_72_18 rt_72 rfl hV
    · have hc := x_ccf_lt hc
      rw [if_neg hc] at hV
      refine e_iload f_72_8 rfl ?_
      refine e_aload f_72_9 rfl (by decide) ?_
      refine e_gr (c := 1) (j := 2) (r := 26) f_72_10 (by decide) (by decide) (by decide) (by decide) ?_
      refine e_al (c := 10) (n := 16384) (v := 16384) f_72_13 (by decide) (by decide) (by decide) (by decide) ?_
      refine e_icmp f_72_14 (fun hc => ?_) (fun hc => ?_)
      · have hc := x_cct_lt hc
        rw [if_pos hc] at hV
        refine e_aload f_72_19 rfl (by decide) ?_
        refine e_gr (c := 1) (j := 2) (r := 26) f_72_20 (by decide) (by decide) (by decide) (by decide) ?_
        refine e_iload f_72_23 rfl ?_
        obtain ⟨hg, hV⟩ := hV
        refine e_ia (n := 16384) f_72_24 (by decide) (by decide) hg ?_
        refine e_iconst (c := (-1000000000)) f_72_25 (by decide) ?_
        refine e_icmp f_72_28 (fun hc => ?_) (fun hc => ?_)
        · have hc := x_cct_eq hc
          rw [if_pos hc] at hV
          refine e_iconst (c := (-1000000000)) f_72_38 (by decide) ?_
          refine e_istore (L' := [.ref a0, .ref 23, .int a2, .int a3, .int (-1000000000), .null, .null, .null, .null, .null, .null, .null, .null]) f_72_41 (Nat.le_of_ble_eq_true rfl) rfl ?_
          refine e_iconst (c := 0) f_72_43 (by decide) ?_
          refine e_istore (L' := [.ref a0, .ref 23, .int a2, .int a3, .int (-1000000000), .int 0, .null, .null, .null, .null, .null, .null, .null]) f_72_44 (Nat.le_of_ble_eq_true rfl) rfl ?_
          refine e_aload f_72_46 rfl (by decide) ?_
          refine e_iload f_72_47 rfl ?_
          obtain ⟨P1, hP1, hV⟩ := hV
          refine e_vi (n := 2) (A := [.ref 23, .int a2]) (R := []) f_72_48 na_20 rfl rfl (Nat.le_of_ble_eq_true rfl) (Nat.le_of_ble_eq_true rfl) (by rw [ml_20]; exact Nat.le_of_ble_eq_true rfl) rfl (by rw [cy_20]; decide) (by rw [cy_20]; exact (by decide : x_tg 23 = 1)) hP1 (fun v1 S1 hp1 => ?_)
          have hV := hV v1 S1 hp1
          refine e_istore (L' := [.ref a0, .ref 23, .int a2, .int a3, .int (-1000000000), .int 0, .int v1, .null, .null, .null, .null, .null, .null]) f_72_51 (Nat.le_of_ble_eq_true rfl) rfl ?_
          refine e_iconst (c := 0) f_72_53 (by decide) ?_
          refine e_istore (L' := [.ref a0, .ref 23, .int a2, .int a3, .int (-1000000000), .int 0, .int v1, .int 0, .null, .null, .null, .null, .null]) f_72_54 (Nat.le_of_ble_eq_true rfl) rfl ?_
          exact hV
        · have hc := x_ccf_eq hc
          rw [if_neg hc] at hV
          refine e_aload f_72_31 rfl (by decide) ?_
          refine e_gr (c := 1) (j := 2) (r := 26) f_72_32 (by decide) (by decide) (by decide) (by decide) ?_
          refine e_iload f_72_35 rfl ?_
          obtain ⟨hg, hV⟩ := hV
          refine e_ia (n := 16384) f_72_36 (by decide) (by decide) hg ?_
          exact e_ireturn f_72_37 rt_72 rfl hV
      · have hc := x_ccf_lt hc
        rw [if_neg hc] at hV
        refine e_iconst (c := 0) f_72_17 (by decide) ?_
        exact e_ireturn f_72_18 rt_72 rfl hV
set_option maxRecDepth 20000 in
theorem T_72_56 {xs : List Int32} {d : Nat} {S : x_M} {Q : Option Value → x_M → Prop} {a0 : Nat} {a2 : Int32} {a3 : Int32} {a4 : Int32} {a5 : Int32} {a6 : Int32} {a7 : Int32} {a8 : Value} {a9 : Value} {a10 : Value} {a11 : Value} {a12 : Value} (ha0 : x_tg a0 = 0) (hV : if (S 23 3) ≤ a7 then (if a4 = (-1000000000) then ((x_ib a2 16384) ∧ (∀ S3 : x_M, S3 = x_up S 26 (Int32.toNatClampNeg a2) 0 → (∀ S4 : x_M, S4 = x_up S3 23 4 a5 → (Q (some (.int 0)) S4)))) else ((x_ib a2 16384) ∧ (∀ S1 : x_M, S1 = x_up S 26 (Int32.toNatClampNeg a2) a4 → (∀ S2 : x_M, S2 = x_up S1 23 4 a5 → (Q (some (.int a4)) S2))))) else (∃ P5 : Int32 → x_M → Prop, x_Ci xs d 21 [.ref 23, .int a2, .int a6, .int a7] S P5 ∧ ∀ (v5 : Int32) (S5 : x_M), P5 v5 S5 → (if v5 = 0 then (x_E xs (d + 1) 72 56 [.ref a0, .ref 23, .int a2, .int a3, .int a4, .int a5, .int a6, .int (a7 + 1), a8, a9, a10, a11, a12] [] S5 Q) else (x_E xs (d + 1) 72 83 [.ref a0, .ref 23, .int a2, .int a3, .int a4, .int a5, .int a6, .int a7, .int 0, a9, a10, a11, a12] [] S5 Q)))) : x_E xs (d + 1) 72 56 [.ref a0, .ref 23, .int a2, .int a3, .int a4, .int a5, .int a6, .int a7, a8, a9, a10, a11, a12] [] S Q := by
  refine e_iload f_72_56 rfl ?_
  refine e_aload f_72_58 rfl (by decide) ?_
  refine e_gf (c := 1) (j := 3) f_72_59 (by decide) (by decide) (by decide) ?_
  refine e_icmp f_72_62 (fun hc => ?_) (fun hc => ?_)
  · have hc := x_cct_ge hc
    rw [if_pos hc] at hV
    refine e_iload f_72_200 rfl ?_
    refine e_iconst (c := (-1000000000)) f_72_202 (by decide) ?_
    refine e_icmp f_72_205 (fun hc => ?_) (fun hc => ?_)
    · have hc := x_cct_ne hc
      rw [if_neg hc] at hV
      refine e_iload f_72_212 rfl ?_
      refine e_istore (L' := [.ref a0, .ref 23, .int a2, .int a3, .int a4, .int a5, .int a6, .int a7, a8, a9, a10, a11, a12]) f_72_214 (Nat.le_of_ble_eq_true rfl) rfl ?_
      refine e_aload f_72_216 rfl (by decide) ?_
      refine e_gr (c := 1) (j := 2) (r := 26) f_72_217 (by decide) (by decide) (by decide) (by decide) ?_
      refine e_iload f_72_220 rfl ?_
      refine e_iload f_72_221 rfl ?_
      obtain ⟨hg, hV⟩ := hV
      refine e_isn (n := 16384) f_72_223 (by decide) (by decide) hg (fun S1 hS1 => ?_)
      have hV := hV S1 hS1
      refine e_aload f_72_224 rfl (by decide) ?_
      refine e_iload f_72_225 rfl ?_
      refine e_pfn (c := 1) (j := 4) f_72_227 (by decide) (by decide) (by decide) (x_fit_i rfl) (fun S2 hS2 => ?_)
      have hV := hV S2 hS2
      refine e_iload f_72_230 rfl ?_
      exact e_ireturn f_72_232 rt_72 rfl hV
    · have hc := x_ccf_ne hc
      rw [if_pos hc] at hV
      refine e_iconst (c := 0) f_72_208 (by decide) ?_
      refine e_goto f_72_209 ?_
      refine e_istore (L' := [.ref a0, .ref 23, .int a2, .int a3, .int 0, .int a5, .int a6, .int a7, a8, a9, a10, a11, a12]) f_72_214 (Nat.le_of_ble_eq_true rfl) rfl ?_
      refine e_aload f_72_216 rfl (by decide) ?_
      refine e_gr (c := 1) (j := 2) (r := 26) f_72_217 (by decide) (by decide) (by decide) (by decide) ?_
      refine e_iload f_72_220 rfl ?_
      refine e_iload f_72_221 rfl ?_
      obtain ⟨hg, hV⟩ := hV
      refine e_isn (n := 16384) f_72_223 (by decide) (by decide) hg (fun S3 hS3 => ?_)
      have hV := hV S3 hS3
      refine e_aload f_72_224 rfl (by decide) ?_
      refine e_iload f_72_225 rfl ?_
      refine e_pfn (c := 1) (j := 4) f_72_227 (by decide) (by decide) (by decide) (x_fit_i rfl) (fun S4 hS4 => ?_)
      have hV := hV S4 hS4
      refine e_iload f_72_230 rfl ?_
      exact e_ireturn f_72_232 rt_72 rfl hV
  · have hc := x_ccf_ge hc
    rw [if_neg hc] at hV
    refine e_aload f_72_65 rfl (by decide) ?_
    refine e_iload f_72_66 rfl ?_
    refine e_iload f_72_67 rfl ?_
    refine e_iload f_72_69 rfl ?_
    obtain ⟨P5, hP5, hV⟩ := hV
    refine e_vi (n := 4) (A := [.ref 23, .int a2, .int a6, .int a7]) (R := []) f_72_71 na_21 rfl rfl (Nat.le_of_ble_eq_true rfl) (Nat.le_of_ble_eq_true rfl) (by rw [ml_21]; exact Nat.le_of_ble_eq_true rfl) rfl (by rw [cy_21]; decide) (by rw [cy_21]; exact (by decide : x_tg 23 = 1)) hP5 (fun v5 S5 hp5 => ?_)
    have hV := hV v5 S5 hp5
    refine e_if f_72_74 (fun hc => ?_) (fun hc => ?_)
    · have hc := x_cct_ne hc
      rw [if_neg hc] at hV
      refine e_iconst (c := 0) f_72_80 (by decide) ?_
      refine e_istore (L' := [.ref a0, .ref 23, .int a2, .int a3, .int a4, .int a5, .int a6, .int a7, .int 0, a9, a10, a11, a12]) f_72_81 (Nat.le_of_ble_eq_true rfl) rfl ?_
      exact hV
    · have hc := x_ccf_ne hc
      rw [if_pos hc] at hV
      refine e_goto f_72_77 ?_
      refine e_inc (c := 1) (L' := [.ref a0, .ref 23, .int a2, .int a3, .int a4, .int a5, .int a6, .int (a7 + 1), a8, a9, a10, a11, a12]) f_72_194 rfl (by decide) rfl ?_
      refine e_goto f_72_197 ?_
      exact hV
set_option maxRecDepth 20000 in
theorem T_72_83 {xs : List Int32} {d : Nat} {S : x_M} {Q : Option Value → x_M → Prop} {a0 : Nat} {a2 : Int32} {a3 : Int32} {a4 : Int32} {a5 : Int32} {a6 : Int32} {a7 : Int32} {a8 : Int32} {a9 : Value} {a10 : Value} {a11 : Value} {a12 : Value} (ha0 : x_tg a0 = 0) (hV : if (8 : Int32) ≤ a8 then (x_E xs (d + 1) 72 56 [.ref a0, .ref 23, .int a2, .int a3, .int a4, .int a5, .int a6, .int (a7 + 1), .int a8, a9, a10, a11, a12] [] S Q) else ((x_ib a7 4) ∧ (∃ P1 : Int32 → x_M → Prop, x_Ci xs d 8 [.ref a0, .int (S 24 (Int32.toNatClampNeg a7)), .int a8] S P1 ∧ ∀ (v1 : Int32) (S1 : x_M), P1 v1 S1 → (∃ P2 : Int32 → x_M → Prop, x_Ci xs d 22 [.ref 23, .int a2, .int a7, .int ((a2 &&& 511) &&& v1)] S1 P2 ∧ ∀ (v2 : Int32) (S2 : x_M), P2 v2 S2 → (∃ P3 : Int32 → x_M → Prop, x_Ci xs d 72 [.ref a0, .ref 23, .int v2, .int (a3 - 1)] S2 P3 ∧ ∀ (v3 : Int32) (S3 : x_M), P3 v3 S3 → (∃ P4 : Int32 → x_M → Prop, x_Ci xs d 9 [.ref a0, .int ((a2 &&& 511) &&& v1)] S3 P4 ∧ ∀ (v4 : Int32) (S4 : x_M), P4 v4 S4 → (∃ P5 : Int32 → x_M → Prop, x_Ci xs d 20 [.ref 23, .int v2] S4 P5 ∧ ∀ (v5 : Int32) (S5 : x_M), P5 v5 S5 → (if v5 = a6 then (x_E xs (d + 1) 72 159 [.ref a0, .ref 23, .int a2, .int a3, .int a4, .int a5, .int a6, .int a7, .int a8, .int ((a2 &&& 511) &&& v1), .int v2, .int v3, a12] [.int v3, .int v4] S5 Q) else (x_E xs (d + 1) 72 159 [.ref a0, .ref 23, .int a2, .int a3, .int a4, .int a5, .int a6, .int a7, .int a8, .int ((a2 &&& 511) &&& v1), .int v2, .int v3, a12] [.int (-v3), .int v4] S5 Q))))))))) : x_E xs (d + 1) 72 83 [.ref a0, .ref 23, .int a2, .int a3, .int a4, .int a5, .int a6, .int a7, .int a8, a9, a10, a11, a12] [] S Q := by
  refine e_iload f_72_83 rfl ?_
  refine e_iconst (c := 8) f_72_85 (by decide) ?_
  refine e_icmp f_72_87 (fun hc => ?_) (fun hc => ?_)
  · have hc := x_cct_ge hc
    rw [if_pos hc] at hV
    refine e_inc (c := 1) (L' := [.ref a0, .ref 23, .int a2, .int a3, .int a4, .int a5, .int a6, .int (a7 + 1), .int a8, a9, a10, a11, a12]) f_72_194 rfl (by decide) rfl ?_
    refine e_goto f_72_197 ?_
    exact hV
  · have hc := x_ccf_ge hc
    rw [if_neg hc] at hV
    refine e_iload f_72_90 rfl ?_
    refine e_iconst (c := 511) f_72_91 (by decide) ?_
    refine e_iand f_72_94 ?_
    refine e_aload f_72_95 rfl (x_n7 ha0 (by decide)) ?_
    refine e_aload f_72_96 rfl (by decide) ?_
    refine e_gr (c := 1) (j := 0) (r := 24) f_72_97 (by decide) (by decide) (by decide) (by decide) ?_
    refine e_iload f_72_100 rfl ?_
    obtain ⟨hg, hV⟩ := hV
    refine e_ia (n := 4) f_72_102 (by decide) (by decide) hg ?_
    refine e_iload f_72_103 rfl ?_
    obtain ⟨P1, hP1, hV⟩ := hV
    refine e_vi (n := 3) (A := [.ref a0, .int (S 24 (Int32.toNatClampNeg a7)), .int a8]) (R := [.int (a2 &&& 511)]) f_72_105 na_8 rfl rfl (Nat.le_of_ble_eq_true rfl) (Nat.le_of_ble_eq_true rfl) (by rw [ml_8]; exact Nat.le_of_ble_eq_true rfl) rfl (by rw [cy_8]; decide) (by rw [cy_8]; exact ha0) hP1 (fun v1 S1 hp1 => ?_)
    have hV := hV v1 S1 hp1
    refine e_iand f_72_108 ?_
    refine e_istore (L' := [.ref a0, .ref 23, .int a2, .int a3, .int a4, .int a5, .int a6, .int a7, .int a8, .int ((a2 &&& 511) &&& v1), a10, a11, a12]) f_72_109 (Nat.le_of_ble_eq_true rfl) rfl ?_
    refine e_aload f_72_111 rfl (by decide) ?_
    refine e_iload f_72_112 rfl ?_
    refine e_iload f_72_113 rfl ?_
    refine e_iload f_72_115 rfl ?_
    obtain ⟨P2, hP2, hV⟩ := hV
    refine e_vi (n := 4) (A := [.ref 23, .int a2, .int a7, .int ((a2 &&& 511) &&& v1)]) (R := []) f_72_117 na_22 rfl rfl (Nat.le_of_ble_eq_true rfl) (Nat.le_of_ble_eq_true rfl) (by rw [ml_22]; exact Nat.le_of_ble_eq_true rfl) rfl (by rw [cy_22]; decide) (by rw [cy_22]; exact (by decide : x_tg 23 = 1)) hP2 (fun v2 S2 hp2 => ?_)
    have hV := hV v2 S2 hp2
    refine e_istore (L' := [.ref a0, .ref 23, .int a2, .int a3, .int a4, .int a5, .int a6, .int a7, .int a8, .int ((a2 &&& 511) &&& v1), .int v2, a11, a12]) f_72_120 (Nat.le_of_ble_eq_true rfl) rfl ?_
    refine e_aload f_72_122 rfl (x_n7 ha0 (by decide)) ?_
    refine e_aload f_72_123 rfl (by decide) ?_
    refine e_iload f_72_124 rfl ?_
    refine e_iload f_72_126 rfl ?_
    refine e_iconst (c := 1) f_72_127 (by decide) ?_
    refine e_isub f_72_128 ?_
    obtain ⟨P3, hP3, hV⟩ := hV
    refine e_si (n := 4) (A := [.ref a0, .ref 23, .int v2, .int (a3 - 1)]) (R := []) f_72_129 na_72 rfl rfl (Nat.le_of_ble_eq_true rfl) (Nat.le_of_ble_eq_true rfl) (by rw [ml_72]; exact Nat.le_of_ble_eq_true rfl) hP3 (fun v3 S3 hp3 => ?_)
    have hV := hV v3 S3 hp3
    refine e_istore (L' := [.ref a0, .ref 23, .int a2, .int a3, .int a4, .int a5, .int a6, .int a7, .int a8, .int ((a2 &&& 511) &&& v1), .int v2, .int v3, a12]) f_72_132 (Nat.le_of_ble_eq_true rfl) rfl ?_
    refine e_aload f_72_134 rfl (x_n7 ha0 (by decide)) ?_
    refine e_iload f_72_135 rfl ?_
    obtain ⟨P4, hP4, hV⟩ := hV
    refine e_vi (n := 2) (A := [.ref a0, .int ((a2 &&& 511) &&& v1)]) (R := []) f_72_137 na_9 rfl rfl (Nat.le_of_ble_eq_true rfl) (Nat.le_of_ble_eq_true rfl) (by rw [ml_9]; exact Nat.le_of_ble_eq_true rfl) rfl (by rw [cy_9]; decide) (by rw [cy_9]; exact ha0) hP4 (fun v4 S4 hp4 => ?_)
    have hV := hV v4 S4 hp4
    refine e_aload f_72_140 rfl (by decide) ?_
    refine e_iload f_72_141 rfl ?_
    obtain ⟨P5, hP5, hV⟩ := hV
    refine e_vi (n := 2) (A := [.ref 23, .int v2]) (R := [.int v4]) f_72_143 na_20 rfl rfl (Nat.le_of_ble_eq_true rfl) (Nat.le_of_ble_eq_true rfl) (by rw [ml_20]; exact Nat.le_of_ble_eq_true rfl) rfl (by rw [cy_20]; decide) (by rw [cy_20]; exact (by decide : x_tg 23 = 1)) hP5 (fun v5 S5 hp5 => ?_)
    have hV := hV v5 S5 hp5
    refine e_iload f_72_146 rfl ?_
    refine e_icmp f_72_148 (fun hc => ?_) (fun hc => ?_)
    · have hc := x_cct_ne hc
      rw [if_neg hc] at hV
      refine e_iload f_72_156 rfl ?_
      refine e_ineg f_72_158 ?_
      exact hV
    · have hc := x_ccf_ne hc
      rw [if_pos hc] at hV
      refine e_iload f_72_151 rfl ?_
      refine e_goto f_72_153 ?_
      exact hV
set_option maxRecDepth 20000 in
theorem T_72_159 {xs : List Int32} {d : Nat} {S : x_M} {Q : Option Value → x_M → Prop} {a0 : Nat} {a2 : Int32} {a3 : Int32} {a4 : Int32} {a5 : Int32} {a6 : Int32} {a7 : Int32} {a8 : Int32} {a9 : Int32} {a10 : Int32} {a11 : Int32} {a12 : Value} {s0 : Int32} {s1 : Int32} (ha0 : x_tg a0 = 0) (hV : if (s0 + s1) ≤ a4 then (x_E xs (d + 1) 72 83 [.ref a0, .ref 23, .int a2, .int a3, .int a4, .int a5, .int a6, .int a7, .int (a8 + 1), .int a9, .int a10, .int a11, .int (s0 + s1)] [] S Q) else ((x_ib a7 4) ∧ (x_E xs (d + 1) 72 83 [.ref a0, .ref 23, .int a2, .int a3, .int (s0 + s1), .int ((8 * (S 24 (Int32.toNatClampNeg a7))) + a8), .int a6, .int a7, .int (a8 + 1), .int a9, .int a10, .int a11, .int (s0 + s1)] [] S Q))) : x_E xs (d + 1) 72 159 [.ref a0, .ref 23, .int a2, .int a3, .int a4, .int a5, .int a6, .int a7, .int a8, .int a9, .int a10, .int a11, a12] [.int s1, .int s0] S Q := by
  refine e_iadd f_72_159 ?_
  refine e_istore (L' := [.ref a0, .ref 23, .int a2, .int a3, .int a4, .int a5, .int a6, .int a7, .int a8, .int a9, .int a10, .int a11, .int (s0 + s1)]) f_72_160 (Nat.le_of_ble_eq_true rfl) rfl ?_
  refine e_iload f_72_162 rfl ?_
  refine e_iload f_72_164 rfl ?_
  refine e_icmp f_72_166 (fun hc => ?_) (fun hc => ?_)
  · have hc := x_cct_le hc
    rw [if_pos hc] at hV
    refine e_inc (c := 1) (L' := [.ref a0, .ref 23, .int a2, .int a3, .int a4, .int a5, .int a6, .int a7, .int (a8 + 1), .int a9, .int a10, .int a11, .int (s0 + s1)]) f_72_188 rfl (by decide) rfl ?_
    refine e_goto f_72_191 ?_
    exact hV
  · have hc := x_ccf_le hc
    rw [if_neg hc] at hV
    refine e_iload f_72_169 rfl ?_
    refine e_istore (L' := [.ref a0, .ref 23, .int a2, .int a3, .int (s0 + s1), .int a5, .int a6, .int a7, .int a8, .int a9, .int a10, .int a11, .int (s0 + s1)]) f_72_171 (Nat.le_of_ble_eq_true rfl) rfl ?_
    refine e_iconst (c := 8) f_72_173 (by decide) ?_
    refine e_aload f_72_175 rfl (by decide) ?_
    refine e_gr (c := 1) (j := 0) (r := 24) f_72_176 (by decide) (by decide) (by decide) (by decide) ?_
    refine e_iload f_72_179 rfl ?_
    obtain ⟨hg, hV⟩ := hV
    refine e_ia (n := 4) f_72_181 (by decide) (by decide) hg ?_
    refine e_imul f_72_182 ?_
    refine e_iload f_72_183 rfl ?_
    refine e_iadd f_72_185 ?_
    refine e_istore (L' := [.ref a0, .ref 23, .int a2, .int a3, .int (s0 + s1), .int ((8 * (S 24 (Int32.toNatClampNeg a7))) + a8), .int a6, .int a7, .int a8, .int a9, .int a10, .int a11, .int (s0 + s1)]) f_72_186 (Nat.le_of_ble_eq_true rfl) rfl ?_
    refine e_inc (c := 1) (L' := [.ref a0, .ref 23, .int a2, .int a3, .int (s0 + s1), .int ((8 * (S 24 (Int32.toNatClampNeg a7))) + a8), .int a6, .int a7, .int (a8 + 1), .int a9, .int a10, .int a11, .int (s0 + s1)]) f_72_188 rfl (by decide) rfl ?_
    refine e_goto f_72_191 ?_
    exact hV
set_option maxRecDepth 20000 in
theorem T_73_0 {xs : List Int32} {d : Nat} {S : x_M} {Q : Option Value → x_M → Prop} {a1 : Int32} {a2 : Int32} {a3 : Int32}  (hV : ∃ P1 : Int32 → x_M → Prop, x_Ci xs d 59 [.ref 8, .int a1, .int a2] S P1 ∧ ∀ (v1 : Int32) (S1 : x_M), P1 v1 S1 → (if v1 = 0 then (Q (some (.int (-1000001))) S1) else (if a3 < 0 then (Q (some (.int (-1000001))) S1) else (if a3 ≤ 1 then (∃ P2 : Int32 → x_M → Prop, x_Ci xs d 10 [.ref 12, .int a1] S1 P2 ∧ ∀ (v2 : Int32) (S2 : x_M), P2 v2 S2 → (if v2 = 0 then (Q (some (.int (-1000002))) S2) else (∃ P3 : Int32 → x_M → Prop, x_Ci xs d 8 [.ref 12, .int a1, .int a2] S2 P3 ∧ ∀ (v3 : Int32) (S3 : x_M), P3 v3 S3 → (∃ P4 : Int32 → x_M → Prop, x_Ci xs d 9 [.ref 12, .int ((S2 12 6) &&& v3)] S3 P4 ∧ ∀ (v4 : Int32) (S4 : x_M), P4 v4 S4 → (∃ P5 : Int32 → x_M → Prop, x_Ci xs d 14 [.ref 12] S4 P5 ∧ ∀ (v5 : Int32) (S5 : x_M), P5 v5 S5 → (∃ P6 : Int32 → x_M → Prop, x_Ci xs d 179 [.int v5] S5 P6 ∧ ∀ (v6 : Int32) (S6 : x_M), P6 v6 S6 → (if (8 * v6) = 0 then (if a3 = 0 then (Q (some (.int v4)) S6) else (Q (some (.int 1)) S6)) else (if ((S2 12 6) &&& v3) = 0 then (x_E xs (d + 1) 73 124 [.ref 8, .int a1, .int a2, .int a3, .int ((S2 12 6) &&& v3), .int v4, .int v5, .int (8 * v6), .null, .null] [.int 511, .int v5, .ref 12, .int (v4 * (8 * v6))] S6 Q) else (x_E xs (d + 1) 73 124 [.ref 8, .int a1, .int a2, .int a3, .int ((S2 12 6) &&& v3), .int v4, .int v5, .int (8 * v6), .null, .null] [.int ((S2 12 6) &&& v3), .int v5, .ref 12, .int (v4 * (8 * v6))] S6 Q))))))))) else (Q (some (.int (-1000001))) S1))))) : x_E xs (d + 1) 73 0 [.ref 8, .int a1, .int a2, .int a3, .null, .null, .null, .null, .null, .null] [] S Q := by
  refine e_aload f_73_0 rfl (by decide) ?_
  refine e_iload f_73_1 rfl ?_
  refine e_iload f_73_2 rfl ?_
  obtain ⟨P1, hP1, hV⟩ := hV
  refine e_vi (n := 3) (A := [.ref 8, .int a1, .int a2]) (R := []) f_73_3 na_59 rfl rfl (Nat.le_of_ble_eq_true rfl) (Nat.le_of_ble_eq_true rfl) (by rw [ml_59]; exact Nat.le_of_ble_eq_true rfl) rfl (by rw [cy_59]; decide) (by rw [cy_59]; exact (by decide : x_tg 8 = 5)) hP1 (fun v1 S1 hp1 => ?_)
  have hV := hV v1 S1 hp1
  refine e_if f_73_6 (fun hc => ?_) (fun hc => ?_)
  · have hc := x_cct_eq hc
    rw [if_pos hc] at hV
    refine e_iconst (c := (-1000001)) f_73_18 (by decide) ?_
    exact e_ireturn f_73_20 rt_73 rfl hV
  · have hc := x_ccf_eq hc
    rw [if_neg hc] at hV
    refine e_iload f_73_9 rfl ?_
    refine e_if f_73_10 (fun hc => ?_) (fun hc => ?_)
    · have hc := x_cct_lt hc
      rw [if_pos hc] at hV
      refine e_iconst (c := (-1000001)) f_73_18 (by decide) ?_
      exact e_ireturn f_73_20 rt_73 rfl hV
    · have hc := x_ccf_lt hc
      rw [if_neg hc] at hV
      refine e_iload f_73_13 rfl ?_
      refine e_iconst (c := 1) f_73_14 (by decide) ?_
      refine e_icmp f_73_15 (fun hc => ?_) (fun hc => ?_)
      · have hc := x_cct_le hc
        rw [if_pos hc] at hV
        refine e_aload f_73_21 rfl (by decide) ?_
        refine e_gr (c := 5) (j := 2) (r := 12) f_73_22 (by decide) (by decide) (by decide) (by decide) ?_
        refine e_iload f_73_25 rfl ?_
        obtain ⟨P2, hP2, hV⟩ := hV
        refine e_vi (n := 2) (A := [.ref 12, .int a1]) (R := []) f_73_26 na_10 rfl rfl (Nat.le_of_ble_eq_true rfl) (Nat.le_of_ble_eq_true rfl) (by rw [ml_10]; exact Nat.le_of_ble_eq_true rfl) rfl (by rw [cy_10]; decide) (by rw [cy_10]; exact (by decide : x_tg 12 = 0)) hP2 (fun v2 S2 hp2 => ?_)
        have hV := hV v2 S2 hp2
        refine e_if f_73_29 (fun hc => ?_) (fun hc => ?_)
        · have hc := x_cct_ne hc
          rw [if_neg hc] at hV
          refine e_aload f_73_35 rfl (by decide) ?_
          refine e_gr (c := 5) (j := 2) (r := 12) f_73_36 (by decide) (by decide) (by decide) (by decide) ?_
          refine e_gf (c := 0) (j := 6) f_73_39 (by decide) (by decide) (by decide) ?_
          refine e_aload f_73_42 rfl (by decide) ?_
          refine e_gr (c := 5) (j := 2) (r := 12) f_73_43 (by decide) (by decide) (by decide) (by decide) ?_
          refine e_iload f_73_46 rfl ?_
          refine e_iload f_73_47 rfl ?_
          obtain ⟨P3, hP3, hV⟩ := hV
          refine e_vi (n := 3) (A := [.ref 12, .int a1, .int a2]) (R := [.int (S2 12 6)]) f_73_48 na_8 rfl rfl (Nat.le_of_ble_eq_true rfl) (Nat.le_of_ble_eq_true rfl) (by rw [ml_8]; exact Nat.le_of_ble_eq_true rfl) rfl (by rw [cy_8]; decide) (by rw [cy_8]; exact (by decide : x_tg 12 = 0)) hP3 (fun v3 S3 hp3 => ?_)
          have hV := hV v3 S3 hp3
          refine e_iand f_73_51 ?_
          refine e_istore (L' := [.ref 8, .int a1, .int a2, .int a3, .int ((S2 12 6) &&& v3), .null, .null, .null, .null, .null]) f_73_52 (Nat.le_of_ble_eq_true rfl) rfl ?_
          refine e_aload f_73_54 rfl (by decide) ?_
          refine e_gr (c := 5) (j := 2) (r := 12) f_73_55 (by decide) (by decide) (by decide) (by decide) ?_
          refine e_iload f_73_58 rfl ?_
          obtain ⟨P4, hP4, hV⟩ := hV
          refine e_vi (n := 2) (A := [.ref 12, .int ((S2 12 6) &&& v3)]) (R := []) f_73_60 na_9 rfl rfl (Nat.le_of_ble_eq_true rfl) (Nat.le_of_ble_eq_true rfl) (by rw [ml_9]; exact Nat.le_of_ble_eq_true rfl) rfl (by rw [cy_9]; decide) (by rw [cy_9]; exact (by decide : x_tg 12 = 0)) hP4 (fun v4 S4 hp4 => ?_)
          have hV := hV v4 S4 hp4
          refine e_istore (L' := [.ref 8, .int a1, .int a2, .int a3, .int ((S2 12 6) &&& v3), .int v4, .null, .null, .null, .null]) f_73_63 (Nat.le_of_ble_eq_true rfl) rfl ?_
          refine e_aload f_73_65 rfl (by decide) ?_
          refine e_gr (c := 5) (j := 2) (r := 12) f_73_66 (by decide) (by decide) (by decide) (by decide) ?_
          obtain ⟨P5, hP5, hV⟩ := hV
          refine e_vi (n := 1) (A := [.ref 12]) (R := []) f_73_69 na_14 rfl rfl (Nat.le_of_ble_eq_true rfl) (Nat.le_of_ble_eq_true rfl) (by rw [ml_14]; exact Nat.le_of_ble_eq_true rfl) rfl (by rw [cy_14]; decide) (by rw [cy_14]; exact (by decide : x_tg 12 = 0)) hP5 (fun v5 S5 hp5 => ?_)
          have hV := hV v5 S5 hp5
          refine e_istore (L' := [.ref 8, .int a1, .int a2, .int a3, .int ((S2 12 6) &&& v3), .int v4, .int v5, .null, .null, .null]) f_73_72 (Nat.le_of_ble_eq_true rfl) rfl ?_
          refine e_iconst (c := 8) f_73_74 (by decide) ?_
          refine e_iload f_73_76 rfl ?_
          obtain ⟨P6, hP6, hV⟩ := hV
          refine e_si (n := 1) (A := [.int v5]) (R := [.int 8]) f_73_78 na_179 rfl rfl (Nat.le_of_ble_eq_true rfl) (Nat.le_of_ble_eq_true rfl) (by rw [ml_179]; exact Nat.le_of_ble_eq_true rfl) hP6 (fun v6 S6 hp6 => ?_)
          have hV := hV v6 S6 hp6
          refine e_imul f_73_81 ?_
          refine e_istore (L' := [.ref 8, .int a1, .int a2, .int a3, .int ((S2 12 6) &&& v3), .int v4, .int v5, .int (8 * v6), .null, .null]) f_73_82 (Nat.le_of_ble_eq_true rfl) rfl ?_
          refine e_iload f_73_84 rfl ?_
          refine e_if f_73_86 (fun hc => ?_) (fun hc => ?_)
          · have hc := x_cct_ne hc
            rw [if_neg hc] at hV
            refine e_iload f_73_100 rfl ?_
            refine e_iload f_73_102 rfl ?_
            refine e_imul f_73_104 ?_
            refine e_aload f_73_105 rfl (by decide) ?_
            refine e_gr (c := 5) (j := 2) (r := 12) f_73_106 (by decide) (by decide) (by decide) (by decide) ?_
            refine e_iload f_73_109 rfl ?_
            refine e_iload f_73_111 rfl ?_
            refine e_if f_73_113 (fun hc => ?_) (fun hc => ?_)
            · have hc := x_cct_ne hc
              rw [if_neg hc] at hV
              refine e_iload f_73_122 rfl ?_
              exact hV
            · have hc := x_ccf_ne hc
              rw [if_pos hc] at hV
              refine e_iconst (c := 511) f_73_116 (by decide) ?_
              refine e_goto f_73_119 ?_
              exact hV
          · have hc := x_ccf_ne hc
            rw [if_pos hc] at hV
            refine e_iload f_73_89 rfl ?_
            refine e_if f_73_90 (fun hc => ?_) (fun hc => ?_)
            · have hc := x_cct_ne hc
              rw [if_neg hc] at hV
              refine e_iconst (c := 1) f_73_98 (by decide) ?_
              exact e_ireturn f_73_99 rt_73 rfl hV
            · have hc := x_ccf_ne hc
              rw [if_pos hc] at hV
              refine e_iload f_73_93 rfl ?_
              refine e_goto f_73_95 ?_
              exact e_ireturn f_73_99 rt_73 rfl hV
        · have hc := x_ccf_ne hc
          rw [if_pos hc] at hV
          refine e_iconst (c := (-1000002)) f_73_32 (by decide) ?_
          exact e_ireturn f_73_34 rt_73 rfl hV
      · have hc := x_ccf_le hc
        rw [if_neg hc] at hV
        refine e_iconst (c := (-1000001)) f_73_18 (by decide) ?_
        exact e_ireturn f_73_20 rt_73 rfl hV
set_option maxRecDepth 20000 in
theorem T_73_124 {xs : List Int32} {d : Nat} {S : x_M} {Q : Option Value → x_M → Prop} {a1 : Int32} {a2 : Int32} {a3 : Int32} {a4 : Int32} {a5 : Int32} {a6 : Int32} {a7 : Int32} {s0 : Int32} {s2 : Int32} {s3 : Int32}  (hV : ∃ P1 : Int32 → x_M → Prop, x_Ci xs d 74 [.ref 12, .int s2, .int s3] S P1 ∧ ∀ (v1 : Int32) (S1 : x_M), P1 v1 S1 → (∃ P2 : Int32 → x_M → Prop, x_Ci xs d 75 [.int (if 0 ≤ (s0 - v1) then (s0 - v1) else 0 - (s0 - v1)), .int a7] S1 P2 ∧ ∀ (v2 : Int32) (S2 : x_M), P2 v2 S2 → (if a3 = 0 then ((¬ v2 = 0) ∧ (Q (some (.int ((s0 - v1) / v2))) S2)) else ((¬ v2 = 0) ∧ (Q (some (.int (a7 / v2))) S2))))) : x_E xs (d + 1) 73 124 [.ref 8, .int a1, .int a2, .int a3, .int a4, .int a5, .int a6, .int a7, .null, .null] [.int s3, .int s2, .ref 12, .int s0] S Q := by
  obtain ⟨P1, hP1, hV⟩ := hV
  refine e_si (n := 3) (A := [.ref 12, .int s2, .int s3]) (R := [.int s0]) f_73_124 na_74 rfl rfl (Nat.le_of_ble_eq_true rfl) (Nat.le_of_ble_eq_true rfl) (by rw [ml_74]; exact Nat.le_of_ble_eq_true rfl) hP1 (fun v1 S1 hp1 => ?_)
  have hV := hV v1 S1 hp1
  refine e_isub f_73_127 ?_
  refine e_istore (L' := [.ref 8, .int a1, .int a2, .int a3, .int a4, .int a5, .int a6, .int a7, .int (s0 - v1), .null]) f_73_128 (Nat.le_of_ble_eq_true rfl) rfl ?_
  refine e_iload f_73_130 rfl ?_
  refine e_abs f_73_132 (Nat.le_of_ble_eq_true rfl) ?_
  refine e_iload f_73_135 rfl ?_
  obtain ⟨P2, hP2, hV⟩ := hV
  refine e_si (n := 2) (A := [.int (if 0 ≤ (s0 - v1) then (s0 - v1) else 0 - (s0 - v1)), .int a7]) (R := []) f_73_137 na_75 rfl rfl (Nat.le_of_ble_eq_true rfl) (Nat.le_of_ble_eq_true rfl) (by rw [ml_75]; exact Nat.le_of_ble_eq_true rfl) hP2 (fun v2 S2 hp2 => ?_)
  have hV := hV v2 S2 hp2
  refine e_istore (L' := [.ref 8, .int a1, .int a2, .int a3, .int a4, .int a5, .int a6, .int a7, .int (s0 - v1), .int v2]) f_73_140 (Nat.le_of_ble_eq_true rfl) rfl ?_
  refine e_iload f_73_142 rfl ?_
  refine e_if f_73_143 (fun hc => ?_) (fun hc => ?_)
  · have hc := x_cct_ne hc
    rw [if_neg hc] at hV
    refine e_iload f_73_151 rfl ?_
    refine e_iload f_73_153 rfl ?_
    obtain ⟨hg, hV⟩ := hV
    refine e_idiv f_73_155 hg ?_
    exact e_ireturn f_73_156 rt_73 rfl hV
  · have hc := x_ccf_ne hc
    rw [if_pos hc] at hV
    refine e_iload f_73_146 rfl ?_
    refine e_goto f_73_148 ?_
    refine e_iload f_73_153 rfl ?_
    obtain ⟨hg, hV⟩ := hV
    refine e_idiv f_73_155 hg ?_
    exact e_ireturn f_73_156 rt_73 rfl hV
set_option maxRecDepth 20000 in
theorem T_74_0 {xs : List Int32} {d : Nat} {S : x_M} {Q : Option Value → x_M → Prop} {a0 : Nat} {a1 : Int32} {a2 : Int32} (ha0 : x_tg a0 = 0) (hV : x_E xs (d + 1) 74 5 [.ref a0, .int a1, .int a2, .int 0, .int 0, .null] [] S Q) : x_E xs (d + 1) 74 0 [.ref a0, .int a1, .int a2, .null, .null, .null] [] S Q := by
  refine e_iconst (c := 0) f_74_0 (by decide) ?_
  refine e_istore (L' := [.ref a0, .int a1, .int a2, .int 0, .null, .null]) f_74_1 (Nat.le_of_ble_eq_true rfl) rfl ?_
  refine e_iconst (c := 0) f_74_2 (by decide) ?_
  refine e_istore (L' := [.ref a0, .int a1, .int a2, .int 0, .int 0, .null]) f_74_3 (Nat.le_of_ble_eq_true rfl) rfl ?_
  exact hV
set_option maxRecDepth 20000 in
theorem T_74_5 {xs : List Int32} {d : Nat} {S : x_M} {Q : Option Value → x_M → Prop} {a0 : Nat} {a1 : Int32} {a2 : Int32} {a3 : Int32} {a4 : Int32} {a5 : Value} (ha0 : x_tg a0 = 0) (hV : if (S a0 5) ≤ a4 then (Q (some (.int a3)) S) else (if ((a1 >>> (a4 &&& 31)) &&& 1) = 0 then (x_E xs (d + 1) 74 5 [.ref a0, .int a1, .int a2, .int a3, .int (a4 + 1), a5] [] S Q) else (x_E xs (d + 1) 74 29 [.ref a0, .int a1, .int a2, .int a3, .int a4, .int 0] [] S Q))) : x_E xs (d + 1) 74 5 [.ref a0, .int a1, .int a2, .int a3, .int a4, a5] [] S Q := by
  refine e_iload f_74_5 rfl ?_
  refine e_aload f_74_7 rfl (x_n7 ha0 (by decide)) ?_
  refine e_gf (c := 0) (j := 5) f_74_8 (by decide) (by decide) ha0 ?_
  refine e_icmp f_74_11 (fun hc => ?_) (fun hc => ?_)
  · have hc := x_cct_ge hc
    rw [if_pos hc] at hV
    refine e_iload f_74_65 rfl ?_
    exact e_ireturn f_74_66 rt_74 rfl hV
  · have hc := x_ccf_ge hc
    rw [if_neg hc] at hV
    refine e_iload f_74_14 rfl ?_
    refine e_iload f_74_15 rfl ?_
    refine e_ishr f_74_17 ?_
    refine e_iconst (c := 1) f_74_18 (by decide) ?_
    refine e_iand f_74_19 ?_
    refine e_if f_74_20 (fun hc => ?_) (fun hc => ?_)
    · have hc := x_cct_ne hc
      rw [if_neg hc] at hV
      refine e_iconst (c := 0) f_74_26 (by decide) ?_
      refine e_istore (L' := [.ref a0, .int a1, .int a2, .int a3, .int a4, .int 0]) f_74_27 (Nat.le_of_ble_eq_true rfl) rfl ?_
      exact hV
    · have hc := x_ccf_ne hc
      rw [if_pos hc] at hV
      refine e_goto f_74_23 ?_
      refine e_inc (c := 1) (L' := [.ref a0, .int a1, .int a2, .int a3, .int (a4 + 1), a5]) f_74_59 rfl (by decide) rfl ?_
      refine e_goto f_74_62 ?_
      exact hV
set_option maxRecDepth 20000 in
theorem T_74_29 {xs : List Int32} {d : Nat} {S : x_M} {Q : Option Value → x_M → Prop} {a0 : Nat} {a1 : Int32} {a2 : Int32} {a3 : Int32} {a4 : Int32} {a5 : Int32} (ha0 : x_tg a0 = 0) (hV : if (8 : Int32) ≤ a5 then (x_E xs (d + 1) 74 5 [.ref a0, .int a1, .int a2, .int a3, .int (a4 + 1), .int a5] [] S Q) else (∃ P1 : Int32 → x_M → Prop, x_Ci xs d 8 [.ref a0, .int a4, .int a5] S P1 ∧ ∀ (v1 : Int32) (S1 : x_M), P1 v1 S1 → (∃ P2 : Int32 → x_M → Prop, x_Ci xs d 9 [.ref a0, .int (a2 &&& v1)] S1 P2 ∧ ∀ (v2 : Int32) (S2 : x_M), P2 v2 S2 → (x_E xs (d + 1) 74 29 [.ref a0, .int a1, .int a2, .int (a3 + v2), .int a4, .int (a5 + 1)] [] S2 Q)))) : x_E xs (d + 1) 74 29 [.ref a0, .int a1, .int a2, .int a3, .int a4, .int a5] [] S Q := by
  refine e_iload f_74_29 rfl ?_
  refine e_iconst (c := 8) f_74_31 (by decide) ?_
  refine e_icmp f_74_33 (fun hc => ?_) (fun hc => ?_)
  · have hc := x_cct_ge hc
    rw [if_pos hc] at hV
    refine e_inc (c := 1) (L' := [.ref a0, .int a1, .int a2, .int a3, .int (a4 + 1), .int a5]) f_74_59 rfl (by decide) rfl ?_
    refine e_goto f_74_62 ?_
    exact hV
  · have hc := x_ccf_ge hc
    rw [if_neg hc] at hV
    refine e_iload f_74_36 rfl ?_
    refine e_aload f_74_37 rfl (x_n7 ha0 (by decide)) ?_
    refine e_iload f_74_38 rfl ?_
    refine e_aload f_74_39 rfl (x_n7 ha0 (by decide)) ?_
    refine e_iload f_74_40 rfl ?_
    refine e_iload f_74_42 rfl ?_
    obtain ⟨P1, hP1, hV⟩ := hV
    refine e_vi (n := 3) (A := [.ref a0, .int a4, .int a5]) (R := [.int a2, .ref a0, .int a3]) f_74_44 na_8 rfl rfl (Nat.le_of_ble_eq_true rfl) (Nat.le_of_ble_eq_true rfl) (by rw [ml_8]; exact Nat.le_of_ble_eq_true rfl) rfl (by rw [cy_8]; decide) (by rw [cy_8]; exact ha0) hP1 (fun v1 S1 hp1 => ?_)
    have hV := hV v1 S1 hp1
    refine e_iand f_74_47 ?_
    obtain ⟨P2, hP2, hV⟩ := hV
    refine e_vi (n := 2) (A := [.ref a0, .int (a2 &&& v1)]) (R := [.int a3]) f_74_48 na_9 rfl rfl (Nat.le_of_ble_eq_true rfl) (Nat.le_of_ble_eq_true rfl) (by rw [ml_9]; exact Nat.le_of_ble_eq_true rfl) rfl (by rw [cy_9]; decide) (by rw [cy_9]; exact ha0) hP2 (fun v2 S2 hp2 => ?_)
    have hV := hV v2 S2 hp2
    refine e_iadd f_74_51 ?_
    refine e_istore (L' := [.ref a0, .int a1, .int a2, .int (a3 + v2), .int a4, .int a5]) f_74_52 (Nat.le_of_ble_eq_true rfl) rfl ?_
    refine e_inc (c := 1) (L' := [.ref a0, .int a1, .int a2, .int (a3 + v2), .int a4, .int (a5 + 1)]) f_74_53 rfl (by decide) rfl ?_
    refine e_goto f_74_56 ?_
    exact hV
set_option maxRecDepth 20000 in
theorem T_75_0 {xs : List Int32} {d : Nat} {S : x_M} {Q : Option Value → x_M → Prop} {a0 : Int32} {a1 : Int32}  (hV : x_E xs (d + 1) 75 11 [.int a0, .int a1, .int a0, .int (if a1 < 1 then 1 else a1), .int 0, .null] [] S Q) : x_E xs (d + 1) 75 0 [.int a0, .int a1, .null, .null, .null, .null] [] S Q := by
  refine e_iload f_75_0 rfl ?_
  refine e_istore (L' := [.int a0, .int a1, .int a0, .null, .null, .null]) f_75_1 (Nat.le_of_ble_eq_true rfl) rfl ?_
  refine e_iload f_75_2 rfl ?_
  refine e_iconst (c := 1) f_75_3 (by decide) ?_
  refine e_max f_75_4 (Nat.le_of_ble_eq_true rfl) ?_
  refine e_istore (L' := [.int a0, .int a1, .int a0, .int (if a1 < 1 then 1 else a1), .null, .null]) f_75_7 (Nat.le_of_ble_eq_true rfl) rfl ?_
  refine e_iconst (c := 0) f_75_8 (by decide) ?_
  refine e_istore (L' := [.int a0, .int a1, .int a0, .int (if a1 < 1 then 1 else a1), .int 0, .null]) f_75_9 (Nat.le_of_ble_eq_true rfl) rfl ?_
  exact hV
set_option maxRecDepth 20000 in
theorem T_75_11 {xs : List Int32} {d : Nat} {S : x_M} {Q : Option Value → x_M → Prop} {a0 : Int32} {a1 : Int32} {a2 : Int32} {a3 : Int32} {a4 : Int32} {a5 : Value}  (hV : if (1000 : Int32) ≤ a4 then (Q (some (.int 1)) S) else ((¬ a3 = 0) ∧ (if (a2 - a2 / a3 * a3) = 0 then (Q (some (.int a3)) S) else (x_E xs (d + 1) 75 11 [.int a0, .int a1, .int a3, .int (a2 - a2 / a3 * a3), .int (a4 + 1), .int (a2 - a2 / a3 * a3)] [] S Q)))) : x_E xs (d + 1) 75 11 [.int a0, .int a1, .int a2, .int a3, .int a4, a5] [] S Q := by
  refine e_iload f_75_11 rfl ?_
  refine e_iconst (c := 1000) f_75_13 (by decide) ?_
  refine e_icmp f_75_16 (fun hc => ?_) (fun hc => ?_)
  · have hc := x_cct_ge hc
    rw [if_pos hc] at hV
    refine e_iconst (c := 1) f_75_42 (by decide) ?_
    exact e_ireturn f_75_43 rt_75 rfl hV
  · have hc := x_ccf_ge hc
    rw [if_neg hc] at hV
    refine e_iload f_75_19 rfl ?_
    refine e_iload f_75_20 rfl ?_
    obtain ⟨hg, hV⟩ := hV
    refine e_irem f_75_21 hg ?_
    refine e_istore (L' := [.int a0, .int a1, .int a2, .int a3, .int a4, .int (a2 - a2 / a3 * a3)]) f_75_22 (Nat.le_of_ble_eq_true rfl) rfl ?_
    refine e_iload f_75_24 rfl ?_
    refine e_if f_75_26 (fun hc => ?_) (fun hc => ?_)
    · have hc := x_cct_ne hc
      rw [if_neg hc] at hV
      refine e_iload f_75_31 rfl ?_
      refine e_istore (L' := [.int a0, .int a1, .int a3, .int a3, .int a4, .int (a2 - a2 / a3 * a3)]) f_75_32 (Nat.le_of_ble_eq_true rfl) rfl ?_
      refine e_iload f_75_33 rfl ?_
      refine e_istore (L' := [.int a0, .int a1, .int a3, .int (a2 - a2 / a3 * a3), .int a4, .int (a2 - a2 / a3 * a3)]) f_75_35 (Nat.le_of_ble_eq_true rfl) rfl ?_
      refine e_inc (c := 1) (L' := [.int a0, .int a1, .int a3, .int (a2 - a2 / a3 * a3), .int (a4 + 1), .int (a2 - a2 / a3 * a3)]) f_75_36 rfl (by decide) rfl ?_
      refine e_goto f_75_39 ?_
      exact hV
    · have hc := x_ccf_ne hc
      rw [if_pos hc] at hV
      refine e_iload f_75_29 rfl ?_
      exact e_ireturn f_75_30 rt_75 rfl hV
set_option maxRecDepth 20000 in
theorem T_76_0 {xs : List Int32} {d : Nat} {S : x_M} {Q : Option Value → x_M → Prop} {a1 : Int32} {a2 : Int32}  (hV : if (S 12 4) = 0 then (Q (some (.int (-1000002))) S) else (∃ P1 : Int32 → x_M → Prop, x_Ci xs d 62 [.int a1] S P1 ∧ ∀ (v1 : Int32) (S1 : x_M), P1 v1 S1 → (if v1 = 0 then (Q (some (.int (-1000001))) S1) else (if (-1 : Int32) ≤ a2 then (x_E xs (d + 1) 76 30 [.ref 8, .int a1, .int a2, .int 0] [] S1 Q) else (Q (some (.int (-1000001))) S1))))) : x_E xs (d + 1) 76 0 [.ref 8, .int a1, .int a2, .null] [] S Q := by
  refine e_aload f_76_0 rfl (by decide) ?_
  refine e_gr (c := 5) (j := 2) (r := 12) f_76_1 (by decide) (by decide) (by decide) (by decide) ?_
  refine e_gf (c := 0) (j := 4) f_76_4 (by decide) (by decide) (by decide) ?_
  refine e_if f_76_7 (fun hc => ?_) (fun hc => ?_)
  · have hc := x_cct_ne hc
    rw [if_neg hc] at hV
    refine e_iload f_76_13 rfl ?_
    obtain ⟨P1, hP1, hV⟩ := hV
    refine e_si (n := 1) (A := [.int a1]) (R := []) f_76_14 na_62 rfl rfl (Nat.le_of_ble_eq_true rfl) (Nat.le_of_ble_eq_true rfl) (by rw [ml_62]; exact Nat.le_of_ble_eq_true rfl) hP1 (fun v1 S1 hp1 => ?_)
    have hV := hV v1 S1 hp1
    refine e_if f_76_17 (fun hc => ?_) (fun hc => ?_)
    · have hc := x_cct_eq hc
      rw [if_pos hc] at hV
      refine e_iconst (c := (-1000001)) f_76_25 (by decide) ?_
      exact e_ireturn f_76_27 rt_76 rfl hV
    · have hc := x_ccf_eq hc
      rw [if_neg hc] at hV
      refine e_iload f_76_20 rfl ?_
      refine e_iconst (c := (-1)) f_76_21 (by decide) ?_
      refine e_icmp f_76_22 (fun hc => ?_) (fun hc => ?_)
      · have hc := x_cct_ge hc
        rw [if_pos hc] at hV
        refine e_iconst (c := 0) f_76_28 (by decide) ?_
        refine e_istore (L' := [.ref 8, .int a1, .int a2, .int 0]) f_76_29 (Nat.le_of_ble_eq_true rfl) rfl ?_
        exact hV
      · have hc := x_ccf_ge hc
        rw [if_neg hc] at hV
        refine e_iconst (c := (-1000001)) f_76_25 (by decide) ?_
        exact e_ireturn f_76_27 rt_76 rfl hV
  · have hc := x_ccf_ne hc
    rw [if_pos hc] at hV
    refine e_iconst (c := (-1000002)) f_76_10 (by decide) ?_
    exact e_ireturn f_76_12 rt_76 rfl hV
