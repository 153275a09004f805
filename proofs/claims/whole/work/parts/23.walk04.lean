set_option maxRecDepth 20000 in
theorem T_76_30 {xs : List Int32} {d : Nat} {S : x_M} {Q : Option Value → x_M → Prop} {a1 : Int32} {a2 : Int32} {a3 : Int32}  (hV : if (3 : Int32) < a3 then (Q (some (.int (-1000000))) S) else (∃ P1 : Int32 → x_M → Prop, x_Ci xs d 77 [.ref 12, .ref 27, .int a1, .int 511, .int 0, .int 0, .int a3] S P1 ∧ ∀ (v1 : Int32) (S1 : x_M), P1 v1 S1 → (if v1 = 0 then (x_E xs (d + 1) 76 30 [.ref 8, .int a1, .int a2, .int (a3 + 1)] [] S1 Q) else (if a2 = (-1) then (Q (some (.int a3)) S1) else (if a3 ≤ a2 then (Q (some (.int (-1000000))) S1) else (if (3 : Int32) ≤ a2 then (Q (some (.int (-1000000))) S1) else ((x_ib a2 3) ∧ (Q (some (.int (S1 27 (Int32.toNatClampNeg a2)))) S1)))))))) : x_E xs (d + 1) 76 30 [.ref 8, .int a1, .int a2, .int a3] [] S Q := by
  refine e_iload f_76_30 rfl ?_
  refine e_iconst (c := 3) f_76_31 (by decide) ?_
  refine e_icmp f_76_32 (fun hc => ?_) (fun hc => ?_)
  · have hc := x_cct_gt hc
    rw [if_pos hc] at hV
    refine e_iconst (c := (-1000000)) f_76_95 (by decide) ?_
    exact e_ireturn f_76_97 rt_76 rfl hV
  · have hc := x_ccf_gt hc
    rw [if_neg hc] at hV
    refine e_aload f_76_35 rfl (by decide) ?_
    refine e_gr (c := 5) (j := 2) (r := 12) f_76_36 (by decide) (by decide) (by decide) (by decide) ?_
    refine e_aload f_76_39 rfl (by decide) ?_
    refine e_gr (c := 5) (j := 6) (r := 27) f_76_40 (by decide) (by decide) (by decide) (by decide) ?_
    refine e_iload f_76_43 rfl ?_
    refine e_iconst (c := 511) f_76_44 (by decide) ?_
    refine e_iconst (c := 0) f_76_47 (by decide) ?_
    refine e_iconst (c := 0) f_76_48 (by decide) ?_
    refine e_iload f_76_49 rfl ?_
    obtain ⟨P1, hP1, hV⟩ := hV
    refine e_si (n := 7) (A := [.ref 12, .ref 27, .int a1, .int 511, .int 0, .int 0, .int a3]) (R := []) f_76_50 na_77 rfl rfl (Nat.le_of_ble_eq_true rfl) (Nat.le_of_ble_eq_true rfl) (by rw [ml_77]; exact Nat.le_of_ble_eq_true rfl) hP1 (fun v1 S1 hp1 => ?_)
    have hV := hV v1 S1 hp1
    refine e_if f_76_53 (fun hc => ?_) (fun hc => ?_)
    · have hc := x_cct_eq hc
      rw [if_pos hc] at hV
      refine e_inc (c := 1) (L' := [.ref 8, .int a1, .int a2, .int (a3 + 1)]) f_76_89 rfl (by decide) rfl ?_
      refine e_goto f_76_92 ?_
      exact hV
    · have hc := x_ccf_eq hc
      rw [if_neg hc] at hV
      refine e_iload f_76_56 rfl ?_
      refine e_iconst (c := (-1)) f_76_57 (by decide) ?_
      refine e_icmp f_76_58 (fun hc => ?_) (fun hc => ?_)
      · have hc := x_cct_ne hc
        rw [if_neg hc] at hV
        refine e_iload f_76_63 rfl ?_
        refine e_iload f_76_64 rfl ?_
        refine e_icmp f_76_65 (fun hc => ?_) (fun hc => ?_)
        · have hc := x_cct_ge hc
          rw [if_pos hc] at hV
          refine e_iconst (c := (-1000000)) f_76_86 (by decide) ?_
          exact e_ireturn f_76_88 rt_76 rfl hV
        · have hc := x_ccf_ge hc
          rw [if_neg hc] at hV
          refine e_iload f_76_68 rfl ?_
          refine e_aload f_76_69 rfl (by decide) ?_
          refine e_gr (c := 5) (j := 6) (r := 27) f_76_70 (by decide) (by decide) (by decide) (by decide) ?_
          refine e_al (c := 10) (n := 3) (v := 3) f_76_73 (by decide) (by decide) (by decide) (by decide) ?_
          refine e_icmp f_76_74 (fun hc => ?_) (fun hc => ?_)
          · have hc := x_cct_ge hc
            rw [if_pos hc] at hV
            refine e_iconst (c := (-1000000)) f_76_86 (by decide) ?_
            exact e_ireturn f_76_88 rt_76 rfl hV
          · have hc := x_ccf_ge hc
            rw [if_neg hc] at hV
            refine e_aload f_76_77 rfl (by decide) ?_
            refine e_gr (c := 5) (j := 6) (r := 27) f_76_78 (by decide) (by decide) (by decide) (by decide) ?_
            refine e_iload f_76_81 rfl ?_
            obtain ⟨hg, hV⟩ := hV
            refine e_ia (n := 3) f_76_82 (by decide) (by decide) hg ?_
            refine e_goto f_76_83 ?_
            exact e_ireturn f_76_88 rt_76 rfl hV
      · have hc := x_ccf_ne hc
        rw [if_pos hc] at hV
        refine e_iload f_76_61 rfl ?_
        exact e_ireturn f_76_62 rt_76 rfl hV
set_option maxRecDepth 20000 in
theorem T_77_0 {xs : List Int32} {d : Nat} {S : x_M} {Q : Option Value → x_M → Prop} {a0 : Nat} {a2 : Int32} {a3 : Int32} {a4 : Int32} {a5 : Int32} {a6 : Int32} (ha0 : x_tg a0 = 0) (hV : if a6 ≤ a5 then (if a3 = a2 then (Q (some (.int 1)) S) else (Q (some (.int 0)) S)) else (if a5 < 3 then (x_E xs (d + 1) 77 29 [.ref a0, .ref 27, .int a2, .int a3, .int a4, .int a5, .int a6, .int a4, .null, .null] [] S Q) else (if a3 = a2 then (Q (some (.int 1)) S) else (Q (some (.int 0)) S)))) : x_E xs (d + 1) 77 0 [.ref a0, .ref 27, .int a2, .int a3, .int a4, .int a5, .int a6, .null, .null, .null] [] S Q := by
  refine e_iload f_77_0 rfl ?_
  refine e_iload f_77_2 rfl ?_
  refine e_icmp f_77_4 (fun hc => ?_) (fun hc => ?_)
  · have hc := x_cct_ge hc
    rw [if_pos hc] at hV
    refine e_iload f_77_14 rfl ?_
    refine e_iload f_77_15 rfl ?_
    refine e_icmp f_77_16 (fun hc => ?_) (fun hc => ?_)
    · have hc := x_cct_ne hc
      rw [if_neg hc] at hV
      refine e_iconst (c := 0) f_77_23 (by decide) ?_
      exact e_ireturn f_77_24 rt_77 (by decide) hV
    · have hc := x_ccf_ne hc
      rw [if_pos hc] at hV
      refine e_iconst (c := 1) f_77_19 (by decide) ?_
      refine e_goto f_77_20 ?_
      exact e_ireturn f_77_24 rt_77 (by decide) hV
  · have hc := x_ccf_ge hc
    rw [if_neg hc] at hV
    refine e_iload f_77_7 rfl ?_
    refine e_aload f_77_9 rfl (by decide) ?_
    refine e_al (c := 10) (n := 3) (v := 3) f_77_10 (by decide) (by decide) (by decide) (by decide) ?_
    refine e_icmp f_77_11 (fun hc => ?_) (fun hc => ?_)
    · have hc := x_cct_lt hc
      rw [if_pos hc] at hV
      refine e_iload f_77_25 rfl ?_
      refine e_istore (L' := [.ref a0, .ref 27, .int a2, .int a3, .int a4, .int a5, .int a6, .int a4, .null, .null]) f_77_27 (Nat.le_of_ble_eq_true rfl) rfl ?_
      exact hV
    · have hc := x_ccf_lt hc
      rw [if_neg hc] at hV
      refine e_iload f_77_14 rfl ?_
      refine e_iload f_77_15 rfl ?_
      refine e_icmp f_77_16 (fun hc => ?_) (fun hc => ?_)
      · have hc := x_cct_ne hc
        rw [if_neg hc] at hV
        refine e_iconst (c := 0) f_77_23 (by decide) ?_
        exact e_ireturn f_77_24 rt_77 (by decide) hV
      · have hc := x_ccf_ne hc
        rw [if_pos hc] at hV
        refine e_iconst (c := 1) f_77_19 (by decide) ?_
        refine e_goto f_77_20 ?_
        exact e_ireturn f_77_24 rt_77 (by decide) hV
set_option maxRecDepth 20000 in
theorem T_77_29 {xs : List Int32} {d : Nat} {S : x_M} {Q : Option Value → x_M → Prop} {a0 : Nat} {a2 : Int32} {a3 : Int32} {a4 : Int32} {a5 : Int32} {a6 : Int32} {a7 : Int32} {a8 : Value} {a9 : Value} (ha0 : x_tg a0 = 0) (hV : if (S a0 5) ≤ a7 then (Q (some (.int 0)) S) else (x_E xs (d + 1) 77 41 [.ref a0, .ref 27, .int a2, .int a3, .int a4, .int a5, .int a6, .int a7, .int 0, a9] [] S Q)) : x_E xs (d + 1) 77 29 [.ref a0, .ref 27, .int a2, .int a3, .int a4, .int a5, .int a6, .int a7, a8, a9] [] S Q := by
  refine e_iload f_77_29 rfl ?_
  refine e_aload f_77_31 rfl (x_n7 ha0 (by decide)) ?_
  refine e_gf (c := 0) (j := 5) f_77_32 (by decide) (by decide) ha0 ?_
  refine e_icmp f_77_35 (fun hc => ?_) (fun hc => ?_)
  · have hc := x_cct_ge hc
    rw [if_pos hc] at hV
    refine e_iconst (c := 0) f_77_118 (by decide) ?_
    exact e_ireturn f_77_119 rt_77 (by decide) hV
  · have hc := x_ccf_ge hc
    rw [if_neg hc] at hV
    refine e_iconst (c := 0) f_77_38 (by decide) ?_
    refine e_istore (L' := [.ref a0, .ref 27, .int a2, .int a3, .int a4, .int a5, .int a6, .int a7, .int 0, a9]) f_77_39 (Nat.le_of_ble_eq_true rfl) rfl ?_
    exact hV
set_option maxRecDepth 20000 in
theorem T_77_41 {xs : List Int32} {d : Nat} {S : x_M} {Q : Option Value → x_M → Prop} {a0 : Nat} {a2 : Int32} {a3 : Int32} {a4 : Int32} {a5 : Int32} {a6 : Int32} {a7 : Int32} {a8 : Int32} {a9 : Value} (ha0 : x_tg a0 = 0) (hV : if (8 : Int32) ≤ a8 then (x_E xs (d + 1) 77 29 [.ref a0, .ref 27, .int a2, .int a3, .int a4, .int a5, .int a6, .int (a7 + 1), .int a8, a9] [] S Q) else (∃ P1 : Int32 → x_M → Prop, x_Ci xs d 8 [.ref a0, .int a7, .int a8] S P1 ∧ ∀ (v1 : Int32) (S1 : x_M), P1 v1 S1 → (if (v1 &&& a2) = a2 then ((x_ib a5 3) ∧ (∀ S2 : x_M, S2 = x_up S1 27 (Int32.toNatClampNeg a5) ((8 * a7) + a8) → (∃ P3 : Int32 → x_M → Prop, x_Ci xs d 77 [.ref a0, .ref 27, .int a2, .int (a3 &&& v1), .int (a7 + 1), .int (a5 + 1), .int a6] S2 P3 ∧ ∀ (v3 : Int32) (S3 : x_M), P3 v3 S3 → (if v3 = 0 then (x_E xs (d + 1) 77 41 [.ref a0, .ref 27, .int a2, .int a3, .int a4, .int a5, .int a6, .int a7, .int (a8 + 1), .int v1] [] S3 Q) else (Q (some (.int 1)) S3))))) else (x_E xs (d + 1) 77 41 [.ref a0, .ref 27, .int a2, .int a3, .int a4, .int a5, .int a6, .int a7, .int (a8 + 1), .int v1] [] S1 Q)))) : x_E xs (d + 1) 77 41 [.ref a0, .ref 27, .int a2, .int a3, .int a4, .int a5, .int a6, .int a7, .int a8, a9] [] S Q := by
  refine e_iload f_77_41 rfl ?_
  refine e_iconst (c := 8) f_77_43 (by decide) ?_
  refine e_icmp f_77_45 (fun hc => ?_) (fun hc => ?_)
  · have hc := x_cct_ge hc
    rw [if_pos hc] at hV
    refine e_inc (c := 1) (L' := [.ref a0, .ref 27, .int a2, .int a3, .int a4, .int a5, .int a6, .int (a7 + 1), .int a8, a9]) f_77_112 rfl (by decide) rfl ?_
    refine e_goto f_77_115 ?_
    exact hV
  · have hc := x_ccf_ge hc
    rw [if_neg hc] at hV
    refine e_aload f_77_48 rfl (x_n7 ha0 (by decide)) ?_
    refine e_iload f_77_49 rfl ?_
    refine e_iload f_77_51 rfl ?_
    obtain ⟨P1, hP1, hV⟩ := hV
    refine e_vi (n := 3) (A := [.ref a0, .int a7, .int a8]) (R := []) f_77_53 na_8 rfl rfl (Nat.le_of_ble_eq_true rfl) (Nat.le_of_ble_eq_true rfl) (by rw [ml_8]; exact Nat.le_of_ble_eq_true rfl) rfl (by rw [cy_8]; decide) (by rw [cy_8]; exact ha0) hP1 (fun v1 S1 hp1 => ?_)
    have hV := hV v1 S1 hp1
    refine e_istore (L' := [.ref a0, .ref 27, .int a2, .int a3, .int a4, .int a5, .int a6, .int a7, .int a8, .int v1]) f_77_56 (Nat.le_of_ble_eq_true rfl) rfl ?_
    refine e_iload f_77_58 rfl ?_
    refine e_iload f_77_60 rfl ?_
    refine e_iand f_77_61 ?_
    refine e_iload f_77_62 rfl ?_
    refine e_icmp f_77_63 (fun hc => ?_) (fun hc => ?_)
    · have hc := x_cct_eq hc
      rw [if_pos hc] at hV
      refine e_aload f_77_69 rfl (by decide) ?_
      refine e_iload f_77_70 rfl ?_
      refine e_iconst (c := 8) f_77_72 (by decide) ?_
      refine e_iload f_77_74 rfl ?_
      refine e_imul f_77_76 ?_
      refine e_iload f_77_77 rfl ?_
      refine e_iadd f_77_79 ?_
      obtain ⟨hg, hV⟩ := hV
      refine e_isn (n := 3) f_77_80 (by decide) (by decide) hg (fun S2 hS2 => ?_)
      have hV := hV S2 hS2
      refine e_aload f_77_81 rfl (x_n7 ha0 (by decide)) ?_
      refine e_aload f_77_82 rfl (by decide) ?_
      refine e_iload f_77_83 rfl ?_
      refine e_iload f_77_84 rfl ?_
      refine e_iload f_77_85 rfl ?_
      refine e_iand f_77_87 ?_
      refine e_iload f_77_88 rfl ?_
      refine e_iconst (c := 1) f_77_90 (by decide) ?_
      refine e_iadd f_77_91 ?_
      refine e_iload f_77_92 rfl ?_
      refine e_iconst (c := 1) f_77_94 (by decide) ?_
      refine e_iadd f_77_95 ?_
      refine e_iload f_77_96 rfl ?_
      obtain ⟨P3, hP3, hV⟩ := hV
      refine e_si (n := 7) (A := [.ref a0, .ref 27, .int a2, .int (a3 &&& v1), .int (a7 + 1), .int (a5 + 1), .int a6]) (R := []) f_77_98 na_77 rfl rfl (Nat.le_of_ble_eq_true rfl) (Nat.le_of_ble_eq_true rfl) (by rw [ml_77]; exact Nat.le_of_ble_eq_true rfl) hP3 (fun v3 S3 hp3 => ?_)
      have hV := hV v3 S3 hp3
      refine e_if f_77_101 (fun hc => ?_) (fun hc => ?_)
      · have hc := x_cct_eq hc
        rw [if_pos hc] at hV
        refine e_inc (c := 1) (L' := [.ref a0, .ref 27, .int a2, .int a3, .int a4, .int a5, .int a6, .int a7, .int (a8 + 1), .int v1]) f_77_106 rfl (by decide) rfl ?_
        refine e_goto f_77_109 ?_
        exact hV
      · have hc := x_ccf_eq hc
        rw [if_neg hc] at hV
        refine e_iconst (c := 1) f_77_104 (by decide) ?_
        exact e_ireturn f_77_105 rt_77 (by decide) hV
    · have hc := x_ccf_eq hc
      rw [if_neg hc] at hV
      refine e_goto f_77_66 ?_
      refine e_inc (c := 1) (L' := [.ref a0, .ref 27, .int a2, .int a3, .int a4, .int a5, .int a6, .int a7, .int (a8 + 1), .int v1]) f_77_106 rfl (by decide) rfl ?_
      refine e_goto f_77_109 ?_
      exact hV
set_option maxRecDepth 20000 in
theorem T_78_0 {xs : List Int32} {d : Nat} {S : x_M} {Q : Option Value → x_M → Prop} {a1 : Int32}  (hV : if (S 12 4) = 0 then (Q (some (.int (-1000002))) S) else (if (-1 : Int32) ≤ a1 then (x_E xs (d + 1) 78 25 [.ref 8, .int a1, .int 0, .int 0, .null, .null] [] S Q) else (Q (some (.int (-1000001))) S))) : x_E xs (d + 1) 78 0 [.ref 8, .int a1, .null, .null, .null, .null] [] S Q := by
  refine e_aload f_78_0 rfl (by decide) ?_
  refine e_gr (c := 5) (j := 2) (r := 12) f_78_1 (by decide) (by decide) (by decide) (by decide) ?_
  refine e_gf (c := 0) (j := 4) f_78_4 (by decide) (by decide) (by decide) ?_
  refine e_if f_78_7 (fun hc => ?_) (fun hc => ?_)
  · have hc := x_cct_ne hc
    rw [if_neg hc] at hV
    refine e_iload f_78_13 rfl ?_
    refine e_iconst (c := (-1)) f_78_14 (by decide) ?_
    refine e_icmp f_78_15 (fun hc => ?_) (fun hc => ?_)
    · have hc := x_cct_ge hc
      rw [if_pos hc] at hV
      refine e_iconst (c := 0) f_78_21 (by decide) ?_
      refine e_istore (L' := [.ref 8, .int a1, .int 0, .null, .null, .null]) f_78_22 (Nat.le_of_ble_eq_true rfl) rfl ?_
      refine e_iconst (c := 0) f_78_23 (by decide) ?_
      refine e_istore (L' := [.ref 8, .int a1, .int 0, .int 0, .null, .null]) f_78_24 (Nat.le_of_ble_eq_true rfl) rfl ?_
      exact hV
    · have hc := x_ccf_ge hc
      rw [if_neg hc] at hV
      refine e_iconst (c := (-1000001)) f_78_18 (by decide) ?_
      exact e_ireturn f_78_20 rt_78 rfl hV
  · have hc := x_ccf_ne hc
    rw [if_pos hc] at hV
    refine e_iconst (c := (-1000002)) f_78_10 (by decide) ?_
    exact e_ireturn f_78_12 rt_78 rfl hV
set_option maxRecDepth 20000 in
theorem T_78_25 {xs : List Int32} {d : Nat} {S : x_M} {Q : Option Value → x_M → Prop} {a1 : Int32} {a2 : Int32} {a3 : Int32} {a4 : Value} {a5 : Value}  (hV : if (S 12 5) ≤ a3 then (if a1 = (-1) then (Q (some (.int a2)) S) else (Q (some (.int (-1000000))) S)) else (x_E xs (d + 1) 78 41 [.ref 8, .int a1, .int a2, .int a3, .int (a3 + 1), a5] [] S Q)) : x_E xs (d + 1) 78 25 [.ref 8, .int a1, .int a2, .int a3, a4, a5] [] S Q := by
  refine e_iload f_78_25 rfl ?_
  refine e_aload f_78_26 rfl (by decide) ?_
  refine e_gr (c := 5) (j := 2) (r := 12) f_78_27 (by decide) (by decide) (by decide) (by decide) ?_
  refine e_gf (c := 0) (j := 5) f_78_30 (by decide) (by decide) (by decide) ?_
  refine e_icmp f_78_33 (fun hc => ?_) (fun hc => ?_)
  · have hc := x_cct_ge hc
    rw [if_pos hc] at hV
    refine e_iload f_78_130 rfl ?_
    refine e_iconst (c := (-1)) f_78_131 (by decide) ?_
    refine e_icmp f_78_132 (fun hc => ?_) (fun hc => ?_)
    · have hc := x_cct_ne hc
      rw [if_neg hc] at hV
      refine e_iconst (c := (-1000000)) f_78_139 (by decide) ?_
      exact e_ireturn f_78_141 rt_78 rfl hV
    · have hc := x_ccf_ne hc
      rw [if_pos hc] at hV
      refine e_iload f_78_135 rfl ?_
      refine e_goto f_78_136 ?_
      exact e_ireturn f_78_141 rt_78 rfl hV
  · have hc := x_ccf_ge hc
    rw [if_neg hc] at hV
    refine e_iload f_78_36 rfl ?_
    refine e_iconst (c := 1) f_78_37 (by decide) ?_
    refine e_iadd f_78_38 ?_
    refine e_istore (L' := [.ref 8, .int a1, .int a2, .int a3, .int (a3 + 1), a5]) f_78_39 (Nat.le_of_ble_eq_true rfl) rfl ?_
    exact hV
set_option maxRecDepth 20000 in
theorem T_78_41 {xs : List Int32} {d : Nat} {S : x_M} {Q : Option Value → x_M → Prop} {a1 : Int32} {a2 : Int32} {a3 : Int32} {a4 : Int32} {a5 : Value}  (hV : if (S 12 5) ≤ a4 then (x_E xs (d + 1) 78 25 [.ref 8, .int a1, .int a2, .int (a3 + 1), .int a4, a5] [] S Q) else (x_E xs (d + 1) 78 59 [.ref 8, .int a1, .int a2, .int a3, .int a4, .int (a4 + 1)] [] S Q)) : x_E xs (d + 1) 78 41 [.ref 8, .int a1, .int a2, .int a3, .int a4, a5] [] S Q := by
  refine e_iload f_78_41 rfl ?_
  refine e_aload f_78_43 rfl (by decide) ?_
  refine e_gr (c := 5) (j := 2) (r := 12) f_78_44 (by decide) (by decide) (by decide) (by decide) ?_
  refine e_gf (c := 0) (j := 5) f_78_47 (by decide) (by decide) (by decide) ?_
  refine e_icmp f_78_50 (fun hc => ?_) (fun hc => ?_)
  · have hc := x_cct_ge hc
    rw [if_pos hc] at hV
    refine e_inc (c := 1) (L' := [.ref 8, .int a1, .int a2, .int (a3 + 1), .int a4, a5]) f_78_124 rfl (by decide) rfl ?_
    refine e_goto f_78_127 ?_
    exact hV
  · have hc := x_ccf_ge hc
    rw [if_neg hc] at hV
    refine e_iload f_78_53 rfl ?_
    refine e_iconst (c := 1) f_78_55 (by decide) ?_
    refine e_iadd f_78_56 ?_
    refine e_istore (L' := [.ref 8, .int a1, .int a2, .int a3, .int a4, .int (a4 + 1)]) f_78_57 (Nat.le_of_ble_eq_true rfl) rfl ?_
    exact hV
set_option maxRecDepth 20000 in
theorem T_78_59 {xs : List Int32} {d : Nat} {S : x_M} {Q : Option Value → x_M → Prop} {a1 : Int32} {a2 : Int32} {a3 : Int32} {a4 : Int32} {a5 : Int32}  (hV : if (S 12 5) ≤ a5 then (x_E xs (d + 1) 78 41 [.ref 8, .int a1, .int a2, .int a3, .int (a4 + 1), .int a5] [] S Q) else (∃ P1 : Int32 → x_M → Prop, x_Ci xs d 79 [.ref 12, .int a3, .int a4, .int a5] S P1 ∧ ∀ (v1 : Int32) (S1 : x_M), P1 v1 S1 → (if v1 = 0 then (x_E xs (d + 1) 78 59 [.ref 8, .int a1, .int a2, .int a3, .int a4, .int (a5 + 1)] [] S1 Q) else (if a2 = a1 then (Q (some (.int (((400 * a3) + (20 * a4)) + a5))) S1) else (x_E xs (d + 1) 78 59 [.ref 8, .int a1, .int (a2 + 1), .int a3, .int a4, .int (a5 + 1)] [] S1 Q))))) : x_E xs (d + 1) 78 59 [.ref 8, .int a1, .int a2, .int a3, .int a4, .int a5] [] S Q := by
  refine e_iload f_78_59 rfl ?_
  refine e_aload f_78_61 rfl (by decide) ?_
  refine e_gr (c := 5) (j := 2) (r := 12) f_78_62 (by decide) (by decide) (by decide) (by decide) ?_
  refine e_gf (c := 0) (j := 5) f_78_65 (by decide) (by decide) (by decide) ?_
  refine e_icmp f_78_68 (fun hc => ?_) (fun hc => ?_)
  · have hc := x_cct_ge hc
    rw [if_pos hc] at hV
    refine e_inc (c := 1) (L' := [.ref 8, .int a1, .int a2, .int a3, .int (a4 + 1), .int a5]) f_78_118 rfl (by decide) rfl ?_
    refine e_goto f_78_121 ?_
    exact hV
  · have hc := x_ccf_ge hc
    rw [if_neg hc] at hV
    refine e_aload f_78_71 rfl (by decide) ?_
    refine e_gr (c := 5) (j := 2) (r := 12) f_78_72 (by decide) (by decide) (by decide) (by decide) ?_
    refine e_iload f_78_75 rfl ?_
    refine e_iload f_78_76 rfl ?_
    refine e_iload f_78_78 rfl ?_
    obtain ⟨P1, hP1, hV⟩ := hV
    refine e_si (n := 4) (A := [.ref 12, .int a3, .int a4, .int a5]) (R := []) f_78_80 na_79 rfl rfl (Nat.le_of_ble_eq_true rfl) (Nat.le_of_ble_eq_true rfl) (by rw [ml_79]; exact Nat.le_of_ble_eq_true rfl) hP1 (fun v1 S1 hp1 => ?_)
    have hV := hV v1 S1 hp1
    refine e_if f_78_83 (fun hc => ?_) (fun hc => ?_)
    · have hc := x_cct_ne hc
      rw [if_neg hc] at hV
      refine e_iload f_78_89 rfl ?_
      refine e_iload f_78_90 rfl ?_
      refine e_icmp f_78_91 (fun hc => ?_) (fun hc => ?_)
      · have hc := x_cct_ne hc
        rw [if_neg hc] at hV
        refine e_inc (c := 1) (L' := [.ref 8, .int a1, .int (a2 + 1), .int a3, .int a4, .int a5]) f_78_109 rfl (by decide) rfl ?_
        refine e_inc (c := 1) (L' := [.ref 8, .int a1, .int (a2 + 1), .int a3, .int a4, .int (a5 + 1)]) f_78_112 rfl (by decide) rfl ?_
        refine e_goto f_78_115 ?_
        exact hV
      · have hc := x_ccf_ne hc
        rw [if_pos hc] at hV
        refine e_iconst (c := 400) f_78_94 (by decide) ?_
        refine e_iload f_78_97 rfl ?_
        refine e_imul f_78_98 ?_
        refine e_iconst (c := 20) f_78_99 (by decide) ?_
        refine e_iload f_78_101 rfl ?_
        refine e_imul f_78_103 ?_
        refine e_iadd f_78_104 ?_
        refine e_iload f_78_105 rfl ?_
        refine e_iadd f_78_107 ?_
        exact e_ireturn f_78_108 rt_78 rfl hV
    · have hc := x_ccf_ne hc
      rw [if_pos hc] at hV
      refine e_goto f_78_86 ?_
      refine e_inc (c := 1) (L' := [.ref 8, .int a1, .int a2, .int a3, .int a4, .int (a5 + 1)]) f_78_112 rfl (by decide) rfl ?_
      refine e_goto f_78_115 ?_
      exact hV
set_option maxRecDepth 20000 in
theorem T_79_0 {xs : List Int32} {d : Nat} {S : x_M} {Q : Option Value → x_M → Prop} {a0 : Nat} {a1 : Int32} {a2 : Int32} {a3 : Int32} (ha0 : x_tg a0 = 0) (hV : x_E xs (d + 1) 79 3 [.ref a0, .int a1, .int a2, .int a3, .int 0, .null, .null] [] S Q) : x_E xs (d + 1) 79 0 [.ref a0, .int a1, .int a2, .int a3, .null, .null, .null] [] S Q := by
  refine e_iconst (c := 0) f_79_0 (by decide) ?_
  refine e_istore (L' := [.ref a0, .int a1, .int a2, .int a3, .int 0, .null, .null]) f_79_1 (Nat.le_of_ble_eq_true rfl) rfl ?_
  exact hV
set_option maxRecDepth 20000 in
theorem T_79_3 {xs : List Int32} {d : Nat} {S : x_M} {Q : Option Value → x_M → Prop} {a0 : Nat} {a1 : Int32} {a2 : Int32} {a3 : Int32} {a4 : Int32} {a5 : Value} {a6 : Value} (ha0 : x_tg a0 = 0) (hV : if (8 : Int32) ≤ a4 then (Q (some (.int 0)) S) else (∃ P1 : Int32 → x_M → Prop, x_Ci xs d 8 [.ref a0, .int a1, .int 0] S P1 ∧ ∀ (v1 : Int32) (S1 : x_M), P1 v1 S1 → (∃ P2 : Int32 → x_M → Prop, x_Ci xs d 8 [.ref a0, .int a2, .int a4] S1 P2 ∧ ∀ (v2 : Int32) (S2 : x_M), P2 v2 S2 → (x_E xs (d + 1) 79 29 [.ref a0, .int a1, .int a2, .int a3, .int a4, .int (v1 &&& v2), .int 0] [] S2 Q)))) : x_E xs (d + 1) 79 3 [.ref a0, .int a1, .int a2, .int a3, .int a4, a5, a6] [] S Q := by
  refine e_iload f_79_3 rfl ?_
  refine e_iconst (c := 8) f_79_5 (by decide) ?_
  refine e_icmp f_79_7 (fun hc => ?_) (fun hc => ?_)
  · have hc := x_cct_ge hc
    rw [if_pos hc] at hV
    refine e_iconst (c := 0) f_79_63 (by decide) ?_
    exact e_ireturn f_79_64 rt_79 (by decide) hV
  · have hc := x_ccf_ge hc
    rw [if_neg hc] at hV
    refine e_aload f_79_10 rfl (x_n7 ha0 (by decide)) ?_
    refine e_iload f_79_11 rfl ?_
    refine e_iconst (c := 0) f_79_12 (by decide) ?_
    obtain ⟨P1, hP1, hV⟩ := hV
    refine e_vi (n := 3) (A := [.ref a0, .int a1, .int 0]) (R := []) f_79_13 na_8 rfl rfl (Nat.le_of_ble_eq_true rfl) (Nat.le_of_ble_eq_true rfl) (by rw [ml_8]; exact Nat.le_of_ble_eq_true rfl) rfl (by rw [cy_8]; decide) (by rw [cy_8]; exact ha0) hP1 (fun v1 S1 hp1 => ?_)
    have hV := hV v1 S1 hp1
    refine e_aload f_79_16 rfl (x_n7 ha0 (by decide)) ?_
    refine e_iload f_79_17 rfl ?_
    refine e_iload f_79_18 rfl ?_
    obtain ⟨P2, hP2, hV⟩ := hV
    refine e_vi (n := 3) (A := [.ref a0, .int a2, .int a4]) (R := [.int v1]) f_79_20 na_8 rfl rfl (Nat.le_of_ble_eq_true rfl) (Nat.le_of_ble_eq_true rfl) (by rw [ml_8]; exact Nat.le_of_ble_eq_true rfl) rfl (by rw [cy_8]; decide) (by rw [cy_8]; exact ha0) hP2 (fun v2 S2 hp2 => ?_)
    have hV := hV v2 S2 hp2
    refine e_iand f_79_23 ?_
    refine e_istore (L' := [.ref a0, .int a1, .int a2, .int a3, .int a4, .int (v1 &&& v2), a6]) f_79_24 (Nat.le_of_ble_eq_true rfl) rfl ?_
    refine e_iconst (c := 0) f_79_26 (by decide) ?_
    refine e_istore (L' := [.ref a0, .int a1, .int a2, .int a3, .int a4, .int (v1 &&& v2), .int 0]) f_79_27 (Nat.le_of_ble_eq_true rfl) rfl ?_
    exact hV
set_option maxRecDepth 20000 in
theorem T_79_29 {xs : List Int32} {d : Nat} {S : x_M} {Q : Option Value → x_M → Prop} {a0 : Nat} {a1 : Int32} {a2 : Int32} {a3 : Int32} {a4 : Int32} {a5 : Int32} {a6 : Int32} (ha0 : x_tg a0 = 0) (hV : if (8 : Int32) ≤ a6 then (x_E xs (d + 1) 79 3 [.ref a0, .int a1, .int a2, .int a3, .int (a4 + 1), .int a5, .int a6] [] S Q) else (∃ P1 : Int32 → x_M → Prop, x_Ci xs d 8 [.ref a0, .int a3, .int a6] S P1 ∧ ∀ (v1 : Int32) (S1 : x_M), P1 v1 S1 → (if (a5 &&& v1) = 0 then (Q (some (.int 1)) S1) else (x_E xs (d + 1) 79 29 [.ref a0, .int a1, .int a2, .int a3, .int a4, .int a5, .int (a6 + 1)] [] S1 Q)))) : x_E xs (d + 1) 79 29 [.ref a0, .int a1, .int a2, .int a3, .int a4, .int a5, .int a6] [] S Q := by
  refine e_iload f_79_29 rfl ?_
  refine e_iconst (c := 8) f_79_31 (by decide) ?_
  refine e_icmp f_79_33 (fun hc => ?_) (fun hc => ?_)
  · have hc := x_cct_ge hc
    rw [if_pos hc] at hV
    refine e_inc (c := 1) (L' := [.ref a0, .int a1, .int a2, .int a3, .int (a4 + 1), .int a5, .int a6]) f_79_57 rfl (by decide) rfl ?_
    refine e_goto f_79_60 ?_
    exact hV
  · have hc := x_ccf_ge hc
    rw [if_neg hc] at hV
    refine e_iload f_79_36 rfl ?_
    refine e_aload f_79_38 rfl (x_n7 ha0 (by decide)) ?_
    refine e_iload f_79_39 rfl ?_
    refine e_iload f_79_40 rfl ?_
    obtain ⟨P1, hP1, hV⟩ := hV
    refine e_vi (n := 3) (A := [.ref a0, .int a3, .int a6]) (R := [.int a5]) f_79_42 na_8 rfl rfl (Nat.le_of_ble_eq_true rfl) (Nat.le_of_ble_eq_true rfl) (by rw [ml_8]; exact Nat.le_of_ble_eq_true rfl) rfl (by rw [cy_8]; decide) (by rw [cy_8]; exact ha0) hP1 (fun v1 S1 hp1 => ?_)
    have hV := hV v1 S1 hp1
    refine e_iand f_79_45 ?_
    refine e_if f_79_46 (fun hc => ?_) (fun hc => ?_)
    · have hc := x_cct_ne hc
      rw [if_neg hc] at hV
      refine e_inc (c := 1) (L' := [.ref a0, .int a1, .int a2, .int a3, .int a4, .int a5, .int (a6 + 1)]) f_79_51 rfl (by decide) rfl ?_
      refine e_goto f_79_54 ?_
      exact hV
    · have hc := x_ccf_ne hc
      rw [if_pos hc] at hV
      refine e_iconst (c := 1) f_79_49 (by decide) ?_
      exact e_ireturn f_79_50 rt_79 (by decide) hV
set_option maxRecDepth 20000 in
theorem T_80_0 {xs : List Int32} {d : Nat} {S : x_M} {Q : Option Value → x_M → Prop} {a1 : Int32} {a2 : Int32}  (hV : ∃ P1 : Int32 → x_M → Prop, x_Ci xs d 60 [.ref 8, .int a1] S P1 ∧ ∀ (v1 : Int32) (S1 : x_M), P1 v1 S1 → (if v1 = 0 then (Q (some (.int (-1000001))) S1) else (if a2 < 0 then (Q (some (.int (-1000001))) S1) else (if a2 ≤ 1 then (if a2 = 0 then (∃ P3 : Int32 → x_M → Prop, x_Ci xs d 81 [.ref 12, .int a1] S1 P3 ∧ ∀ (v3 : Int32) (S3 : x_M), P3 v3 S3 → (Q (some (.int v3)) S3)) else (∃ P2 : Int32 → x_M → Prop, x_Ci xs d 15 [.ref 12, .int a1] S1 P2 ∧ ∀ (v2 : Int32) (S2 : x_M), P2 v2 S2 → (Q (some (.int v2)) S2))) else (Q (some (.int (-1000001))) S1))))) : x_E xs (d + 1) 80 0 [.ref 8, .int a1, .int a2] [] S Q := by
  refine e_aload f_80_0 rfl (by decide) ?_
  refine e_iload f_80_1 rfl ?_
  obtain ⟨P1, hP1, hV⟩ := hV
  refine e_vi (n := 2) (A := [.ref 8, .int a1]) (R := []) f_80_2 na_60 rfl rfl (Nat.le_of_ble_eq_true rfl) (Nat.le_of_ble_eq_true rfl) (by rw [ml_60]; exact Nat.le_of_ble_eq_true rfl) rfl (by rw [cy_60]; decide) (by rw [cy_60]; exact (by decide : x_tg 8 = 5)) hP1 (fun v1 S1 hp1 => ?_)
  have hV := hV v1 S1 hp1
  refine e_if f_80_5 (fun hc => ?_) (fun hc => ?_)
  · have hc := x_cct_eq hc
    rw [if_pos hc] at hV
    refine e_iconst (c := (-1000001)) f_80_17 (by decide) ?_
    exact e_ireturn f_80_19 rt_80 rfl hV
  · have hc := x_ccf_eq hc
    rw [if_neg hc] at hV
    refine e_iload f_80_8 rfl ?_
    refine e_if f_80_9 (fun hc => ?_) (fun hc => ?_)
    · have hc := x_cct_lt hc
      rw [if_pos hc] at hV
      refine e_iconst (c := (-1000001)) f_80_17 (by decide) ?_
      exact e_ireturn f_80_19 rt_80 rfl hV
    · have hc := x_ccf_lt hc
      rw [if_neg hc] at hV
      refine e_iload f_80_12 rfl ?_
      refine e_iconst (c := 1) f_80_13 (by decide) ?_
      refine e_icmp f_80_14 (fun hc => ?_) (fun hc => ?_)
      · have hc := x_cct_le hc
        rw [if_pos hc] at hV
        refine e_iload f_80_20 rfl ?_
        refine e_if f_80_21 (fun hc => ?_) (fun hc => ?_)
        · have hc := x_cct_ne hc
          rw [if_neg hc] at hV
          refine e_aload f_80_35 rfl (by decide) ?_
          refine e_gr (c := 5) (j := 2) (r := 12) f_80_36 (by decide) (by decide) (by decide) (by decide) ?_
          refine e_iload f_80_39 rfl ?_
          obtain ⟨P2, hP2, hV⟩ := hV
          refine e_vi (n := 2) (A := [.ref 12, .int a1]) (R := []) f_80_40 na_15 rfl rfl (Nat.le_of_ble_eq_true rfl) (Nat.le_of_ble_eq_true rfl) (by rw [ml_15]; exact Nat.le_of_ble_eq_true rfl) rfl (by rw [cy_15]; decide) (by rw [cy_15]; exact (by decide : x_tg 12 = 0)) hP2 (fun v2 S2 hp2 => ?_)
          have hV := hV v2 S2 hp2
          exact e_ireturn f_80_43 rt_80 rfl hV
        · have hc := x_ccf_ne hc
          rw [if_pos hc] at hV
          refine e_aload f_80_24 rfl (by decide) ?_
          refine e_gr (c := 5) (j := 2) (r := 12) f_80_25 (by decide) (by decide) (by decide) (by decide) ?_
          refine e_iload f_80_28 rfl ?_
          obtain ⟨P3, hP3, hV⟩ := hV
          refine e_si (n := 2) (A := [.ref 12, .int a1]) (R := []) f_80_29 na_81 rfl rfl (Nat.le_of_ble_eq_true rfl) (Nat.le_of_ble_eq_true rfl) (by rw [ml_81]; exact Nat.le_of_ble_eq_true rfl) hP3 (fun v3 S3 hp3 => ?_)
          have hV := hV v3 S3 hp3
          refine e_goto f_80_32 ?_
          exact e_ireturn f_80_43 rt_80 rfl hV
      · have hc := x_ccf_le hc
        rw [if_neg hc] at hV
        refine e_iconst (c := (-1000001)) f_80_17 (by decide) ?_
        exact e_ireturn f_80_19 rt_80 rfl hV
set_option maxRecDepth 20000 in
theorem T_81_0 {xs : List Int32} {d : Nat} {S : x_M} {Q : Option Value → x_M → Prop} {a0 : Nat} {a1 : Int32} (ha0 : x_tg a0 = 0) (hV : ∃ P1 : Int32 → x_M → Prop, x_Ci xs d 82 [.ref a0, .int a1] S P1 ∧ ∀ (v1 : Int32) (S1 : x_M), P1 v1 S1 → (x_E xs (d + 1) 81 11 [.ref a0, .int a1, .int v1, .int 0, .int 0] [] S1 Q)) : x_E xs (d + 1) 81 0 [.ref a0, .int a1, .null, .null, .null] [] S Q := by
  refine e_aload f_81_0 rfl (x_n7 ha0 (by decide)) ?_
  refine e_iload f_81_1 rfl ?_
  obtain ⟨P1, hP1, hV⟩ := hV
  refine e_si (n := 2) (A := [.ref a0, .int a1]) (R := []) f_81_2 na_82 rfl rfl (Nat.le_of_ble_eq_true rfl) (Nat.le_of_ble_eq_true rfl) (by rw [ml_82]; exact Nat.le_of_ble_eq_true rfl) hP1 (fun v1 S1 hp1 => ?_)
  have hV := hV v1 S1 hp1
  refine e_istore (L' := [.ref a0, .int a1, .int v1, .null, .null]) f_81_5 (Nat.le_of_ble_eq_true rfl) rfl ?_
  refine e_iconst (c := 0) f_81_6 (by decide) ?_
  refine e_istore (L' := [.ref a0, .int a1, .int v1, .int 0, .null]) f_81_7 (Nat.le_of_ble_eq_true rfl) rfl ?_
  refine e_iconst (c := 0) f_81_8 (by decide) ?_
  refine e_istore (L' := [.ref a0, .int a1, .int v1, .int 0, .int 0]) f_81_9 (Nat.le_of_ble_eq_true rfl) rfl ?_
  exact hV
set_option maxRecDepth 20000 in
theorem T_81_11 {xs : List Int32} {d : Nat} {S : x_M} {Q : Option Value → x_M → Prop} {a0 : Nat} {a1 : Int32} {a2 : Int32} {a3 : Int32} {a4 : Int32} (ha0 : x_tg a0 = 0) (hV : if a2 ≤ a4 then (Q (some (.int a3)) S) else (∃ P1 : Int32 → x_M → Prop, x_Ci xs d 82 [.ref a0, .int a4] S P1 ∧ ∀ (v1 : Int32) (S1 : x_M), P1 v1 S1 → (if v1 = a4 then (x_E xs (d + 1) 81 11 [.ref a0, .int a1, .int a2, .int (a3 + 1), .int (a4 + 1)] [] S1 Q) else (x_E xs (d + 1) 81 11 [.ref a0, .int a1, .int a2, .int a3, .int (a4 + 1)] [] S1 Q)))) : x_E xs (d + 1) 81 11 [.ref a0, .int a1, .int a2, .int a3, .int a4] [] S Q := by
  refine e_iload f_81_11 rfl ?_
  refine e_iload f_81_13 rfl ?_
  refine e_icmp f_81_14 (fun hc => ?_) (fun hc => ?_)
  · have hc := x_cct_ge hc
    rw [if_pos hc] at hV
    refine e_iload f_81_37 rfl ?_
    exact e_ireturn f_81_38 rt_81 rfl hV
  · have hc := x_ccf_ge hc
    rw [if_neg hc] at hV
    refine e_aload f_81_17 rfl (x_n7 ha0 (by decide)) ?_
    refine e_iload f_81_18 rfl ?_
    obtain ⟨P1, hP1, hV⟩ := hV
    refine e_si (n := 2) (A := [.ref a0, .int a4]) (R := []) f_81_20 na_82 rfl rfl (Nat.le_of_ble_eq_true rfl) (Nat.le_of_ble_eq_true rfl) (by rw [ml_82]; exact Nat.le_of_ble_eq_true rfl) hP1 (fun v1 S1 hp1 => ?_)
    have hV := hV v1 S1 hp1
    refine e_iload f_81_23 rfl ?_
    refine e_icmp f_81_25 (fun hc => ?_) (fun hc => ?_)
    · have hc := x_cct_ne hc
      rw [if_neg hc] at hV
      refine e_inc (c := 1) (L' := [.ref a0, .int a1, .int a2, .int a3, .int (a4 + 1)]) f_81_31 rfl (by decide) rfl ?_
      refine e_goto f_81_34 ?_
      exact hV
    · have hc := x_ccf_ne hc
      rw [if_pos hc] at hV
      refine e_inc (c := 1) (L' := [.ref a0, .int a1, .int a2, .int (a3 + 1), .int a4]) f_81_28 rfl (by decide) rfl ?_
      refine e_inc (c := 1) (L' := [.ref a0, .int a1, .int a2, .int (a3 + 1), .int (a4 + 1)]) f_81_31 rfl (by decide) rfl ?_
      refine e_goto f_81_34 ?_
      exact hV
set_option maxRecDepth 20000 in
theorem T_82_0 {xs : List Int32} {d : Nat} {S : x_M} {Q : Option Value → x_M → Prop} {a0 : Nat} {a1 : Int32} (ha0 : x_tg a0 = 0) (hV : x_E xs (d + 1) 82 2 [.ref a0, .int a1, .int 0, .null] [] S Q) : x_E xs (d + 1) 82 0 [.ref a0, .int a1, .null, .null] [] S Q := by
  refine e_iconst (c := 0) f_82_0 (by decide) ?_
  refine e_istore (L' := [.ref a0, .int a1, .int 0, .null]) f_82_1 (Nat.le_of_ble_eq_true rfl) rfl ?_
  exact hV
set_option maxRecDepth 20000 in
theorem T_82_2 {xs : List Int32} {d : Nat} {S : x_M} {Q : Option Value → x_M → Prop} {a0 : Nat} {a1 : Int32} {a2 : Int32} {a3 : Value} (ha0 : x_tg a0 = 0) (hV : if a1 ≤ a2 then (Q (some (.int a1)) S) else (x_E xs (d + 1) 82 9 [.ref a0, .int a1, .int a2, .int 0] [] S Q)) : x_E xs (d + 1) 82 2 [.ref a0, .int a1, .int a2, a3] [] S Q := by
  refine e_iload f_82_2 rfl ?_
  refine e_iload f_82_3 rfl ?_
  refine e_icmp f_82_4 (fun hc => ?_) (fun hc => ?_)
  · have hc := x_cct_ge hc
    rw [if_pos hc] at hV
    refine e_iload f_82_44 rfl ?_
    exact e_ireturn f_82_45 rt_82 rfl hV
  · have hc := x_ccf_ge hc
    rw [if_neg hc] at hV
    refine e_iconst (c := 0) f_82_7 (by decide) ?_
    refine e_istore (L' := [.ref a0, .int a1, .int a2, .int 0]) f_82_8 (Nat.le_of_ble_eq_true rfl) rfl ?_
    exact hV
set_option maxRecDepth 20000 in
theorem T_82_9 {xs : List Int32} {d : Nat} {S : x_M} {Q : Option Value → x_M → Prop} {a0 : Nat} {a1 : Int32} {a2 : Int32} {a3 : Int32} (ha0 : x_tg a0 = 0) (hV : if (8 : Int32) ≤ a3 then (x_E xs (d + 1) 82 2 [.ref a0, .int a1, .int (a2 + 1), .int a3] [] S Q) else (∃ P1 : Int32 → x_M → Prop, x_Ci xs d 8 [.ref a0, .int a2, .int a3] S P1 ∧ ∀ (v1 : Int32) (S1 : x_M), P1 v1 S1 → (∃ P2 : Int32 → x_M → Prop, x_Ci xs d 8 [.ref a0, .int a1, .int 0] S1 P2 ∧ ∀ (v2 : Int32) (S2 : x_M), P2 v2 S2 → (if v1 = v2 then (Q (some (.int a2)) S2) else (x_E xs (d + 1) 82 9 [.ref a0, .int a1, .int a2, .int (a3 + 1)] [] S2 Q))))) : x_E xs (d + 1) 82 9 [.ref a0, .int a1, .int a2, .int a3] [] S Q := by
  refine e_iload f_82_9 rfl ?_
  refine e_iconst (c := 8) f_82_10 (by decide) ?_
  refine e_icmp f_82_12 (fun hc => ?_) (fun hc => ?_)
  · have hc := x_cct_ge hc
    rw [if_pos hc] at hV
    refine e_inc (c := 1) (L' := [.ref a0, .int a1, .int (a2 + 1), .int a3]) f_82_38 rfl (by decide) rfl ?_
    refine e_goto f_82_41 ?_
    exact hV
  · have hc := x_ccf_ge hc
    rw [if_neg hc] at hV
    refine e_aload f_82_15 rfl (x_n7 ha0 (by decide)) ?_
    refine e_iload f_82_16 rfl ?_
    refine e_iload f_82_17 rfl ?_
    obtain ⟨P1, hP1, hV⟩ := hV
    refine e_vi (n := 3) (A := [.ref a0, .int a2, .int a3]) (R := []) f_82_18 na_8 rfl rfl (Nat.le_of_ble_eq_true rfl) (Nat.le_of_ble_eq_true rfl) (by rw [ml_8]; exact Nat.le_of_ble_eq_true rfl) rfl (by rw [cy_8]; decide) (by rw [cy_8]; exact ha0) hP1 (fun v1 S1 hp1 => ?_)
    have hV := hV v1 S1 hp1
    refine e_aload f_82_21 rfl (x_n7 ha0 (by decide)) ?_
    refine e_iload f_82_22 rfl ?_
    refine e_iconst (c := 0) f_82_23 (by decide) ?_
    obtain ⟨P2, hP2, hV⟩ := hV
    refine e_vi (n := 3) (A := [.ref a0, .int a1, .int 0]) (R := [.int v1]) f_82_24 na_8 rfl rfl (Nat.le_of_ble_eq_true rfl) (Nat.le_of_ble_eq_true rfl) (by rw [ml_8]; exact Nat.le_of_ble_eq_true rfl) rfl (by rw [cy_8]; decide) (by rw [cy_8]; exact ha0) hP2 (fun v2 S2 hp2 => ?_)
    have hV := hV v2 S2 hp2
    refine e_icmp f_82_27 (fun hc => ?_) (fun hc => ?_)
    · have hc := x_cct_ne hc
      rw [if_neg hc] at hV
      refine e_inc (c := 1) (L' := [.ref a0, .int a1, .int a2, .int (a3 + 1)]) f_82_32 rfl (by decide) rfl ?_
      refine e_goto f_82_35 ?_
      exact hV
    · have hc := x_ccf_ne hc
      rw [if_pos hc] at hV
      refine e_iload f_82_30 rfl ?_
      exact e_ireturn f_82_31 rt_82 rfl hV
set_option maxRecDepth 20000 in
theorem T_83_0 {xs : List Int32} {d : Nat} {S : x_M} {Q : Option Value → x_M → Prop} {a1 : Int32} {a2 : Int32} {a3 : Int32}  (hV : if (S 12 4) = 0 then (Q (some (.int (-1000002))) S) else (∃ P1 : Int32 → x_M → Prop, x_Ci xs d 62 [.int a1] S P1 ∧ ∀ (v1 : Int32) (S1 : x_M), P1 v1 S1 → (if v1 = 0 then (Q (some (.int (-1000001))) S1) else (∃ P2 : Int32 → x_M → Prop, x_Ci xs d 62 [.int a2] S1 P2 ∧ ∀ (v2 : Int32) (S2 : x_M), P2 v2 S2 → (if v2 = 0 then (Q (some (.int (-1000001))) S2) else (if a3 = (-1) then (if a3 = (-1) then (x_E xs (d + 1) 83 65 [.ref 8, .int a1, .int a2, .int a3, .int 0, .int 0] [] S2 Q) else (∃ P3 : Int32 → x_M → Prop, x_Ci xs d 84 [.ref 12, .int a1, .int a2, .int a3] S2 P3 ∧ ∀ (v3 : Int32) (S3 : x_M), P3 v3 S3 → (Q (some (.int v3)) S3))) else (∃ P4 : Int32 → x_M → Prop, x_Ci xs d 60 [.ref 8, .int a3] S2 P4 ∧ ∀ (v4 : Int32) (S4 : x_M), P4 v4 S4 → (if v4 = 0 then (Q (some (.int (-1000001))) S4) else (if a3 = (-1) then (x_E xs (d + 1) 83 65 [.ref 8, .int a1, .int a2, .int a3, .int 0, .int 0] [] S4 Q) else (∃ P5 : Int32 → x_M → Prop, x_Ci xs d 84 [.ref 12, .int a1, .int a2, .int a3] S4 P5 ∧ ∀ (v5 : Int32) (S5 : x_M), P5 v5 S5 → (Q (some (.int v5)) S5))))))))))) : x_E xs (d + 1) 83 0 [.ref 8, .int a1, .int a2, .int a3, .null, .null] [] S Q := by
  refine e_aload f_83_0 rfl (by decide) ?_
  refine e_gr (c := 5) (j := 2) (r := 12) f_83_1 (by decide) (by decide) (by decide) (by decide) ?_
  refine e_gf (c := 0) (j := 4) f_83_4 (by decide) (by decide) (by decide) ?_
  refine e_if f_83_7 (fun hc => ?_) (fun hc => ?_)
  · have hc := x_cct_ne hc
    rw [if_neg hc] at hV
    refine e_iload f_83_13 rfl ?_
    obtain ⟨P1, hP1, hV⟩ := hV
    refine e_si (n := 1) (A := [.int a1]) (R := []) f_83_14 na_62 rfl rfl (Nat.le_of_ble_eq_true rfl) (Nat.le_of_ble_eq_true rfl) (by rw [ml_62]; exact Nat.le_of_ble_eq_true rfl) hP1 (fun v1 S1 hp1 => ?_)
    have hV := hV v1 S1 hp1
    refine e_if f_83_17 (fun hc => ?_) (fun hc => ?_)
    · have hc := x_cct_eq hc
      rw [if_pos hc] at hV
      refine e_iconst (c := (-1000001)) f_83_40 (by decide) ?_
      exact e_ireturn f_83_42 rt_83 rfl hV
    · have hc := x_ccf_eq hc
      rw [if_neg hc] at hV
      refine e_iload f_83_20 rfl ?_
      obtain ⟨P2, hP2, hV⟩ := hV
      refine e_si (n := 1) (A := [.int a2]) (R := []) f_83_21 na_62 rfl rfl (Nat.le_of_ble_eq_true rfl) (Nat.le_of_ble_eq_true rfl) (by rw [ml_62]; exact Nat.le_of_ble_eq_true rfl) hP2 (fun v2 S2 hp2 => ?_)
      have hV := hV v2 S2 hp2
      refine e_if f_83_24 (fun hc => ?_) (fun hc => ?_)
      · have hc := x_cct_eq hc
        rw [if_pos hc] at hV
        refine e_iconst (c := (-1000001)) f_83_40 (by decide) ?_
        exact e_ireturn f_83_42 rt_83 rfl hV
      · have hc := x_ccf_eq hc
        rw [if_neg hc] at hV
        refine e_iload f_83_27 rfl ?_
        refine e_iconst (c := (-1)) f_83_28 (by decide) ?_
        refine e_icmp f_83_29 (fun hc => ?_) (fun hc => ?_)
        · have hc := x_cct_eq hc
          rw [if_pos hc] at hV
          refine e_iload f_83_43 rfl ?_
          refine e_iconst (c := (-1)) f_83_44 (by decide) ?_
          refine e_icmp f_83_45 (fun hc => ?_) (fun hc => ?_)
          · have hc := x_cct_eq hc
            rw [if_pos hc] at hV
            refine e_iconst (c := 0) f_83_59 (by decide) ?_
            refine e_istore (L' := [.ref 8, .int a1, .int a2, .int a3, .int 0, .null]) f_83_60 (Nat.le_of_ble_eq_true rfl) rfl ?_
            refine e_iconst (c := 0) f_83_62 (by decide) ?_
            refine e_istore (L' := [.ref 8, .int a1, .int a2, .int a3, .int 0, .int 0]) f_83_63 (Nat.le_of_ble_eq_true rfl) rfl ?_
            exact hV
          · have hc := x_ccf_eq hc
            rw [if_neg hc] at hV
            refine e_aload f_83_48 rfl (by decide) ?_
            refine e_gr (c := 5) (j := 2) (r := 12) f_83_49 (by decide) (by decide) (by decide) (by decide) ?_
            refine e_iload f_83_52 rfl ?_
            refine e_iload f_83_53 rfl ?_
            refine e_iload f_83_54 rfl ?_
            obtain ⟨P3, hP3, hV⟩ := hV
            refine e_si (n := 4) (A := [.ref 12, .int a1, .int a2, .int a3]) (R := []) f_83_55 na_84 rfl rfl (Nat.le_of_ble_eq_true rfl) (Nat.le_of_ble_eq_true rfl) (by rw [ml_84]; exact Nat.le_of_ble_eq_true rfl) hP3 (fun v3 S3 hp3 => ?_)
            have hV := hV v3 S3 hp3
            exact e_ireturn f_83_58 rt_83 rfl hV
        · have hc := x_ccf_eq hc
          rw [if_neg hc] at hV
          refine e_aload f_83_32 rfl (by decide) ?_
          refine e_iload f_83_33 rfl ?_
          obtain ⟨P4, hP4, hV⟩ := hV
          refine e_vi (n := 2) (A := [.ref 8, .int a3]) (R := []) f_83_34 na_60 rfl rfl (Nat.le_of_ble_eq_true rfl) (Nat.le_of_ble_eq_true rfl) (by rw [ml_60]; exact Nat.le_of_ble_eq_true rfl) rfl (by rw [cy_60]; decide) (by rw [cy_60]; exact (by decide : x_tg 8 = 5)) hP4 (fun v4 S4 hp4 => ?_)
          have hV := hV v4 S4 hp4
          refine e_if f_83_37 (fun hc => ?_) (fun hc => ?_)
          · have hc := x_cct_ne hc
            rw [if_neg hc] at hV
            refine e_iload f_83_43 rfl ?_
            refine e_iconst (c := (-1)) f_83_44 (by decide) ?_
            refine e_icmp f_83_45 (fun hc => ?_) (fun hc => ?_)
            · have hc := x_cct_eq hc
              rw [if_pos hc] at hV
              refine e_iconst (c := 0) f_83_59 (by decide) ?_
              refine e_istore (L' := [.ref 8, .int a1, .int a2, .int a3, .int 0, .null]) f_83_60 (Nat.le_of_ble_eq_true rfl) rfl ?_
              refine e_iconst (c := 0) f_83_62 (by decide) ?_
              refine e_istore (L' := [.ref 8, .int a1, .int a2, .int a3, .int 0, .int 0]) f_83_63 (Nat.le_of_ble_eq_true rfl) rfl ?_
              exact hV
            · have hc := x_ccf_eq hc
              rw [if_neg hc] at hV
              refine e_aload f_83_48 rfl (by decide) ?_
              refine e_gr (c := 5) (j := 2) (r := 12) f_83_49 (by decide) (by decide) (by decide) (by decide) ?_
              refine e_iload f_83_52 rfl ?_
              refine e_iload f_83_53 rfl ?_
              refine e_iload f_83_54 rfl ?_
              obtain ⟨P5, hP5, hV⟩ := hV
              refine e_si (n := 4) (A := [.ref 12, .int a1, .int a2, .int a3]) (R := []) f_83_55 na_84 rfl rfl (Nat.le_of_ble_eq_true rfl) (Nat.le_of_ble_eq_true rfl) (by rw [ml_84]; exact Nat.le_of_ble_eq_true rfl) hP5 (fun v5 S5 hp5 => ?_)
              have hV := hV v5 S5 hp5
              exact e_ireturn f_83_58 rt_83 rfl hV
          · have hc := x_ccf_ne hc
            rw [if_pos hc] at hV
            refine e_iconst (c := (-1000001)) f_83_40 (by decide) ?_
            exact e_ireturn f_83_42 rt_83 rfl hV
  · have hc := x_ccf_ne hc
    rw [if_pos hc] at hV
    refine e_iconst (c := (-1000002)) f_83_10 (by decide) ?_
    exact e_ireturn f_83_12 rt_83 rfl hV
set_option maxRecDepth 20000 in
theorem T_83_65 {xs : List Int32} {d : Nat} {S : x_M} {Q : Option Value → x_M → Prop} {a1 : Int32} {a2 : Int32} {a3 : Int32} {a4 : Int32} {a5 : Int32}  (hV : if (S 12 5) ≤ a5 then (Q (some (.int a4)) S) else (∃ P1 : Int32 → x_M → Prop, x_Ci xs d 84 [.ref 12, .int a1, .int a2, .int a5] S P1 ∧ ∀ (v1 : Int32) (S1 : x_M), P1 v1 S1 → (if v1 = (-1000000) then (x_E xs (d + 1) 83 65 [.ref 8, .int a1, .int a2, .int a3, .int a4, .int (a5 + 1)] [] S1 Q) else (x_E xs (d + 1) 83 65 [.ref 8, .int a1, .int a2, .int a3, .int (a4 ||| (1 <<< (a5 &&& 31))), .int (a5 + 1)] [] S1 Q)))) : x_E xs (d + 1) 83 65 [.ref 8, .int a1, .int a2, .int a3, .int a4, .int a5] [] S Q := by
  refine e_iload f_83_65 rfl ?_
  refine e_aload f_83_67 rfl (by decide) ?_
  refine e_gr (c := 5) (j := 2) (r := 12) f_83_68 (by decide) (by decide) (by decide) (by decide) ?_
  refine e_gf (c := 0) (j := 5) f_83_71 (by decide) (by decide) (by decide) ?_
  refine e_icmp f_83_74 (fun hc => ?_) (fun hc => ?_)
  · have hc := x_cct_ge hc
    rw [if_pos hc] at hV
    refine e_iload f_83_108 rfl ?_
    exact e_ireturn f_83_110 rt_83 rfl hV
  · have hc := x_ccf_ge hc
    rw [if_neg hc] at hV
    refine e_aload f_83_77 rfl (by decide) ?_
    refine e_gr (c := 5) (j := 2) (r := 12) f_83_78 (by decide) (by decide) (by decide) (by decide) ?_
    refine e_iload f_83_81 rfl ?_
    refine e_iload f_83_82 rfl ?_
    refine e_iload f_83_83 rfl ?_
    obtain ⟨P1, hP1, hV⟩ := hV
    refine e_si (n := 4) (A := [.ref 12, .int a1, .int a2, .int a5]) (R := []) f_83_85 na_84 rfl rfl (Nat.le_of_ble_eq_true rfl) (Nat.le_of_ble_eq_true rfl) (by rw [ml_84]; exact Nat.le_of_ble_eq_true rfl) hP1 (fun v1 S1 hp1 => ?_)
    have hV := hV v1 S1 hp1
    refine e_iconst (c := (-1000000)) f_83_88 (by decide) ?_
    refine e_icmp f_83_90 (fun hc => ?_) (fun hc => ?_)
    · have hc := x_cct_eq hc
      rw [if_pos hc] at hV
      refine e_inc (c := 1) (L' := [.ref 8, .int a1, .int a2, .int a3, .int a4, .int (a5 + 1)]) f_83_102 rfl (by decide) rfl ?_
      refine e_goto f_83_105 ?_
      exact hV
    · have hc := x_ccf_eq hc
      rw [if_neg hc] at hV
      refine e_iload f_83_93 rfl ?_
      refine e_iconst (c := 1) f_83_95 (by decide) ?_
      refine e_iload f_83_96 rfl ?_
      refine e_ishl f_83_98 ?_
      refine e_ior f_83_99 ?_
      refine e_istore (L' := [.ref 8, .int a1, .int a2, .int a3, .int (a4 ||| (1 <<< (a5 &&& 31))), .int a5]) f_83_100 (Nat.le_of_ble_eq_true rfl) rfl ?_
      refine e_inc (c := 1) (L' := [.ref 8, .int a1, .int a2, .int a3, .int (a4 ||| (1 <<< (a5 &&& 31))), .int (a5 + 1)]) f_83_102 rfl (by decide) rfl ?_
      refine e_goto f_83_105 ?_
      exact hV
set_option maxRecDepth 20000 in
theorem T_84_0 {xs : List Int32} {d : Nat} {S : x_M} {Q : Option Value → x_M → Prop} {a0 : Nat} {a1 : Int32} {a2 : Int32} {a3 : Int32} (ha0 : x_tg a0 = 0) (hV : x_E xs (d + 1) 84 3 [.ref a0, .int a1, .int a2, .int a3, .int 0] [] S Q) : x_E xs (d + 1) 84 0 [.ref a0, .int a1, .int a2, .int a3, .null] [] S Q := by
  refine e_iconst (c := 0) f_84_0 (by decide) ?_
  refine e_istore (L' := [.ref a0, .int a1, .int a2, .int a3, .int 0]) f_84_1 (Nat.le_of_ble_eq_true rfl) rfl ?_
  exact hV
set_option maxRecDepth 20000 in
theorem T_84_3 {xs : List Int32} {d : Nat} {S : x_M} {Q : Option Value → x_M → Prop} {a0 : Nat} {a1 : Int32} {a2 : Int32} {a3 : Int32} {a4 : Int32} (ha0 : x_tg a0 = 0) (hV : if (8 : Int32) ≤ a4 then (Q (some (.int (-1000000))) S) else (∃ P1 : Int32 → x_M → Prop, x_Ci xs d 8 [.ref a0, .int a3, .int a4] S P1 ∧ ∀ (v1 : Int32) (S1 : x_M), P1 v1 S1 → (if (a1 &&& v1) = a2 then (Q (some (.int a4)) S1) else (x_E xs (d + 1) 84 3 [.ref a0, .int a1, .int a2, .int a3, .int (a4 + 1)] [] S1 Q)))) : x_E xs (d + 1) 84 3 [.ref a0, .int a1, .int a2, .int a3, .int a4] [] S Q := by
  refine e_iload f_84_3 rfl ?_
  refine e_iconst (c := 8) f_84_5 (by decide) ?_
  refine e_icmp f_84_7 (fun hc => ?_) (fun hc => ?_)
  · have hc := x_cct_ge hc
    rw [if_pos hc] at hV
    refine e_iconst (c := (-1000000)) f_84_32 (by decide) ?_
    exact e_ireturn f_84_34 rt_84 rfl hV
  · have hc := x_ccf_ge hc
    rw [if_neg hc] at hV
    refine e_iload f_84_10 rfl ?_
    refine e_aload f_84_11 rfl (x_n7 ha0 (by decide)) ?_
    refine e_iload f_84_12 rfl ?_
    refine e_iload f_84_13 rfl ?_
    obtain ⟨P1, hP1, hV⟩ := hV
    refine e_vi (n := 3) (A := [.ref a0, .int a3, .int a4]) (R := [.int a1]) f_84_15 na_8 rfl rfl (Nat.le_of_ble_eq_true rfl) (Nat.le_of_ble_eq_true rfl) (by rw [ml_8]; exact Nat.le_of_ble_eq_true rfl) rfl (by rw [cy_8]; decide) (by rw [cy_8]; exact ha0) hP1 (fun v1 S1 hp1 => ?_)
    have hV := hV v1 S1 hp1
    refine e_iand f_84_18 ?_
    refine e_iload f_84_19 rfl ?_
    refine e_icmp f_84_20 (fun hc => ?_) (fun hc => ?_)
    · have hc := x_cct_ne hc
      rw [if_neg hc] at hV
      refine e_inc (c := 1) (L' := [.ref a0, .int a1, .int a2, .int a3, .int (a4 + 1)]) f_84_26 rfl (by decide) rfl ?_
      refine e_goto f_84_29 ?_
      exact hV
    · have hc := x_ccf_ne hc
      rw [if_pos hc] at hV
      refine e_iload f_84_23 rfl ?_
      exact e_ireturn f_84_25 rt_84 rfl hV
set_option maxRecDepth 20000 in
theorem T_85_0 {xs : List Int32} {d : Nat} {S : x_M} {Q : Option Value → x_M → Prop} {a1 : Int32}  (hV : if a1 < 0 then (Q (some (.int (-1000001))) S) else (if a1 < 2 then (if (S 12 4) = 0 then (Q (some (.int (-1000002))) S) else ((x_ib a1 2) ∧ (∃ P2 : x_M → Prop, x_Cv xs d 7 [.ref (x_rr 22 (Int32.toNatClampNeg a1)), .ref 12] S P2 ∧ ∀ (S2 : x_M), P2 S2 → (Q (some (.int 1)) S2)))) else (Q (some (.int (-1000001))) S))) : x_E xs (d + 1) 85 0 [.ref 8, .int a1] [] S Q := by
  refine e_iload f_85_0 rfl ?_
  refine e_if f_85_1 (fun hc => ?_) (fun hc => ?_)
  · have hc := x_cct_lt hc
    rw [if_pos hc] at hV
    refine e_iconst (c := (-1000001)) f_85_9 (by decide) ?_
    exact e_ireturn f_85_11 rt_85 rfl hV
  · have hc := x_ccf_lt hc
    rw [if_neg hc] at hV
    refine e_iload f_85_4 rfl ?_
    refine e_iconst (c := 2) f_85_5 (by decide) ?_
    refine e_icmp f_85_6 (fun hc => ?_) (fun hc => ?_)
    · have hc := x_cct_lt hc
      rw [if_pos hc] at hV
      refine e_aload f_85_12 rfl (by decide) ?_
      refine e_gr (c := 5) (j := 2) (r := 12) f_85_13 (by decide) (by decide) (by decide) (by decide) ?_
      refine e_gf (c := 0) (j := 4) f_85_16 (by decide) (by decide) (by decide) ?_
      refine e_if f_85_19 (fun hc => ?_) (fun hc => ?_)
      · have hc := x_cct_ne hc
        rw [if_neg hc] at hV
        refine e_aload f_85_25 rfl (by decide) ?_
        refine e_gr (c := 5) (j := 4) (r := 22) f_85_26 (by decide) (by decide) (by decide) (by decide) ?_
        refine e_iload f_85_29 rfl ?_
        obtain ⟨hg, hV⟩ := hV
        refine e_aa (c := 12) (n := 2) f_85_30 (by decide) (by decide) (by decide) hg (fun hq1 => ?_)
        have hq1 : x_tg (x_rr 22 (Int32.toNatClampNeg a1)) = 0 := hq1
        refine e_aload f_85_31 rfl (by decide) ?_
        refine e_gr (c := 5) (j := 2) (r := 12) f_85_32 (by decide) (by decide) (by decide) (by decide) ?_
        obtain ⟨P2, hP2, hV⟩ := hV
        refine e_vv (n := 2) (A := [.ref (x_rr 22 (Int32.toNatClampNeg a1)), .ref 12]) (R := []) f_85_35 na_7 rfl rfl (Nat.le_of_ble_eq_true rfl) (Nat.le_of_ble_eq_true rfl) (by rw [ml_7]; exact Nat.le_of_ble_eq_true rfl) rfl (by rw [cy_7]; decide) (by rw [cy_7]; exact hq1) hP2 (fun S2 hp2 => ?_)
        have hV := hV S2 hp2
        refine e_iconst (c := 1) f_85_38 (by decide) ?_
        exact e_ireturn f_85_39 rt_85 rfl hV
      · have hc := x_ccf_ne hc
        rw [if_pos hc] at hV
        refine e_iconst (c := (-1000002)) f_85_22 (by decide) ?_
        exact e_ireturn f_85_24 rt_85 rfl hV
    · have hc := x_ccf_lt hc
      rw [if_neg hc] at hV
      refine e_iconst (c := (-1000001)) f_85_9 (by decide) ?_
      exact e_ireturn f_85_11 rt_85 rfl hV
set_option maxRecDepth 20000 in
theorem T_86_0 {xs : List Int32} {d : Nat} {S : x_M} {Q : Option Value → x_M → Prop} {a1 : Int32}  (hV : if a1 < 0 then (Q (some (.int (-1000001))) S) else (if a1 < 2 then ((x_ib a1 2) ∧ (if (S (x_rr 22 (Int32.toNatClampNeg a1)) 4) = 0 then (Q (some (.int (-1000002))) S) else ((x_ib a1 2) ∧ (∃ P3 : x_M → Prop, x_Cv xs d 7 [.ref 12, .ref (x_rr 22 (Int32.toNatClampNeg a1))] S P3 ∧ ∀ (S3 : x_M), P3 S3 → (Q (some (.int 1)) S3))))) else (Q (some (.int (-1000001))) S))) : x_E xs (d + 1) 86 0 [.ref 8, .int a1] [] S Q := by
  refine e_iload f_86_0 rfl ?_
  refine e_if f_86_1 (fun hc => ?_) (fun hc => ?_)
  · have hc := x_cct_lt hc
    rw [if_pos hc] at hV
    refine e_iconst (c := (-1000001)) f_86_9 (by decide) ?_
    exact e_ireturn f_86_11 rt_86 rfl hV
  · have hc := x_ccf_lt hc
    rw [if_neg hc] at hV
    refine e_iload f_86_4 rfl ?_
    refine e_iconst (c := 2) f_86_5 (by decide) ?_
    refine e_icmp f_86_6 (fun hc => ?_) (fun hc => ?_)
    · have hc := x_cct_lt hc
      rw [if_pos hc] at hV
      refine e_aload f_86_12 rfl (by decide) ?_
      refine e_gr (c := 5) (j := 4) (r := 22) f_86_13 (by decide) (by decide) (by decide) (by decide) ?_
      refine e_iload f_86_16 rfl ?_
      obtain ⟨hg, hV⟩ := hV
      refine e_aa (c := 12) (n := 2) f_86_17 (by decide) (by decide) (by decide) hg (fun hq1 => ?_)
      have hq1 : x_tg (x_rr 22 (Int32.toNatClampNeg a1)) = 0 := hq1
      refine e_gf (c := 0) (j := 4) f_86_18 (by decide) (by decide) hq1 ?_
      refine e_if f_86_21 (fun hc => ?_) (fun hc => ?_)
      · have hc := x_cct_ne hc
        rw [if_neg hc] at hV
        refine e_aload f_86_27 rfl (by decide) ?_
        refine e_gr (c := 5) (j := 2) (r := 12) f_86_28 (by decide) (by decide) (by decide) (by decide) ?_
        refine e_aload f_86_31 rfl (by decide) ?_
        refine e_gr (c := 5) (j := 4) (r := 22) f_86_32 (by decide) (by decide) (by decide) (by decide) ?_
        refine e_iload f_86_35 rfl ?_
        obtain ⟨hg, hV⟩ := hV
        refine e_aa (c := 12) (n := 2) f_86_36 (by decide) (by decide) (by decide) hg (fun hq2 => ?_)
        have hq2 : x_tg (x_rr 22 (Int32.toNatClampNeg a1)) = 0 := hq2
        obtain ⟨P3, hP3, hV⟩ := hV
        refine e_vv (n := 2) (A := [.ref 12, .ref (x_rr 22 (Int32.toNatClampNeg a1))]) (R := []) f_86_37 na_7 rfl rfl (Nat.le_of_ble_eq_true rfl) (Nat.le_of_ble_eq_true rfl) (by rw [ml_7]; exact Nat.le_of_ble_eq_true rfl) rfl (by rw [cy_7]; decide) (by rw [cy_7]; exact (by decide : x_tg 12 = 0)) hP3 (fun S3 hp3 => ?_)
        have hV := hV S3 hp3
        refine e_iconst (c := 1) f_86_40 (by decide) ?_
        exact e_ireturn f_86_41 rt_86 rfl hV
      · have hc := x_ccf_ne hc
        rw [if_pos hc] at hV
        refine e_iconst (c := (-1000002)) f_86_24 (by decide) ?_
        exact e_ireturn f_86_26 rt_86 rfl hV
    · have hc := x_ccf_lt hc
      rw [if_neg hc] at hV
      refine e_iconst (c := (-1000001)) f_86_9 (by decide) ?_
      exact e_ireturn f_86_11 rt_86 rfl hV
set_option maxRecDepth 20000 in
theorem T_87_0 {xs : List Int32} {d : Nat} {S : x_M} {Q : Option Value → x_M → Prop} {a1 : Int32}  (hV : ∃ P1 : Int32 → x_M → Prop, x_Ci xs d 60 [.ref 8, .int a1] S P1 ∧ ∀ (v1 : Int32) (S1 : x_M), P1 v1 S1 → (if v1 = 0 then (Q (some (.int (-1000001))) S1) else (∃ P2 : Int32 → x_M → Prop, x_Ci xs d 88 [.ref 12, .int a1] S1 P2 ∧ ∀ (v2 : Int32) (S2 : x_M), P2 v2 S2 → (Q (some (.int v2)) S2)))) : x_E xs (d + 1) 87 0 [.ref 8, .int a1] [] S Q := by
  refine e_aload f_87_0 rfl (by decide) ?_
  refine e_iload f_87_1 rfl ?_
  obtain ⟨P1, hP1, hV⟩ := hV
  refine e_vi (n := 2) (A := [.ref 8, .int a1]) (R := []) f_87_2 na_60 rfl rfl (Nat.le_of_ble_eq_true rfl) (Nat.le_of_ble_eq_true rfl) (by rw [ml_60]; exact Nat.le_of_ble_eq_true rfl) rfl (by rw [cy_60]; decide) (by rw [cy_60]; exact (by decide : x_tg 8 = 5)) hP1 (fun v1 S1 hp1 => ?_)
  have hV := hV v1 S1 hp1
  refine e_if f_87_5 (fun hc => ?_) (fun hc => ?_)
  · have hc := x_cct_eq hc
    rw [if_pos hc] at hV
    refine e_iconst (c := (-1000001)) f_87_19 (by decide) ?_
    exact e_ireturn f_87_21 rt_87 rfl hV
  · have hc := x_ccf_eq hc
    rw [if_neg hc] at hV
    refine e_aload f_87_8 rfl (by decide) ?_
    refine e_gr (c := 5) (j := 2) (r := 12) f_87_9 (by decide) (by decide) (by decide) (by decide) ?_
    refine e_iload f_87_12 rfl ?_
    obtain ⟨P2, hP2, hV⟩ := hV
    refine e_si (n := 2) (A := [.ref 12, .int a1]) (R := []) f_87_13 na_88 rfl rfl (Nat.le_of_ble_eq_true rfl) (Nat.le_of_ble_eq_true rfl) (by rw [ml_88]; exact Nat.le_of_ble_eq_true rfl) hP2 (fun v2 S2 hp2 => ?_)
    have hV := hV v2 S2 hp2
    refine e_goto f_87_16 ?_
    exact e_ireturn f_87_21 rt_87 rfl hV
set_option maxRecDepth 20000 in
theorem T_88_0 {xs : List Int32} {d : Nat} {S : x_M} {Q : Option Value → x_M → Prop} {a0 : Nat} {a1 : Int32} (ha0 : x_tg a0 = 0) (hV : ∃ P1 : Int32 → x_M → Prop, x_Ci xs d 89 [.ref a0, .int a1, .int 2] S P1 ∧ ∀ (v1 : Int32) (S1 : x_M), P1 v1 S1 → (if v1 = 0 then (∃ P2 : Int32 → x_M → Prop, x_Ci xs d 89 [.ref a0, .int a1, .int 5] S1 P2 ∧ ∀ (v2 : Int32) (S2 : x_M), P2 v2 S2 → (if v2 = 0 then (∃ P3 : Int32 → x_M → Prop, x_Ci xs d 89 [.ref a0, .int a1, .int 3] S2 P3 ∧ ∀ (v3 : Int32) (S3 : x_M), P3 v3 S3 → (if v3 = 0 then (∃ P4 : Int32 → x_M → Prop, x_Ci xs d 89 [.ref a0, .int a1, .int 4] S3 P4 ∧ ∀ (v4 : Int32) (S4 : x_M), P4 v4 S4 → (if v4 = 0 then (Q (some (.int 1)) S4) else (Q (some (.int 4)) S4))) else (Q (some (.int 3)) S3))) else (Q (some (.int 5)) S2))) else (Q (some (.int 2)) S1))) : x_E xs (d + 1) 88 0 [.ref a0, .int a1] [] S Q := by
  refine e_aload f_88_0 rfl (x_n7 ha0 (by decide)) ?_
  refine e_iload f_88_1 rfl ?_
  refine e_iconst (c := 2) f_88_2 (by decide) ?_
  obtain ⟨P1, hP1, hV⟩ := hV
  refine e_si (n := 3) (A := [.ref a0, .int a1, .int 2]) (R := []) f_88_3 na_89 rfl rfl (Nat.le_of_ble_eq_true rfl) (Nat.le_of_ble_eq_true rfl) (by rw [ml_89]; exact Nat.le_of_ble_eq_true rfl) hP1 (fun v1 S1 hp1 => ?_)
  have hV := hV v1 S1 hp1
  refine e_if f_88_6 (fun hc => ?_) (fun hc => ?_)
  · have hc := x_cct_eq hc
    rw [if_pos hc] at hV
    refine e_aload f_88_11 rfl (x_n7 ha0 (by decide)) ?_
    refine e_iload f_88_12 rfl ?_
    refine e_iconst (c := 5) f_88_13 (by decide) ?_
    obtain ⟨P2, hP2, hV⟩ := hV
    refine e_si (n := 3) (A := [.ref a0, .int a1, .int 5]) (R := []) f_88_14 na_89 rfl rfl (Nat.le_of_ble_eq_true rfl) (Nat.le_of_ble_eq_true rfl) (by rw [ml_89]; exact Nat.le_of_ble_eq_true rfl) hP2 (fun v2 S2 hp2 => ?_)
    have hV := hV v2 S2 hp2
    refine e_if f_88_17 (fun hc => ?_) (fun hc => ?_)
    · have hc := x_cct_eq hc
      rw [if_pos hc] at hV
      refine e_aload f_88_22 rfl (x_n7 ha0 (by decide)) ?_
      refine e_iload f_88_23 rfl ?_
      refine e_iconst (c := 3) f_88_24 (by decide) ?_
      obtain ⟨P3, hP3, hV⟩ := hV
      refine e_si (n := 3) (A := [.ref a0, .int a1, .int 3]) (R := []) f_88_25 na_89 rfl rfl (Nat.le_of_ble_eq_true rfl) (Nat.le_of_ble_eq_true rfl) (by rw [ml_89]; exact Nat.le_of_ble_eq_true rfl) hP3 (fun v3 S3 hp3 => ?_)
      have hV := hV v3 S3 hp3
      refine e_if f_88_28 (fun hc => ?_) (fun hc => ?_)
      · have hc := x_cct_eq hc
        rw [if_pos hc] at hV
        refine e_aload f_88_33 rfl (x_n7 ha0 (by decide)) ?_
        refine e_iload f_88_34 rfl ?_
        refine e_iconst (c := 4) f_88_35 (by decide) ?_
        obtain ⟨P4, hP4, hV⟩ := hV
        refine e_si (n := 3) (A := [.ref a0, .int a1, .int 4]) (R := []) f_88_36 na_89 rfl rfl (Nat.le_of_ble_eq_true rfl) (Nat.le_of_ble_eq_true rfl) (by rw [ml_89]; exact Nat.le_of_ble_eq_true rfl) hP4 (fun v4 S4 hp4 => ?_)
        have hV := hV v4 S4 hp4
        refine e_if f_88_39 (fun hc => ?_) (fun hc => ?_)
        · have hc := x_cct_eq hc
          rw [if_pos hc] at hV
          refine e_iconst (c := 1) f_88_46 (by decide) ?_
          exact e_ireturn f_88_47 rt_88 rfl hV
        · have hc := x_ccf_eq hc
          rw [if_neg hc] at hV
          refine e_iconst (c := 4) f_88_42 (by decide) ?_
          refine e_goto f_88_43 ?_
          exact e_ireturn f_88_47 rt_88 rfl hV
      · have hc := x_ccf_eq hc
        rw [if_neg hc] at hV
        refine e_iconst (c := 3) f_88_31 (by decide) ?_
        exact e_ireturn f_88_32 rt_88 rfl hV
    · have hc := x_ccf_eq hc
      rw [if_neg hc] at hV
      refine e_iconst (c := 5) f_88_20 (by decide) ?_
      exact e_ireturn f_88_21 rt_88 rfl hV
  · have hc := x_ccf_eq hc
    rw [if_neg hc] at hV
    refine e_iconst (c := 2) f_88_9 (by decide) ?_
    exact e_ireturn f_88_10 rt_88 rfl hV
set_option maxRecDepth 20000 in
theorem T_89_0 {xs : List Int32} {d : Nat} {S : x_M} {Q : Option Value → x_M → Prop} {a0 : Nat} {a1 : Int32} {a2 : Int32} (ha0 : x_tg a0 = 0) (hV : ∃ P1 : Int32 → x_M → Prop, x_Ci xs d 8 [.ref a0, .int a1, .int 0] S P1 ∧ ∀ (v1 : Int32) (S1 : x_M), P1 v1 S1 → (∃ P2 : Int32 → x_M → Prop, x_Ci xs d 179 [.int v1] S1 P2 ∧ ∀ (v2 : Int32) (S2 : x_M), P2 v2 S2 → (if v2 ≤ 0 then (x_E xs (d + 1) 89 28 [.ref a0, .int a1, .int a2, .int v2, .null] [.int 0] S2 Q) else (∃ P3 : Int32 → x_M → Prop, x_Ci xs d 15 [.ref a0, .int a1] S2 P3 ∧ ∀ (v3 : Int32) (S3 : x_M), P3 v3 S3 → (if v3 = 1 then (x_E xs (d + 1) 89 28 [.ref a0, .int a1, .int a2, .int v2, .null] [.int 1] S3 Q) else (x_E xs (d + 1) 89 28 [.ref a0, .int a1, .int a2, .int v2, .null] [.int 0] S3 Q)))))) : x_E xs (d + 1) 89 0 [.ref a0, .int a1, .int a2, .null, .null] [] S Q := by
  refine e_aload f_89_0 rfl (x_n7 ha0 (by decide)) ?_
  refine e_iload f_89_1 rfl ?_
  refine e_iconst (c := 0) f_89_2 (by decide) ?_
  obtain ⟨P1, hP1, hV⟩ := hV
  refine e_vi (n := 3) (A := [.ref a0, .int a1, .int 0]) (R := []) f_89_3 na_8 rfl rfl (Nat.le_of_ble_eq_true rfl) (Nat.le_of_ble_eq_true rfl) (by rw [ml_8]; exact Nat.le_of_ble_eq_true rfl) rfl (by rw [cy_8]; decide) (by rw [cy_8]; exact ha0) hP1 (fun v1 S1 hp1 => ?_)
  have hV := hV v1 S1 hp1
  obtain ⟨P2, hP2, hV⟩ := hV
  refine e_si (n := 1) (A := [.int v1]) (R := []) f_89_6 na_179 rfl rfl (Nat.le_of_ble_eq_true rfl) (Nat.le_of_ble_eq_true rfl) (by rw [ml_179]; exact Nat.le_of_ble_eq_true rfl) hP2 (fun v2 S2 hp2 => ?_)
  have hV := hV v2 S2 hp2
  refine e_istore (L' := [.ref a0, .int a1, .int a2, .int v2, .null]) f_89_9 (Nat.le_of_ble_eq_true rfl) rfl ?_
  refine e_iload f_89_10 rfl ?_
  refine e_if f_89_11 (fun hc => ?_) (fun hc => ?_)
  · have hc := x_cct_le hc
    rw [if_pos hc] at hV
    refine e_iconst (c := 0) f_89_27 (by decide) ?_
    exact hV
  · have hc := x_ccf_le hc
    rw [if_neg hc] at hV
    refine e_aload f_89_14 rfl (x_n7 ha0 (by decide)) ?_
    refine e_iload f_89_15 rfl ?_
    obtain ⟨P3, hP3, hV⟩ := hV
    refine e_vi (n := 2) (A := [.ref a0, .int a1]) (R := []) f_89_16 na_15 rfl rfl (Nat.le_of_ble_eq_true rfl) (Nat.le_of_ble_eq_true rfl) (by rw [ml_15]; exact Nat.le_of_ble_eq_true rfl) rfl (by rw [cy_15]; decide) (by rw [cy_15]; exact ha0) hP3 (fun v3 S3 hp3 => ?_)
    have hV := hV v3 S3 hp3
    refine e_iconst (c := 1) f_89_19 (by decide) ?_
    refine e_icmp f_89_20 (fun hc => ?_) (fun hc => ?_)
    · have hc := x_cct_ne hc
      rw [if_neg hc] at hV
      refine e_iconst (c := 0) f_89_27 (by decide) ?_
      exact hV
    · have hc := x_ccf_ne hc
      rw [if_pos hc] at hV
      refine e_iconst (c := 1) f_89_23 (by decide) ?_
      refine e_goto f_89_24 ?_
      exact hV
set_option maxRecDepth 20000 in
theorem T_89_28 {xs : List Int32} {d : Nat} {S : x_M} {Q : Option Value → x_M → Prop} {a0 : Nat} {a1 : Int32} {a2 : Int32} {a3 : Int32} {s0 : Int32} (ha0 : x_tg a0 = 0) (hV : if a2 = 0 then (Q (some (.int 1)) S) else (if a2 = 1 then (if a3 ≤ 0 then (Q (some (.int 0)) S) else (Q (some (.int 1)) S)) else (if a2 = 2 then (if a3 = 0 then (Q (some (.int 1)) S) else (Q (some (.int 0)) S)) else (if a2 = 3 then ((s0 = 0 ∨ s0 = 1) ∧ Q (some (.int s0)) S) else (if a2 = 4 then (if s0 = 0 then (if a3 < 6 then (Q (some (.int 0)) S) else (Q (some (.int 1)) S)) else (Q (some (.int 0)) S)) else (if a2 = 5 then (if s0 = 0 then (Q (some (.int 0)) S) else (if a3 < 6 then (Q (some (.int 0)) S) else (Q (some (.int 1)) S))) else (Q (some (.int 0)) S))))))) : x_E xs (d + 1) 89 28 [.ref a0, .int a1, .int a2, .int a3, .null] [.int s0] S Q := by
  refine e_istore (L' := [.ref a0, .int a1, .int a2, .int a3, .int s0]) f_89_28 (Nat.le_of_ble_eq_true rfl) rfl ?_
  refine e_iload f_89_30 rfl ?_
  by_cases hx0 : a2 = 0
  · rw [if_pos hx0] at hV
    refine e_ts f_89_31 hx0 (t := 68) (by decide) ?_
    refine e_iconst (c := 1) f_89_68 (by decide) ?_
    exact e_ireturn f_89_69 rt_89 (by decide) hV
  rw [if_neg hx0] at hV
  by_cases hx1 : a2 = 1
  · rw [if_pos hx1] at hV
    refine e_ts f_89_31 hx1 (t := 70) (by decide) ?_
    refine e_iload f_89_70 rfl ?_
    refine e_if f_89_71 (fun hc => ?_) (fun hc => ?_)
    · have hc := x_cct_le hc
      rw [if_pos hc] at hV
      refine e_iconst (c := 0) f_89_78 (by decide) ?_
      exact e_ireturn f_89_79 rt_89 (by decide) hV
    · have hc := x_ccf_le hc
      rw [if_neg hc] at hV
      refine e_iconst (c := 1) f_89_74 (by decide) ?_
      refine e_goto f_89_75 ?_
      exact e_ireturn f_89_79 rt_89 (by decide) hV
  rw [if_neg hx1] at hV
  by_cases hx2 : a2 = 2
  · rw [if_pos hx2] at hV
    refine e_ts f_89_31 hx2 (t := 80) (by decide) ?_
    refine e_iload f_89_80 rfl ?_
    refine e_if f_89_81 (fun hc => ?_) (fun hc => ?_)
    · have hc := x_cct_ne hc
      rw [if_neg hc] at hV
      refine e_iconst (c := 0) f_89_88 (by decide) ?_
      exact e_ireturn f_89_89 rt_89 (by decide) hV
    · have hc := x_ccf_ne hc
      rw [if_pos hc] at hV
      refine e_iconst (c := 1) f_89_84 (by decide) ?_
      refine e_goto f_89_85 ?_
      exact e_ireturn f_89_89 rt_89 (by decide) hV
  rw [if_neg hx2] at hV
  by_cases hx3 : a2 = 3
  · rw [if_pos hx3] at hV
    refine e_ts f_89_31 hx3 (t := 90) (by decide) ?_
    refine e_iload f_89_90 rfl ?_
    obtain ⟨hg, hV⟩ := hV
    exact e_ireturn f_89_92 rt_89 (x_nz hg) hV
  rw [if_neg hx3] at hV
  by_cases hx4 : a2 = 4
  · rw [if_pos hx4] at hV
    refine e_ts f_89_31 hx4 (t := 93) (by decide) ?_
    refine e_iload f_89_93 rfl ?_
    refine e_if f_89_95 (fun hc => ?_) (fun hc => ?_)
    · have hc := x_cct_ne hc
      rw [if_neg hc] at hV
      refine e_iconst (c := 0) f_89_108 (by decide) ?_
      exact e_ireturn f_89_109 rt_89 (by decide) hV
    · have hc := x_ccf_ne hc
      rw [if_pos hc] at hV
      refine e_iload f_89_98 rfl ?_
      refine e_iconst (c := 6) f_89_99 (by decide) ?_
      refine e_icmp f_89_101 (fun hc => ?_) (fun hc => ?_)
      · have hc := x_cct_lt hc
        rw [if_pos hc] at hV
        refine e_iconst (c := 0) f_89_108 (by decide) ?_
        exact e_ireturn f_89_109 rt_89 (by decide) hV
      · have hc := x_ccf_lt hc
        rw [if_neg hc] at hV
        refine e_iconst (c := 1) f_89_104 (by decide) ?_
        refine e_goto f_89_105 ?_
        exact e_ireturn f_89_109 rt_89 (by decide) hV
  rw [if_neg hx4] at hV
  by_cases hx5 : a2 = 5
  · rw [if_pos hx5] at hV
    refine e_ts f_89_31 hx5 (t := 110) (by decide) ?_
    refine e_iload f_89_110 rfl ?_
    refine e_if f_89_112 (fun hc => ?_) (fun hc => ?_)
    · have hc := x_cct_eq hc
      rw [if_pos hc] at hV
      refine e_iconst (c := 0) f_89_125 (by decide) ?_
      exact e_ireturn f_89_126 rt_89 (by decide) hV
    · have hc := x_ccf_eq hc
      rw [if_neg hc] at hV
      refine e_iload f_89_115 rfl ?_
      refine e_iconst (c := 6) f_89_116 (by decide) ?_
      refine e_icmp f_89_118 (fun hc => ?_) (fun hc => ?_)
      · have hc := x_cct_lt hc
        rw [if_pos hc] at hV
        refine e_iconst (c := 0) f_89_125 (by decide) ?_
        exact e_ireturn f_89_126 rt_89 (by decide) hV
      · have hc := x_ccf_lt hc
        rw [if_neg hc] at hV
        refine e_iconst (c := 1) f_89_121 (by decide) ?_
        refine e_goto f_89_122 ?_
        exact e_ireturn f_89_126 rt_89 (by decide) hV
  rw [if_neg hx5] at hV
  have hy0 := lv_neT (a := 0) hx0 (by decide)
  have hy1 := lv_neT (a := 1) hx1 (by decide)
  have hy2 := lv_neT (a := 2) hx2 (by decide)
  have hy3 := lv_neT (a := 3) hx3 (by decide)
  have hy4 := lv_neT (a := 4) hx4 (by decide)
  have hy5 := lv_neT (a := 5) hx5 (by decide)
  refine e_tsd f_89_31 (by omega) (t := 127) (by decide) ?_
  refine e_iconst (c := 0) f_89_127 (by decide) ?_
  exact e_ireturn f_89_128 rt_89 (by decide) hV
