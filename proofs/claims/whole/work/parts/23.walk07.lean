set_option maxRecDepth 20000 in
theorem T_116_0 {xs : List Int32} {d : Nat} {S : x_M} {Q : Option Value → x_M → Prop}   (hV : ∃ P1 : Int32 → x_M → Prop, x_Ci xs d 117 [.ref 56] S P1 ∧ ∀ (v1 : Int32) (S1 : x_M), P1 v1 S1 → (if v1 = 0 then (∀ S3 : x_M, S3 = x_up S1 56 3 1 → (Q (some (.int 0)) S3)) else (∃ P2 : x_M → Prop, x_Cv xs d 111 [.ref 56] S1 P2 ∧ ∀ (S2 : x_M), P2 S2 → (Q (some (.int 1)) S2)))) : x_E xs (d + 1) 116 0 [.ref 56] [] S Q := by
  refine e_aload f_116_0 rfl (by decide) ?_
  obtain ⟨P1, hP1, hV⟩ := hV
  refine e_vi (n := 1) (A := [.ref 56]) (R := []) f_116_1 na_117 rfl rfl (Nat.le_of_ble_eq_true rfl) (Nat.le_of_ble_eq_true rfl) (by rw [ml_117]; exact Nat.le_of_ble_eq_true rfl) rfl (by rw [cy_117]; decide) (by rw [cy_117]; exact (by decide : x_tg 56 = 6)) hP1 (fun v1 S1 hp1 => ?_)
  have hV := hV v1 S1 hp1
  refine e_if f_116_4 (fun hc => ?_) (fun hc => ?_)
  · have hc := x_cct_ne hc
    rw [if_neg hc] at hV
    refine e_aload f_116_14 rfl (by decide) ?_
    obtain ⟨P2, hP2, hV⟩ := hV
    refine e_vv (n := 1) (A := [.ref 56]) (R := []) f_116_15 na_111 rfl rfl (Nat.le_of_ble_eq_true rfl) (Nat.le_of_ble_eq_true rfl) (by rw [ml_111]; exact Nat.le_of_ble_eq_true rfl) rfl (by rw [cy_111]; decide) (by rw [cy_111]; exact (by decide : x_tg 56 = 6)) hP2 (fun S2 hp2 => ?_)
    have hV := hV S2 hp2
    refine e_iconst (c := 1) f_116_18 (by decide) ?_
    exact e_ireturn f_116_19 rt_116 (by decide) hV
  · have hc := x_ccf_ne hc
    rw [if_pos hc] at hV
    refine e_aload f_116_7 rfl (by decide) ?_
    refine e_iconst (c := 1) f_116_8 (by decide) ?_
    refine e_pfn (c := 6) (j := 3) f_116_9 (by decide) (by decide) (by decide) (x_fit_i rfl) (fun S3 hS3 => ?_)
    have hV := hV S3 hS3
    refine e_iconst (c := 0) f_116_12 (by decide) ?_
    exact e_ireturn f_116_13 rt_116 (by decide) hV
set_option maxRecDepth 20000 in
theorem T_117_0 {xs : List Int32} {d : Nat} {S : x_M} {Q : Option Value → x_M → Prop}   (hV : if (S 56 2) ≤ (S 56 11) then (Q (some (.int 0)) S) else ((x_ib (S 56 11) 400) ∧ (if (S 58 (Int32.toNatClampNeg (S 56 11))) = 59 then (Q (some (.int 1)) S) else (Q (some (.int 0)) S)))) : x_E xs (d + 1) 117 0 [.ref 56] [] S Q := by
  refine e_aload f_117_0 rfl (by decide) ?_
  refine e_gf (c := 6) (j := 11) f_117_1 (by decide) (by decide) (by decide) ?_
  refine e_aload f_117_4 rfl (by decide) ?_
  refine e_gf (c := 6) (j := 2) f_117_5 (by decide) (by decide) (by decide) ?_
  refine e_icmp f_117_8 (fun hc => ?_) (fun hc => ?_)
  · have hc := x_cct_ge hc
    rw [if_pos hc] at hV
    refine e_iconst (c := 0) f_117_29 (by decide) ?_
    exact e_ireturn f_117_30 rt_117 (by decide) hV
  · have hc := x_ccf_ge hc
    rw [if_neg hc] at hV
    refine e_aload f_117_11 rfl (by decide) ?_
    refine e_gr (c := 6) (j := 1) (r := 58) f_117_12 (by decide) (by decide) (by decide) (by decide) ?_
    refine e_aload f_117_15 rfl (by decide) ?_
    refine e_gf (c := 6) (j := 11) f_117_16 (by decide) (by decide) (by decide) ?_
    obtain ⟨hg, hV⟩ := hV
    refine e_ia (n := 400) f_117_19 (by decide) (by decide) hg ?_
    refine e_iconst (c := 59) f_117_20 (by decide) ?_
    refine e_icmp f_117_22 (fun hc => ?_) (fun hc => ?_)
    · have hc := x_cct_ne hc
      rw [if_neg hc] at hV
      refine e_iconst (c := 0) f_117_29 (by decide) ?_
      exact e_ireturn f_117_30 rt_117 (by decide) hV
    · have hc := x_ccf_ne hc
      rw [if_pos hc] at hV
      refine e_iconst (c := 1) f_117_25 (by decide) ?_
      refine e_goto f_117_26 ?_
      exact e_ireturn f_117_30 rt_117 (by decide) hV
set_option maxRecDepth 20000 in
theorem T_118_0 {xs : List Int32} {d : Nat} {S : x_M} {Q : Option Value → x_M → Prop}   (hV : ∃ P1 : Int32 → x_M → Prop, x_Ci xs d 114 [.ref 56, .int 149539, .int 4] S P1 ∧ ∀ (v1 : Int32) (S1 : x_M), P1 v1 S1 → (if v1 = 0 then (∀ S9 : x_M, S9 = x_up S1 56 3 1 → (Q (some (.int 0)) S9)) else (if (S1 56 16) = 14 then (∀ S8 : x_M, S8 = x_up S1 56 3 3 → (Q (some (.int 0)) S8)) else (∃ P2 : x_M → Prop, x_Cv xs d 111 [.ref 56] S1 P2 ∧ ∀ (S2 : x_M), P2 S2 → (∃ P3 : Int32 → x_M → Prop, x_Ci xs d 119 [.ref 56] S2 P3 ∧ ∀ (v3 : Int32) (S3 : x_M), P3 v3 S3 → (if v3 = 0 then (Q (some (.int 0)) S3) else (∃ P4 : Int32 → x_M → Prop, x_Ci xs d 115 [.ref 56, .int 1] S3 P4 ∧ ∀ (v4 : Int32) (S4 : x_M), P4 v4 S4 → (if v4 = (-1000000) then (Q (some (.int 0)) S4) else ((x_ib (S4 56 16) 14) ∧ (∀ S5 : x_M, S5 = x_up S4 65 (Int32.toNatClampNeg (S4 56 16)) v4 → (∀ S6 : x_M, S6 = x_up S5 56 16 ((S5 56 16) + 1) → (∃ P7 : Int32 → x_M → Prop, x_Ci xs d 116 [.ref 56] S6 P7 ∧ ∀ (v7 : Int32) (S7 : x_M), P7 v7 S7 → ((v7 = 0 ∨ v7 = 1) ∧ Q (some (.int v7)) S7))))))))))))) : x_E xs (d + 1) 118 0 [.ref 56, .null] [] S Q := by
  refine e_aload f_118_0 rfl (by decide) ?_
  refine e_iconst (c := 149539) f_118_1 (by decide) ?_
  refine e_iconst (c := 4) f_118_3 (by decide) ?_
  obtain ⟨P1, hP1, hV⟩ := hV
  refine e_vi (n := 3) (A := [.ref 56, .int 149539, .int 4]) (R := []) f_118_4 na_114 rfl rfl (Nat.le_of_ble_eq_true rfl) (Nat.le_of_ble_eq_true rfl) (by rw [ml_114]; exact Nat.le_of_ble_eq_true rfl) rfl (by rw [cy_114]; decide) (by rw [cy_114]; exact (by decide : x_tg 56 = 6)) hP1 (fun v1 S1 hp1 => ?_)
  have hV := hV v1 S1 hp1
  refine e_if f_118_7 (fun hc => ?_) (fun hc => ?_)
  · have hc := x_cct_ne hc
    rw [if_neg hc] at hV
    refine e_aload f_118_17 rfl (by decide) ?_
    refine e_gf (c := 6) (j := 16) f_118_18 (by decide) (by decide) (by decide) ?_
    refine e_iconst (c := 14) f_118_21 (by decide) ?_
    refine e_icmp f_118_23 (fun hc => ?_) (fun hc => ?_)
    · have hc := x_cct_ne hc
      rw [if_neg hc] at hV
      refine e_aload f_118_33 rfl (by decide) ?_
      obtain ⟨P2, hP2, hV⟩ := hV
      refine e_vv (n := 1) (A := [.ref 56]) (R := []) f_118_34 na_111 rfl rfl (Nat.le_of_ble_eq_true rfl) (Nat.le_of_ble_eq_true rfl) (by rw [ml_111]; exact Nat.le_of_ble_eq_true rfl) rfl (by rw [cy_111]; decide) (by rw [cy_111]; exact (by decide : x_tg 56 = 6)) hP2 (fun S2 hp2 => ?_)
      have hV := hV S2 hp2
      refine e_aload f_118_37 rfl (by decide) ?_
      obtain ⟨P3, hP3, hV⟩ := hV
      refine e_vi (n := 1) (A := [.ref 56]) (R := []) f_118_38 na_119 rfl rfl (Nat.le_of_ble_eq_true rfl) (Nat.le_of_ble_eq_true rfl) (by rw [ml_119]; exact Nat.le_of_ble_eq_true rfl) rfl (by rw [cy_119]; decide) (by rw [cy_119]; exact (by decide : x_tg 56 = 6)) hP3 (fun v3 S3 hp3 => ?_)
      have hV := hV v3 S3 hp3
      refine e_if f_118_41 (fun hc => ?_) (fun hc => ?_)
      · have hc := x_cct_ne hc
        rw [if_neg hc] at hV
        refine e_aload f_118_46 rfl (by decide) ?_
        refine e_iconst (c := 1) f_118_47 (by decide) ?_
        obtain ⟨P4, hP4, hV⟩ := hV
        refine e_vi (n := 2) (A := [.ref 56, .int 1]) (R := []) f_118_48 na_115 rfl rfl (Nat.le_of_ble_eq_true rfl) (Nat.le_of_ble_eq_true rfl) (by rw [ml_115]; exact Nat.le_of_ble_eq_true rfl) rfl (by rw [cy_115]; decide) (by rw [cy_115]; exact (by decide : x_tg 56 = 6)) hP4 (fun v4 S4 hp4 => ?_)
        have hV := hV v4 S4 hp4
        refine e_istore (L' := [.ref 56, .int v4]) f_118_51 (Nat.le_of_ble_eq_true rfl) rfl ?_
        refine e_iload f_118_52 rfl ?_
        refine e_iconst (c := (-1000000)) f_118_53 (by decide) ?_
        refine e_icmp f_118_55 (fun hc => ?_) (fun hc => ?_)
        · have hc := x_cct_ne hc
          rw [if_neg hc] at hV
          refine e_aload f_118_60 rfl (by decide) ?_
          refine e_gr (c := 6) (j := 15) (r := 65) f_118_61 (by decide) (by decide) (by decide) (by decide) ?_
          refine e_aload f_118_64 rfl (by decide) ?_
          refine e_gf (c := 6) (j := 16) f_118_65 (by decide) (by decide) (by decide) ?_
          refine e_iload f_118_68 rfl ?_
          obtain ⟨hg, hV⟩ := hV
          refine e_isn (n := 14) f_118_69 (by decide) (by decide) hg (fun S5 hS5 => ?_)
          have hV := hV S5 hS5
          refine e_aload f_118_70 rfl (by decide) ?_
          refine e_dup f_118_71 rfl ?_
          refine e_gf (c := 6) (j := 16) f_118_72 (by decide) (by decide) (by decide) ?_
          refine e_iconst (c := 1) f_118_75 (by decide) ?_
          refine e_iadd f_118_76 ?_
          refine e_pfn (c := 6) (j := 16) f_118_77 (by decide) (by decide) (by decide) (x_fit_i rfl) (fun S6 hS6 => ?_)
          have hV := hV S6 hS6
          refine e_aload f_118_80 rfl (by decide) ?_
          obtain ⟨P7, hP7, hV⟩ := hV
          refine e_vi (n := 1) (A := [.ref 56]) (R := []) f_118_81 na_116 rfl rfl (Nat.le_of_ble_eq_true rfl) (Nat.le_of_ble_eq_true rfl) (by rw [ml_116]; exact Nat.le_of_ble_eq_true rfl) rfl (by rw [cy_116]; decide) (by rw [cy_116]; exact (by decide : x_tg 56 = 6)) hP7 (fun v7 S7 hp7 => ?_)
          have hV := hV v7 S7 hp7
          obtain ⟨hg, hV⟩ := hV
          exact e_ireturn f_118_84 rt_118 (x_nz hg) hV
        · have hc := x_ccf_ne hc
          rw [if_pos hc] at hV
          refine e_iconst (c := 0) f_118_58 (by decide) ?_
          exact e_ireturn f_118_59 rt_118 (by decide) hV
      · have hc := x_ccf_ne hc
        rw [if_pos hc] at hV
        refine e_iconst (c := 0) f_118_44 (by decide) ?_
        exact e_ireturn f_118_45 rt_118 (by decide) hV
    · have hc := x_ccf_ne hc
      rw [if_pos hc] at hV
      refine e_aload f_118_26 rfl (by decide) ?_
      refine e_iconst (c := 3) f_118_27 (by decide) ?_
      refine e_pfn (c := 6) (j := 3) f_118_28 (by decide) (by decide) (by decide) (x_fit_i rfl) (fun S8 hS8 => ?_)
      have hV := hV S8 hS8
      refine e_iconst (c := 0) f_118_31 (by decide) ?_
      exact e_ireturn f_118_32 rt_118 (by decide) hV
  · have hc := x_ccf_ne hc
    rw [if_pos hc] at hV
    refine e_aload f_118_10 rfl (by decide) ?_
    refine e_iconst (c := 1) f_118_11 (by decide) ?_
    refine e_pfn (c := 6) (j := 3) f_118_12 (by decide) (by decide) (by decide) (x_fit_i rfl) (fun S9 hS9 => ?_)
    have hV := hV S9 hS9
    refine e_iconst (c := 0) f_118_15 (by decide) ?_
    exact e_ireturn f_118_16 rt_118 (by decide) hV
set_option maxRecDepth 20000 in
theorem T_119_0 {xs : List Int32} {d : Nat} {S : x_M} {Q : Option Value → x_M → Prop}   (hV : if (S 56 2) ≤ (S 56 11) then (x_E xs (d + 1) 119 35 [.ref 56, .int 0, .int 0, .int 0] [] S Q) else (if ((S 56 12) - (S 56 11)) = 9 then (x_E xs (d + 1) 119 35 [.ref 56, .int 0, .int 1, .int 0] [] S Q) else (x_E xs (d + 1) 119 35 [.ref 56, .int 0, .int 0, .int 0] [] S Q))) : x_E xs (d + 1) 119 0 [.ref 56, .null, .null, .null] [] S Q := by
  refine e_iconst (c := 0) f_119_0 (by decide) ?_
  refine e_istore (L' := [.ref 56, .int 0, .null, .null]) f_119_1 (Nat.le_of_ble_eq_true rfl) rfl ?_
  refine e_aload f_119_2 rfl (by decide) ?_
  refine e_gf (c := 6) (j := 11) f_119_3 (by decide) (by decide) (by decide) ?_
  refine e_aload f_119_6 rfl (by decide) ?_
  refine e_gf (c := 6) (j := 2) f_119_7 (by decide) (by decide) (by decide) ?_
  refine e_icmp f_119_10 (fun hc => ?_) (fun hc => ?_)
  · have hc := x_cct_ge hc
    rw [if_pos hc] at hV
    refine e_iconst (c := 0) f_119_31 (by decide) ?_
    refine e_istore (L' := [.ref 56, .int 0, .int 0, .null]) f_119_32 (Nat.le_of_ble_eq_true rfl) rfl ?_
    refine e_iconst (c := 0) f_119_33 (by decide) ?_
    refine e_istore (L' := [.ref 56, .int 0, .int 0, .int 0]) f_119_34 (Nat.le_of_ble_eq_true rfl) rfl ?_
    exact hV
  · have hc := x_ccf_ge hc
    rw [if_neg hc] at hV
    refine e_aload f_119_13 rfl (by decide) ?_
    refine e_gf (c := 6) (j := 12) f_119_14 (by decide) (by decide) (by decide) ?_
    refine e_aload f_119_17 rfl (by decide) ?_
    refine e_gf (c := 6) (j := 11) f_119_18 (by decide) (by decide) (by decide) ?_
    refine e_isub f_119_21 ?_
    refine e_iconst (c := 9) f_119_22 (by decide) ?_
    refine e_icmp f_119_24 (fun hc => ?_) (fun hc => ?_)
    · have hc := x_cct_ne hc
      rw [if_neg hc] at hV
      refine e_iconst (c := 0) f_119_31 (by decide) ?_
      refine e_istore (L' := [.ref 56, .int 0, .int 0, .null]) f_119_32 (Nat.le_of_ble_eq_true rfl) rfl ?_
      refine e_iconst (c := 0) f_119_33 (by decide) ?_
      refine e_istore (L' := [.ref 56, .int 0, .int 0, .int 0]) f_119_34 (Nat.le_of_ble_eq_true rfl) rfl ?_
      exact hV
    · have hc := x_ccf_ne hc
      rw [if_pos hc] at hV
      refine e_iconst (c := 1) f_119_27 (by decide) ?_
      refine e_goto f_119_28 ?_
      refine e_istore (L' := [.ref 56, .int 0, .int 1, .null]) f_119_32 (Nat.le_of_ble_eq_true rfl) rfl ?_
      refine e_iconst (c := 0) f_119_33 (by decide) ?_
      refine e_istore (L' := [.ref 56, .int 0, .int 1, .int 0]) f_119_34 (Nat.le_of_ble_eq_true rfl) rfl ?_
      exact hV
set_option maxRecDepth 20000 in
theorem T_119_35 {xs : List Int32} {d : Nat} {S : x_M} {Q : Option Value → x_M → Prop} {a1 : Int32} {a2 : Int32} {a3 : Int32}  (hV : if (9 : Int32) ≤ a3 then (x_E xs (d + 1) 119 115 [.ref 56, .int a1, .int a2, .int a3] [] S Q) else (if a2 = 0 then (x_E xs (d + 1) 119 115 [.ref 56, .int a1, .int a2, .int a3] [] S Q) else ((x_ib ((S 56 11) + a3) 400) ∧ (if (S 58 (Int32.toNatClampNeg ((S 56 11) + a3))) = 111 then (x_E xs (d + 1) 119 82 [.ref 56, .int a1, .int a2, .int a3] [.int 1] S Q) else ((x_ib ((S 56 11) + a3) 400) ∧ (if (S 58 (Int32.toNatClampNeg ((S 56 11) + a3))) = 120 then (x_E xs (d + 1) 119 82 [.ref 56, .int a1, .int a2, .int a3] [.int 1] S Q) else (x_E xs (d + 1) 119 82 [.ref 56, .int a1, .int a2, .int a3] [.int 0] S Q))))))) : x_E xs (d + 1) 119 35 [.ref 56, .int a1, .int a2, .int a3] [] S Q := by
  refine e_iload f_119_35 rfl ?_
  refine e_iconst (c := 9) f_119_36 (by decide) ?_
  refine e_icmp f_119_38 (fun hc => ?_) (fun hc => ?_)
  · have hc := x_cct_ge hc
    rw [if_pos hc] at hV
    exact hV
  · have hc := x_ccf_ge hc
    rw [if_neg hc] at hV
    refine e_iload f_119_41 rfl ?_
    refine e_if f_119_42 (fun hc => ?_) (fun hc => ?_)
    · have hc := x_cct_eq hc
      rw [if_pos hc] at hV
      exact hV
    · have hc := x_ccf_eq hc
      rw [if_neg hc] at hV
      refine e_aload f_119_45 rfl (by decide) ?_
      refine e_gr (c := 6) (j := 1) (r := 58) f_119_46 (by decide) (by decide) (by decide) (by decide) ?_
      refine e_aload f_119_49 rfl (by decide) ?_
      refine e_gf (c := 6) (j := 11) f_119_50 (by decide) (by decide) (by decide) ?_
      refine e_iload f_119_53 rfl ?_
      refine e_iadd f_119_54 ?_
      obtain ⟨hg, hV⟩ := hV
      refine e_ia (n := 400) f_119_55 (by decide) (by decide) hg ?_
      refine e_iconst (c := 111) f_119_56 (by decide) ?_
      refine e_icmp f_119_58 (fun hc => ?_) (fun hc => ?_)
      · have hc := x_cct_eq hc
        rw [if_pos hc] at hV
        refine e_iconst (c := 1) f_119_77 (by decide) ?_
        refine e_goto f_119_78 ?_
        exact hV
      · have hc := x_ccf_eq hc
        rw [if_neg hc] at hV
        refine e_aload f_119_61 rfl (by decide) ?_
        refine e_gr (c := 6) (j := 1) (r := 58) f_119_62 (by decide) (by decide) (by decide) (by decide) ?_
        refine e_aload f_119_65 rfl (by decide) ?_
        refine e_gf (c := 6) (j := 11) f_119_66 (by decide) (by decide) (by decide) ?_
        refine e_iload f_119_69 rfl ?_
        refine e_iadd f_119_70 ?_
        obtain ⟨hg, hV⟩ := hV
        refine e_ia (n := 400) f_119_71 (by decide) (by decide) hg ?_
        refine e_iconst (c := 120) f_119_72 (by decide) ?_
        refine e_icmp f_119_74 (fun hc => ?_) (fun hc => ?_)
        · have hc := x_cct_ne hc
          rw [if_neg hc] at hV
          refine e_iconst (c := 0) f_119_81 (by decide) ?_
          exact hV
        · have hc := x_ccf_ne hc
          rw [if_pos hc] at hV
          refine e_iconst (c := 1) f_119_77 (by decide) ?_
          refine e_goto f_119_78 ?_
          exact hV
set_option maxRecDepth 20000 in
theorem T_119_82 {xs : List Int32} {d : Nat} {S : x_M} {Q : Option Value → x_M → Prop} {a1 : Int32} {a2 : Int32} {a3 : Int32} {s0 : Int32}  (hV : (x_ib ((S 56 11) + a3) 400) ∧ (if (S 58 (Int32.toNatClampNeg ((S 56 11) + a3))) = 111 then (x_E xs (d + 1) 119 35 [.ref 56, .int (a1 ||| (1 <<< (a3 &&& 31))), .int s0, .int (a3 + 1)] [] S Q) else (x_E xs (d + 1) 119 35 [.ref 56, .int (a1 ||| 0), .int s0, .int (a3 + 1)] [] S Q))) : x_E xs (d + 1) 119 82 [.ref 56, .int a1, .int a2, .int a3] [.int s0] S Q := by
  refine e_istore (L' := [.ref 56, .int a1, .int s0, .int a3]) f_119_82 (Nat.le_of_ble_eq_true rfl) rfl ?_
  refine e_iload f_119_83 rfl ?_
  refine e_aload f_119_84 rfl (by decide) ?_
  refine e_gr (c := 6) (j := 1) (r := 58) f_119_85 (by decide) (by decide) (by decide) (by decide) ?_
  refine e_aload f_119_88 rfl (by decide) ?_
  refine e_gf (c := 6) (j := 11) f_119_89 (by decide) (by decide) (by decide) ?_
  refine e_iload f_119_92 rfl ?_
  refine e_iadd f_119_93 ?_
  obtain ⟨hg, hV⟩ := hV
  refine e_ia (n := 400) f_119_94 (by decide) (by decide) hg ?_
  refine e_iconst (c := 111) f_119_95 (by decide) ?_
  refine e_icmp f_119_97 (fun hc => ?_) (fun hc => ?_)
  · have hc := x_cct_ne hc
    rw [if_neg hc] at hV
    refine e_iconst (c := 0) f_119_106 (by decide) ?_
    refine e_ior f_119_107 ?_
    refine e_istore (L' := [.ref 56, .int (a1 ||| 0), .int s0, .int a3]) f_119_108 (Nat.le_of_ble_eq_true rfl) rfl ?_
    refine e_inc (c := 1) (L' := [.ref 56, .int (a1 ||| 0), .int s0, .int (a3 + 1)]) f_119_109 rfl (by decide) rfl ?_
    refine e_goto f_119_112 ?_
    exact hV
  · have hc := x_ccf_ne hc
    rw [if_pos hc] at hV
    refine e_iconst (c := 1) f_119_100 (by decide) ?_
    refine e_iload f_119_101 rfl ?_
    refine e_ishl f_119_102 ?_
    refine e_goto f_119_103 ?_
    refine e_ior f_119_107 ?_
    refine e_istore (L' := [.ref 56, .int (a1 ||| (1 <<< (a3 &&& 31))), .int s0, .int a3]) f_119_108 (Nat.le_of_ble_eq_true rfl) rfl ?_
    refine e_inc (c := 1) (L' := [.ref 56, .int (a1 ||| (1 <<< (a3 &&& 31))), .int s0, .int (a3 + 1)]) f_119_109 rfl (by decide) rfl ?_
    refine e_goto f_119_112 ?_
    exact hV
set_option maxRecDepth 20000 in
theorem T_119_115 {xs : List Int32} {d : Nat} {S : x_M} {Q : Option Value → x_M → Prop} {a1 : Int32} {a2 : Int32} {a3 : Int32}  (hV : if a2 = 0 then (∀ S3 : x_M, S3 = x_up S 56 3 1 → (Q (some (.int 0)) S3)) else ((x_ib (S 56 16) 14) ∧ (∀ S1 : x_M, S1 = x_up S 64 (Int32.toNatClampNeg (S 56 16)) a1 → (∃ P2 : x_M → Prop, x_Cv xs d 111 [.ref 56] S1 P2 ∧ ∀ (S2 : x_M), P2 S2 → (Q (some (.int 1)) S2))))) : x_E xs (d + 1) 119 115 [.ref 56, .int a1, .int a2, .int a3] [] S Q := by
  refine e_iload f_119_115 rfl ?_
  refine e_if f_119_116 (fun hc => ?_) (fun hc => ?_)
  · have hc := x_cct_ne hc
    rw [if_neg hc] at hV
    refine e_aload f_119_126 rfl (by decide) ?_
    refine e_gr (c := 6) (j := 14) (r := 64) f_119_127 (by decide) (by decide) (by decide) (by decide) ?_
    refine e_aload f_119_130 rfl (by decide) ?_
    refine e_gf (c := 6) (j := 16) f_119_131 (by decide) (by decide) (by decide) ?_
    refine e_iload f_119_134 rfl ?_
    obtain ⟨hg, hV⟩ := hV
    refine e_isn (n := 14) f_119_135 (by decide) (by decide) hg (fun S1 hS1 => ?_)
    have hV := hV S1 hS1
    refine e_aload f_119_136 rfl (by decide) ?_
    obtain ⟨P2, hP2, hV⟩ := hV
    refine e_vv (n := 1) (A := [.ref 56]) (R := []) f_119_137 na_111 rfl rfl (Nat.le_of_ble_eq_true rfl) (Nat.le_of_ble_eq_true rfl) (by rw [ml_111]; exact Nat.le_of_ble_eq_true rfl) rfl (by rw [cy_111]; decide) (by rw [cy_111]; exact (by decide : x_tg 56 = 6)) hP2 (fun S2 hp2 => ?_)
    have hV := hV S2 hp2
    refine e_iconst (c := 1) f_119_140 (by decide) ?_
    exact e_ireturn f_119_141 rt_119 (by decide) hV
  · have hc := x_ccf_ne hc
    rw [if_pos hc] at hV
    refine e_aload f_119_119 rfl (by decide) ?_
    refine e_iconst (c := 1) f_119_120 (by decide) ?_
    refine e_pfn (c := 6) (j := 3) f_119_121 (by decide) (by decide) (by decide) (x_fit_i rfl) (fun S3 hS3 => ?_)
    have hV := hV S3 hS3
    refine e_iconst (c := 0) f_119_124 (by decide) ?_
    exact e_ireturn f_119_125 rt_119 (by decide) hV
set_option maxRecDepth 20000 in
theorem T_120_0 {xs : List Int32} {d : Nat} {S : x_M} {Q : Option Value → x_M → Prop}   (hV : x_E xs (d + 1) 120 2 [.ref 56, .int 0] [] S Q) : x_E xs (d + 1) 120 0 [.ref 56, .null] [] S Q := by
  refine e_iconst (c := 0) f_120_0 (by decide) ?_
  refine e_istore (L' := [.ref 56, .int 0]) f_120_1 (Nat.le_of_ble_eq_true rfl) rfl ?_
  exact hV
set_option maxRecDepth 20000 in
theorem T_120_2 {xs : List Int32} {d : Nat} {S : x_M} {Q : Option Value → x_M → Prop} {a1 : Int32}  (hV : if (8 * (S 57 1)) ≤ a1 then (Q none S) else ((x_ib (2 + (a1 / 8)) 99) ∧ (∃ P1 : Int32 → x_M → Prop, x_Ci xs d 121 [.int (S 57 (Int32.toNatClampNeg (2 + (a1 / 8)))), .int (a1 - a1 / 8 * 8)] S P1 ∧ ∀ (v1 : Int32) (S1 : x_M), P1 v1 S1 → ((x_ib a1 112) ∧ (∀ S2 : x_M, S2 = x_up S1 66 (Int32.toNatClampNeg a1) v1 → (x_E xs (d + 1) 120 2 [.ref 56, .int (a1 + 1)] [] S2 Q)))))) : x_E xs (d + 1) 120 2 [.ref 56, .int a1] [] S Q := by
  refine e_iload f_120_2 rfl ?_
  refine e_iconst (c := 8) f_120_3 (by decide) ?_
  refine e_aload f_120_5 rfl (by decide) ?_
  refine e_gr (c := 6) (j := 0) (r := 57) f_120_6 (by decide) (by decide) (by decide) (by decide) ?_
  refine e_iconst (c := 1) f_120_9 (by decide) ?_
  refine e_iak (n := 99) (kk := 1) f_120_10 (by decide) (by decide) (by decide) ?_
  refine e_imul f_120_11 ?_
  refine e_icmp f_120_12 (fun hc => ?_) (fun hc => ?_)
  · have hc := x_cct_ge hc
    rw [if_pos hc] at hV
    exact e_return f_120_45 rt_120 hV
  · have hc := x_ccf_ge hc
    rw [if_neg hc] at hV
    refine e_aload f_120_15 rfl (by decide) ?_
    refine e_gr (c := 6) (j := 17) (r := 66) f_120_16 (by decide) (by decide) (by decide) (by decide) ?_
    refine e_iload f_120_19 rfl ?_
    refine e_aload f_120_20 rfl (by decide) ?_
    refine e_gr (c := 6) (j := 0) (r := 57) f_120_21 (by decide) (by decide) (by decide) (by decide) ?_
    refine e_iconst (c := 2) f_120_24 (by decide) ?_
    refine e_iload f_120_25 rfl ?_
    refine e_iconst (c := 8) f_120_26 (by decide) ?_
    refine e_idiv f_120_28 (by decide) ?_
    refine e_iadd f_120_29 ?_
    obtain ⟨hg, hV⟩ := hV
    refine e_ia (n := 99) f_120_30 (by decide) (by decide) hg ?_
    refine e_iload f_120_31 rfl ?_
    refine e_iconst (c := 8) f_120_32 (by decide) ?_
    refine e_irem f_120_34 (by decide) ?_
    obtain ⟨P1, hP1, hV⟩ := hV
    refine e_si (n := 2) (A := [.int (S 57 (Int32.toNatClampNeg (2 + (a1 / 8)))), .int (a1 - a1 / 8 * 8)]) (R := [.int a1, .ref 66]) f_120_35 na_121 rfl rfl (Nat.le_of_ble_eq_true rfl) (Nat.le_of_ble_eq_true rfl) (by rw [ml_121]; exact Nat.le_of_ble_eq_true rfl) hP1 (fun v1 S1 hp1 => ?_)
    have hV := hV v1 S1 hp1
    obtain ⟨hg, hV⟩ := hV
    refine e_isn (n := 112) f_120_38 (by decide) (by decide) hg (fun S2 hS2 => ?_)
    have hV := hV S2 hS2
    refine e_inc (c := 1) (L' := [.ref 56, .int (a1 + 1)]) f_120_39 rfl (by decide) rfl ?_
    refine e_goto f_120_42 ?_
    exact hV
set_option maxRecDepth 20000 in
theorem T_121_0 {xs : List Int32} {d : Nat} {S : x_M} {Q : Option Value → x_M → Prop} {a0 : Int32} {a1 : Int32}  (hV : x_E xs (d + 1) 121 4 [.int a0, .int a1, .int 0, .int 0, .null, .null, .null, .null] [] S Q) : x_E xs (d + 1) 121 0 [.int a0, .int a1, .null, .null, .null, .null, .null, .null] [] S Q := by
  refine e_iconst (c := 0) f_121_0 (by decide) ?_
  refine e_istore (L' := [.int a0, .int a1, .int 0, .null, .null, .null, .null, .null]) f_121_1 (Nat.le_of_ble_eq_true rfl) rfl ?_
  refine e_iconst (c := 0) f_121_2 (by decide) ?_
  refine e_istore (L' := [.int a0, .int a1, .int 0, .int 0, .null, .null, .null, .null]) f_121_3 (Nat.le_of_ble_eq_true rfl) rfl ?_
  exact hV
set_option maxRecDepth 20000 in
theorem T_121_4 {xs : List Int32} {d : Nat} {S : x_M} {Q : Option Value → x_M → Prop} {a0 : Int32} {a1 : Int32} {a2 : Int32} {a3 : Int32} {a4 : Value} {a5 : Value} {a6 : Value} {a7 : Value}  (hV : if (9 : Int32) ≤ a3 then (Q (some (.int a2)) S) else (if (4 : Int32) ≤ a1 then (x_E xs (d + 1) 121 36 [.int a0, .int a1, .int a2, .int a3, .int (2 - (a3 - a3 / 3 * 3)), .int (a3 / 3), .int 0, a7] [] S Q) else (x_E xs (d + 1) 121 36 [.int a0, .int a1, .int a2, .int a3, .int (a3 - a3 / 3 * 3), .int (a3 / 3), .int 0, a7] [] S Q))) : x_E xs (d + 1) 121 4 [.int a0, .int a1, .int a2, .int a3, a4, a5, a6, a7] [] S Q := by
  refine e_iload f_121_4 rfl ?_
  refine e_iconst (c := 9) f_121_5 (by decide) ?_
  refine e_icmp f_121_7 (fun hc => ?_) (fun hc => ?_)
  · have hc := x_cct_ge hc
    rw [if_pos hc] at hV
    refine e_iload f_121_94 rfl ?_
    exact e_ireturn f_121_95 rt_121 rfl hV
  · have hc := x_ccf_ge hc
    rw [if_neg hc] at hV
    refine e_iload f_121_10 rfl ?_
    refine e_iconst (c := 4) f_121_11 (by decide) ?_
    refine e_icmp f_121_12 (fun hc => ?_) (fun hc => ?_)
    · have hc := x_cct_ge hc
      rw [if_pos hc] at hV
      refine e_iconst (c := 2) f_121_21 (by decide) ?_
      refine e_iload f_121_22 rfl ?_
      refine e_iconst (c := 3) f_121_23 (by decide) ?_
      refine e_irem f_121_24 (by decide) ?_
      refine e_isub f_121_25 ?_
      refine e_istore (L' := [.int a0, .int a1, .int a2, .int a3, .int (2 - (a3 - a3 / 3 * 3)), a5, a6, a7]) f_121_26 (Nat.le_of_ble_eq_true rfl) rfl ?_
      refine e_iload f_121_28 rfl ?_
      refine e_iconst (c := 3) f_121_29 (by decide) ?_
      refine e_idiv f_121_30 (by decide) ?_
      refine e_istore (L' := [.int a0, .int a1, .int a2, .int a3, .int (2 - (a3 - a3 / 3 * 3)), .int (a3 / 3), a6, a7]) f_121_31 (Nat.le_of_ble_eq_true rfl) rfl ?_
      refine e_iconst (c := 0) f_121_33 (by decide) ?_
      refine e_istore (L' := [.int a0, .int a1, .int a2, .int a3, .int (2 - (a3 - a3 / 3 * 3)), .int (a3 / 3), .int 0, a7]) f_121_34 (Nat.le_of_ble_eq_true rfl) rfl ?_
      exact hV
    · have hc := x_ccf_ge hc
      rw [if_neg hc] at hV
      refine e_iload f_121_15 rfl ?_
      refine e_iconst (c := 3) f_121_16 (by decide) ?_
      refine e_irem f_121_17 (by decide) ?_
      refine e_goto f_121_18 ?_
      refine e_istore (L' := [.int a0, .int a1, .int a2, .int a3, .int (a3 - a3 / 3 * 3), a5, a6, a7]) f_121_26 (Nat.le_of_ble_eq_true rfl) rfl ?_
      refine e_iload f_121_28 rfl ?_
      refine e_iconst (c := 3) f_121_29 (by decide) ?_
      refine e_idiv f_121_30 (by decide) ?_
      refine e_istore (L' := [.int a0, .int a1, .int a2, .int a3, .int (a3 - a3 / 3 * 3), .int (a3 / 3), a6, a7]) f_121_31 (Nat.le_of_ble_eq_true rfl) rfl ?_
      refine e_iconst (c := 0) f_121_33 (by decide) ?_
      refine e_istore (L' := [.int a0, .int a1, .int a2, .int a3, .int (a3 - a3 / 3 * 3), .int (a3 / 3), .int 0, a7]) f_121_34 (Nat.le_of_ble_eq_true rfl) rfl ?_
      exact hV
set_option maxRecDepth 20000 in
theorem T_121_36 {xs : List Int32} {d : Nat} {S : x_M} {Q : Option Value → x_M → Prop} {a0 : Int32} {a1 : Int32} {a2 : Int32} {a3 : Int32} {a4 : Int32} {a5 : Int32} {a6 : Int32} {a7 : Value}  (hV : if (a1 - a1 / 4 * 4) ≤ a6 then (∃ P1 : Int32 → x_M → Prop, x_Ci xs d 122 [.int a0, .int a3] S P1 ∧ ∀ (v1 : Int32) (S1 : x_M), P1 v1 S1 → (if v1 = 0 then (x_E xs (d + 1) 121 4 [.int a0, .int a1, .int (a2 ||| 0), .int (a3 + 1), .int a4, .int a5, .int a6, a7] [] S1 Q) else (x_E xs (d + 1) 121 4 [.int a0, .int a1, .int (a2 ||| (1 <<< ((a4 + (3 * a5)) &&& 31))), .int (a3 + 1), .int a4, .int a5, .int a6, a7] [] S1 Q))) else (x_E xs (d + 1) 121 36 [.int a0, .int a1, .int a2, .int a3, .int (2 - a5), .int a4, .int (a6 + 1), .int a4] [] S Q)) : x_E xs (d + 1) 121 36 [.int a0, .int a1, .int a2, .int a3, .int a4, .int a5, .int a6, a7] [] S Q := by
  refine e_iload f_121_36 rfl ?_
  refine e_iload f_121_38 rfl ?_
  refine e_iconst (c := 4) f_121_39 (by decide) ?_
  refine e_irem f_121_40 (by decide) ?_
  refine e_icmp f_121_41 (fun hc => ?_) (fun hc => ?_)
  · have hc := x_cct_ge hc
    rw [if_pos hc] at hV
    refine e_iload f_121_64 rfl ?_
    refine e_iload f_121_65 rfl ?_
    refine e_iload f_121_66 rfl ?_
    obtain ⟨P1, hP1, hV⟩ := hV
    refine e_si (n := 2) (A := [.int a0, .int a3]) (R := [.int a2]) f_121_67 na_122 rfl rfl (Nat.le_of_ble_eq_true rfl) (Nat.le_of_ble_eq_true rfl) (by rw [ml_122]; exact Nat.le_of_ble_eq_true rfl) hP1 (fun v1 S1 hp1 => ?_)
    have hV := hV v1 S1 hp1
    refine e_if f_121_70 (fun hc => ?_) (fun hc => ?_)
    · have hc := x_cct_eq hc
      rw [if_pos hc] at hV
      refine e_iconst (c := 0) f_121_85 (by decide) ?_
      refine e_ior f_121_86 ?_
      refine e_istore (L' := [.int a0, .int a1, .int (a2 ||| 0), .int a3, .int a4, .int a5, .int a6, a7]) f_121_87 (Nat.le_of_ble_eq_true rfl) rfl ?_
      refine e_inc (c := 1) (L' := [.int a0, .int a1, .int (a2 ||| 0), .int (a3 + 1), .int a4, .int a5, .int a6, a7]) f_121_88 rfl (by decide) rfl ?_
      refine e_goto f_121_91 ?_
      exact hV
    · have hc := x_ccf_eq hc
      rw [if_neg hc] at hV
      refine e_iconst (c := 1) f_121_73 (by decide) ?_
      refine e_iload f_121_74 rfl ?_
      refine e_iconst (c := 3) f_121_76 (by decide) ?_
      refine e_iload f_121_77 rfl ?_
      refine e_imul f_121_79 ?_
      refine e_iadd f_121_80 ?_
      refine e_ishl f_121_81 ?_
      refine e_goto f_121_82 ?_
      refine e_ior f_121_86 ?_
      refine e_istore (L' := [.int a0, .int a1, .int (a2 ||| (1 <<< ((a4 + (3 * a5)) &&& 31))), .int a3, .int a4, .int a5, .int a6, a7]) f_121_87 (Nat.le_of_ble_eq_true rfl) rfl ?_
      refine e_inc (c := 1) (L' := [.int a0, .int a1, .int (a2 ||| (1 <<< ((a4 + (3 * a5)) &&& 31))), .int (a3 + 1), .int a4, .int a5, .int a6, a7]) f_121_88 rfl (by decide) rfl ?_
      refine e_goto f_121_91 ?_
      exact hV
  · have hc := x_ccf_ge hc
    rw [if_neg hc] at hV
    refine e_iload f_121_44 rfl ?_
    refine e_istore (L' := [.int a0, .int a1, .int a2, .int a3, .int a4, .int a5, .int a6, .int a4]) f_121_46 (Nat.le_of_ble_eq_true rfl) rfl ?_
    refine e_iconst (c := 2) f_121_48 (by decide) ?_
    refine e_iload f_121_49 rfl ?_
    refine e_isub f_121_51 ?_
    refine e_istore (L' := [.int a0, .int a1, .int a2, .int a3, .int (2 - a5), .int a5, .int a6, .int a4]) f_121_52 (Nat.le_of_ble_eq_true rfl) rfl ?_
    refine e_iload f_121_54 rfl ?_
    refine e_istore (L' := [.int a0, .int a1, .int a2, .int a3, .int (2 - a5), .int a4, .int a6, .int a4]) f_121_56 (Nat.le_of_ble_eq_true rfl) rfl ?_
    refine e_inc (c := 1) (L' := [.int a0, .int a1, .int a2, .int a3, .int (2 - a5), .int a4, .int (a6 + 1), .int a4]) f_121_58 rfl (by decide) rfl ?_
    refine e_goto f_121_61 ?_
    exact hV
set_option maxRecDepth 20000 in
theorem T_122_0 {xs : List Int32} {d : Nat} {S : x_M} {Q : Option Value → x_M → Prop} {a0 : Int32} {a1 : Int32}  (hV : if ((a0 >>> (a1 &&& 31)) &&& 1) = 1 then (Q (some (.int 1)) S) else (Q (some (.int 0)) S)) : x_E xs (d + 1) 122 0 [.int a0, .int a1] [] S Q := by
  refine e_iload f_122_0 rfl ?_
  refine e_iload f_122_1 rfl ?_
  refine e_ishr f_122_2 ?_
  refine e_iconst (c := 1) f_122_3 (by decide) ?_
  refine e_iand f_122_4 ?_
  refine e_iconst (c := 1) f_122_5 (by decide) ?_
  refine e_icmp f_122_6 (fun hc => ?_) (fun hc => ?_)
  · have hc := x_cct_ne hc
    rw [if_neg hc] at hV
    refine e_iconst (c := 0) f_122_13 (by decide) ?_
    exact e_ireturn f_122_14 rt_122 (by decide) hV
  · have hc := x_ccf_ne hc
    rw [if_pos hc] at hV
    refine e_iconst (c := 1) f_122_9 (by decide) ?_
    refine e_goto f_122_10 ?_
    exact e_ireturn f_122_14 rt_122 (by decide) hV
set_option maxRecDepth 20000 in
theorem T_123_0 {xs : List Int32} {d : Nat} {S : x_M} {Q : Option Value → x_M → Prop}   (hV : Q (some (.int (S 56 3))) S) : x_E xs (d + 1) 123 0 [.ref 56] [] S Q := by
  refine e_aload f_123_0 rfl (by decide) ?_
  refine e_gf (c := 6) (j := 3) f_123_1 (by decide) (by decide) (by decide) ?_
  exact e_ireturn f_123_4 rt_123 rfl hV
set_option maxRecDepth 20000 in
theorem T_124_0 {xs : List Int32} {d : Nat} {S : x_M} {Q : Option Value → x_M → Prop} {a1 : Int32} {a2 : Int32}  (hV : ∃ P1 : Int32 → x_M → Prop, x_Ci xs d 125 [.ref 56, .int a1] S P1 ∧ ∀ (v1 : Int32) (S1 : x_M), P1 v1 S1 → (if v1 = 0 then (Q (some (.int (-1000001))) S1) else (∃ P2 : Int32 → x_M → Prop, x_Ci xs d 126 [.int a2] S1 P2 ∧ ∀ (v2 : Int32) (S2 : x_M), P2 v2 S2 → (if v2 = 0 then (Q (some (.int (-1000001))) S2) else ((x_ib ((8 * a1) + a2) 112) ∧ (Q (some (.int (S2 66 (Int32.toNatClampNeg ((8 * a1) + a2))))) S2)))))) : x_E xs (d + 1) 124 0 [.ref 56, .int a1, .int a2] [] S Q := by
  refine e_aload f_124_0 rfl (by decide) ?_
  refine e_iload f_124_1 rfl ?_
  obtain ⟨P1, hP1, hV⟩ := hV
  refine e_vi (n := 2) (A := [.ref 56, .int a1]) (R := []) f_124_2 na_125 rfl rfl (Nat.le_of_ble_eq_true rfl) (Nat.le_of_ble_eq_true rfl) (by rw [ml_125]; exact Nat.le_of_ble_eq_true rfl) rfl (by rw [cy_125]; decide) (by rw [cy_125]; exact (by decide : x_tg 56 = 6)) hP1 (fun v1 S1 hp1 => ?_)
  have hV := hV v1 S1 hp1
  refine e_if f_124_5 (fun hc => ?_) (fun hc => ?_)
  · have hc := x_cct_eq hc
    rw [if_pos hc] at hV
    refine e_iconst (c := (-1000001)) f_124_29 (by decide) ?_
    exact e_ireturn f_124_31 rt_124 rfl hV
  · have hc := x_ccf_eq hc
    rw [if_neg hc] at hV
    refine e_iload f_124_8 rfl ?_
    obtain ⟨P2, hP2, hV⟩ := hV
    refine e_si (n := 1) (A := [.int a2]) (R := []) f_124_9 na_126 rfl rfl (Nat.le_of_ble_eq_true rfl) (Nat.le_of_ble_eq_true rfl) (by rw [ml_126]; exact Nat.le_of_ble_eq_true rfl) hP2 (fun v2 S2 hp2 => ?_)
    have hV := hV v2 S2 hp2
    refine e_if f_124_12 (fun hc => ?_) (fun hc => ?_)
    · have hc := x_cct_eq hc
      rw [if_pos hc] at hV
      refine e_iconst (c := (-1000001)) f_124_29 (by decide) ?_
      exact e_ireturn f_124_31 rt_124 rfl hV
    · have hc := x_ccf_eq hc
      rw [if_neg hc] at hV
      refine e_aload f_124_15 rfl (by decide) ?_
      refine e_gr (c := 6) (j := 17) (r := 66) f_124_16 (by decide) (by decide) (by decide) (by decide) ?_
      refine e_iconst (c := 8) f_124_19 (by decide) ?_
      refine e_iload f_124_21 rfl ?_
      refine e_imul f_124_22 ?_
      refine e_iload f_124_23 rfl ?_
      refine e_iadd f_124_24 ?_
      obtain ⟨hg, hV⟩ := hV
      refine e_ia (n := 112) f_124_25 (by decide) (by decide) hg ?_
      refine e_goto f_124_26 ?_
      exact e_ireturn f_124_31 rt_124 rfl hV
set_option maxRecDepth 20000 in
theorem T_125_0 {xs : List Int32} {d : Nat} {S : x_M} {Q : Option Value → x_M → Prop} {a1 : Int32}  (hV : ∃ P1 : Int32 → x_M → Prop, x_Ci xs d 101 [.long (Int32.toInt64 a1), .long 0, .long (Int32.toInt64 ((S 57 1) - 1))] S P1 ∧ ∀ (v1 : Int32) (S1 : x_M), P1 v1 S1 → ((v1 = 0 ∨ v1 = 1) ∧ Q (some (.int v1)) S1)) : x_E xs (d + 1) 125 0 [.ref 56, .int a1] [] S Q := by
  refine e_iload f_125_0 rfl ?_
  refine e_i2l f_125_1 ?_
  refine e_lconst (c := 0) f_125_2 (by decide) ?_
  refine e_aload f_125_3 rfl (by decide) ?_
  refine e_gr (c := 6) (j := 0) (r := 57) f_125_4 (by decide) (by decide) (by decide) (by decide) ?_
  refine e_iconst (c := 1) f_125_7 (by decide) ?_
  refine e_iak (n := 99) (kk := 1) f_125_8 (by decide) (by decide) (by decide) ?_
  refine e_iconst (c := 1) f_125_9 (by decide) ?_
  refine e_isub f_125_10 ?_
  refine e_i2l f_125_11 ?_
  obtain ⟨P1, hP1, hV⟩ := hV
  refine e_si (n := 3) (A := [.long (Int32.toInt64 a1), .long 0, .long (Int32.toInt64 ((S 57 1) - 1))]) (R := []) f_125_12 na_101 rfl rfl (Nat.le_of_ble_eq_true rfl) (Nat.le_of_ble_eq_true rfl) (by rw [ml_101]; exact Nat.le_of_ble_eq_true rfl) hP1 (fun v1 S1 hp1 => ?_)
  have hV := hV v1 S1 hp1
  obtain ⟨hg, hV⟩ := hV
  exact e_ireturn f_125_15 rt_125 (x_nz hg) hV
set_option maxRecDepth 20000 in
theorem T_126_0 {xs : List Int32} {d : Nat} {S : x_M} {Q : Option Value → x_M → Prop} {a0 : Int32}  (hV : ∃ P1 : Int32 → x_M → Prop, x_Ci xs d 101 [.long (Int32.toInt64 a0), .long 0, .long 7] S P1 ∧ ∀ (v1 : Int32) (S1 : x_M), P1 v1 S1 → ((v1 = 0 ∨ v1 = 1) ∧ Q (some (.int v1)) S1)) : x_E xs (d + 1) 126 0 [.int a0] [] S Q := by
  refine e_iload f_126_0 rfl ?_
  refine e_i2l f_126_1 ?_
  refine e_lconst (c := 0) f_126_2 (by decide) ?_
  refine e_lconst (c := 7) f_126_3 (by decide) ?_
  obtain ⟨P1, hP1, hV⟩ := hV
  refine e_si (n := 3) (A := [.long (Int32.toInt64 a0), .long 0, .long 7]) (R := []) f_126_6 na_101 rfl rfl (Nat.le_of_ble_eq_true rfl) (Nat.le_of_ble_eq_true rfl) (by rw [ml_101]; exact Nat.le_of_ble_eq_true rfl) hP1 (fun v1 S1 hp1 => ?_)
  have hV := hV v1 S1 hp1
  obtain ⟨hg, hV⟩ := hV
  exact e_ireturn f_126_9 rt_126 (x_nz hg) hV
set_option maxRecDepth 20000 in
theorem T_127_0 {xs : List Int32} {d : Nat} {S : x_M} {Q : Option Value → x_M → Prop} {a1 : Int32}  (hV : if (S 57 0) = 0 then (Q (some (.int (-1000002))) S) else (∃ P1 : Int32 → x_M → Prop, x_Ci xs d 128 [.int a1] S P1 ∧ ∀ (v1 : Int32) (S1 : x_M), P1 v1 S1 → (if v1 = 0 then (Q (some (.int (-1000001))) S1) else (∃ P2 : Int32 → x_M → Prop, x_Ci xs d 129 [.ref 56, .int a1] S1 P2 ∧ ∀ (v2 : Int32) (S2 : x_M), P2 v2 S2 → (Q (some (.int v2)) S2))))) : x_E xs (d + 1) 127 0 [.ref 56, .int a1] [] S Q := by
  refine e_aload f_127_0 rfl (by decide) ?_
  refine e_gr (c := 6) (j := 0) (r := 57) f_127_1 (by decide) (by decide) (by decide) (by decide) ?_
  refine e_iconst (c := 0) f_127_4 (by decide) ?_
  refine e_iak (n := 99) (kk := 0) f_127_5 (by decide) (by decide) (by decide) ?_
  refine e_if f_127_6 (fun hc => ?_) (fun hc => ?_)
  · have hc := x_cct_ne hc
    rw [if_neg hc] at hV
    refine e_iload f_127_14 rfl ?_
    obtain ⟨P1, hP1, hV⟩ := hV
    refine e_si (n := 1) (A := [.int a1]) (R := []) f_127_15 na_128 rfl rfl (Nat.le_of_ble_eq_true rfl) (Nat.le_of_ble_eq_true rfl) (by rw [ml_128]; exact Nat.le_of_ble_eq_true rfl) hP1 (fun v1 S1 hp1 => ?_)
    have hV := hV v1 S1 hp1
    refine e_if f_127_18 (fun hc => ?_) (fun hc => ?_)
    · have hc := x_cct_eq hc
      rw [if_pos hc] at hV
      refine e_iconst (c := (-1000001)) f_127_29 (by decide) ?_
      exact e_ireturn f_127_31 rt_127 rfl hV
    · have hc := x_ccf_eq hc
      rw [if_neg hc] at hV
      refine e_aload f_127_21 rfl (by decide) ?_
      refine e_iload f_127_22 rfl ?_
      obtain ⟨P2, hP2, hV⟩ := hV
      refine e_vi (n := 2) (A := [.ref 56, .int a1]) (R := []) f_127_23 na_129 rfl rfl (Nat.le_of_ble_eq_true rfl) (Nat.le_of_ble_eq_true rfl) (by rw [ml_129]; exact Nat.le_of_ble_eq_true rfl) rfl (by rw [cy_129]; decide) (by rw [cy_129]; exact (by decide : x_tg 56 = 6)) hP2 (fun v2 S2 hp2 => ?_)
      have hV := hV v2 S2 hp2
      refine e_goto f_127_26 ?_
      exact e_ireturn f_127_31 rt_127 rfl hV
  · have hc := x_ccf_ne hc
    rw [if_pos hc] at hV
    refine e_iconst (c := (-1000002)) f_127_9 (by decide) ?_
    refine e_goto f_127_11 ?_
    exact e_ireturn f_127_31 rt_127 rfl hV
set_option maxRecDepth 20000 in
theorem T_128_0 {xs : List Int32} {d : Nat} {S : x_M} {Q : Option Value → x_M → Prop} {a0 : Int32}  (hV : ∃ P1 : Int32 → x_M → Prop, x_Ci xs d 101 [.long (Int32.toInt64 a0), .long 0, .long 511] S P1 ∧ ∀ (v1 : Int32) (S1 : x_M), P1 v1 S1 → ((v1 = 0 ∨ v1 = 1) ∧ Q (some (.int v1)) S1)) : x_E xs (d + 1) 128 0 [.int a0] [] S Q := by
  refine e_iload f_128_0 rfl ?_
  refine e_i2l f_128_1 ?_
  refine e_lconst (c := 0) f_128_2 (by decide) ?_
  refine e_lconst (c := 511) f_128_3 (by decide) ?_
  obtain ⟨P1, hP1, hV⟩ := hV
  refine e_si (n := 3) (A := [.long (Int32.toInt64 a0), .long 0, .long 511]) (R := []) f_128_6 na_101 rfl rfl (Nat.le_of_ble_eq_true rfl) (Nat.le_of_ble_eq_true rfl) (by rw [ml_101]; exact Nat.le_of_ble_eq_true rfl) hP1 (fun v1 S1 hp1 => ?_)
  have hV := hV v1 S1 hp1
  obtain ⟨hg, hV⟩ := hV
  exact e_ireturn f_128_9 rt_128 (x_nz hg) hV
set_option maxRecDepth 20000 in
theorem T_129_0 {xs : List Int32} {d : Nat} {S : x_M} {Q : Option Value → x_M → Prop} {a1 : Int32}  (hV : x_E xs (d + 1) 129 4 [.ref 56, .int a1, .int 0, .int 0] [] S Q) : x_E xs (d + 1) 129 0 [.ref 56, .int a1, .null, .null] [] S Q := by
  refine e_iconst (c := 0) f_129_0 (by decide) ?_
  refine e_istore (L' := [.ref 56, .int a1, .int 0, .null]) f_129_1 (Nat.le_of_ble_eq_true rfl) rfl ?_
  refine e_iconst (c := 0) f_129_2 (by decide) ?_
  refine e_istore (L' := [.ref 56, .int a1, .int 0, .int 0]) f_129_3 (Nat.le_of_ble_eq_true rfl) rfl ?_
  exact hV
set_option maxRecDepth 20000 in
theorem T_129_4 {xs : List Int32} {d : Nat} {S : x_M} {Q : Option Value → x_M → Prop} {a1 : Int32} {a2 : Int32} {a3 : Int32}  (hV : if (9 : Int32) ≤ a3 then (Q (some (.int a2)) S) else (∃ P1 : Int32 → x_M → Prop, x_Ci xs d 122 [.int a1, .int a3] S P1 ∧ ∀ (v1 : Int32) (S1 : x_M), P1 v1 S1 → (if v1 = 0 then (x_E xs (d + 1) 129 4 [.ref 56, .int a1, .int (a2 + 0), .int (a3 + 1)] [] S1 Q) else ((x_ib (16 + a3) 99) ∧ (x_E xs (d + 1) 129 4 [.ref 56, .int a1, .int (a2 + (S1 57 (Int32.toNatClampNeg (16 + a3)))), .int (a3 + 1)] [] S1 Q))))) : x_E xs (d + 1) 129 4 [.ref 56, .int a1, .int a2, .int a3] [] S Q := by
  refine e_iload f_129_4 rfl ?_
  refine e_iconst (c := 9) f_129_5 (by decide) ?_
  refine e_icmp f_129_7 (fun hc => ?_) (fun hc => ?_)
  · have hc := x_cct_ge hc
    rw [if_pos hc] at hV
    refine e_iload f_129_40 rfl ?_
    exact e_ireturn f_129_41 rt_129 rfl hV
  · have hc := x_ccf_ge hc
    rw [if_neg hc] at hV
    refine e_iload f_129_10 rfl ?_
    refine e_iload f_129_11 rfl ?_
    refine e_iload f_129_12 rfl ?_
    obtain ⟨P1, hP1, hV⟩ := hV
    refine e_si (n := 2) (A := [.int a1, .int a3]) (R := [.int a2]) f_129_13 na_122 rfl rfl (Nat.le_of_ble_eq_true rfl) (Nat.le_of_ble_eq_true rfl) (by rw [ml_122]; exact Nat.le_of_ble_eq_true rfl) hP1 (fun v1 S1 hp1 => ?_)
    have hV := hV v1 S1 hp1
    refine e_if f_129_16 (fun hc => ?_) (fun hc => ?_)
    · have hc := x_cct_eq hc
      rw [if_pos hc] at hV
      refine e_iconst (c := 0) f_129_31 (by decide) ?_
      refine e_iadd f_129_32 ?_
      refine e_istore (L' := [.ref 56, .int a1, .int (a2 + 0), .int a3]) f_129_33 (Nat.le_of_ble_eq_true rfl) rfl ?_
      refine e_inc (c := 1) (L' := [.ref 56, .int a1, .int (a2 + 0), .int (a3 + 1)]) f_129_34 rfl (by decide) rfl ?_
      refine e_goto f_129_37 ?_
      exact hV
    · have hc := x_ccf_eq hc
      rw [if_neg hc] at hV
      refine e_aload f_129_19 rfl (by decide) ?_
      refine e_gr (c := 6) (j := 0) (r := 57) f_129_20 (by decide) (by decide) (by decide) (by decide) ?_
      refine e_iconst (c := 16) f_129_23 (by decide) ?_
      refine e_iload f_129_25 rfl ?_
      refine e_iadd f_129_26 ?_
      obtain ⟨hg, hV⟩ := hV
      refine e_ia (n := 99) f_129_27 (by decide) (by decide) hg ?_
      refine e_goto f_129_28 ?_
      refine e_iadd f_129_32 ?_
      refine e_istore (L' := [.ref 56, .int a1, .int (a2 + (S1 57 (Int32.toNatClampNeg (16 + a3)))), .int a3]) f_129_33 (Nat.le_of_ble_eq_true rfl) rfl ?_
      refine e_inc (c := 1) (L' := [.ref 56, .int a1, .int (a2 + (S1 57 (Int32.toNatClampNeg (16 + a3)))), .int (a3 + 1)]) f_129_34 rfl (by decide) rfl ?_
      refine e_goto f_129_37 ?_
      exact hV
set_option maxRecDepth 20000 in
theorem T_130_0 {xs : List Int32} {d : Nat} {S : x_M} {Q : Option Value → x_M → Prop} {a1 : Int32} {a2 : Int32}  (hV : ∃ P1 : Int32 → x_M → Prop, x_Ci xs d 125 [.ref 56, .int a1] S P1 ∧ ∀ (v1 : Int32) (S1 : x_M), P1 v1 S1 → (if v1 = 0 then (Q (some (.int (-1000001))) S1) else (∃ P2 : Int32 → x_M → Prop, x_Ci xs d 126 [.int a2] S1 P2 ∧ ∀ (v2 : Int32) (S2 : x_M), P2 v2 S2 → (if v2 = 0 then (Q (some (.int (-1000001))) S2) else (∃ P3 : Int32 → x_M → Prop, x_Ci xs d 131 [.ref 56, .int a1] S2 P3 ∧ ∀ (v3 : Int32) (S3 : x_M), P3 v3 S3 → (if v3 = 0 then (Q (some (.int (-1000002))) S3) else (∃ P4 : Int32 → x_M → Prop, x_Ci xs d 132 [.ref 56, .int ((8 * a1) + a2)] S3 P4 ∧ ∀ (v4 : Int32) (S4 : x_M), P4 v4 S4 → (Q (some (.int v4)) S4)))))))) : x_E xs (d + 1) 130 0 [.ref 56, .int a1, .int a2] [] S Q := by
  refine e_aload f_130_0 rfl (by decide) ?_
  refine e_iload f_130_1 rfl ?_
  obtain ⟨P1, hP1, hV⟩ := hV
  refine e_vi (n := 2) (A := [.ref 56, .int a1]) (R := []) f_130_2 na_125 rfl rfl (Nat.le_of_ble_eq_true rfl) (Nat.le_of_ble_eq_true rfl) (by rw [ml_125]; exact Nat.le_of_ble_eq_true rfl) rfl (by rw [cy_125]; decide) (by rw [cy_125]; exact (by decide : x_tg 56 = 6)) hP1 (fun v1 S1 hp1 => ?_)
  have hV := hV v1 S1 hp1
  refine e_if f_130_5 (fun hc => ?_) (fun hc => ?_)
  · have hc := x_cct_eq hc
    rw [if_pos hc] at hV
    refine e_iconst (c := (-1000001)) f_130_15 (by decide) ?_
    exact e_ireturn f_130_17 rt_130 rfl hV
  · have hc := x_ccf_eq hc
    rw [if_neg hc] at hV
    refine e_iload f_130_8 rfl ?_
    obtain ⟨P2, hP2, hV⟩ := hV
    refine e_si (n := 1) (A := [.int a2]) (R := []) f_130_9 na_126 rfl rfl (Nat.le_of_ble_eq_true rfl) (Nat.le_of_ble_eq_true rfl) (by rw [ml_126]; exact Nat.le_of_ble_eq_true rfl) hP2 (fun v2 S2 hp2 => ?_)
    have hV := hV v2 S2 hp2
    refine e_if f_130_12 (fun hc => ?_) (fun hc => ?_)
    · have hc := x_cct_ne hc
      rw [if_neg hc] at hV
      refine e_aload f_130_18 rfl (by decide) ?_
      refine e_iload f_130_19 rfl ?_
      obtain ⟨P3, hP3, hV⟩ := hV
      refine e_vi (n := 2) (A := [.ref 56, .int a1]) (R := []) f_130_20 na_131 rfl rfl (Nat.le_of_ble_eq_true rfl) (Nat.le_of_ble_eq_true rfl) (by rw [ml_131]; exact Nat.le_of_ble_eq_true rfl) rfl (by rw [cy_131]; decide) (by rw [cy_131]; exact (by decide : x_tg 56 = 6)) hP3 (fun v3 S3 hp3 => ?_)
      have hV := hV v3 S3 hp3
      refine e_if f_130_23 (fun hc => ?_) (fun hc => ?_)
      · have hc := x_cct_eq hc
        rw [if_pos hc] at hV
        refine e_iconst (c := (-1000002)) f_130_39 (by decide) ?_
        exact e_ireturn f_130_41 rt_130 rfl hV
      · have hc := x_ccf_eq hc
        rw [if_neg hc] at hV
        refine e_aload f_130_26 rfl (by decide) ?_
        refine e_iconst (c := 8) f_130_27 (by decide) ?_
        refine e_iload f_130_29 rfl ?_
        refine e_imul f_130_30 ?_
        refine e_iload f_130_31 rfl ?_
        refine e_iadd f_130_32 ?_
        obtain ⟨P4, hP4, hV⟩ := hV
        refine e_vi (n := 2) (A := [.ref 56, .int ((8 * a1) + a2)]) (R := []) f_130_33 na_132 rfl rfl (Nat.le_of_ble_eq_true rfl) (Nat.le_of_ble_eq_true rfl) (by rw [ml_132]; exact Nat.le_of_ble_eq_true rfl) rfl (by rw [cy_132]; decide) (by rw [cy_132]; exact (by decide : x_tg 56 = 6)) hP4 (fun v4 S4 hp4 => ?_)
        have hV := hV v4 S4 hp4
        refine e_goto f_130_36 ?_
        exact e_ireturn f_130_41 rt_130 rfl hV
    · have hc := x_ccf_ne hc
      rw [if_pos hc] at hV
      refine e_iconst (c := (-1000001)) f_130_15 (by decide) ?_
      exact e_ireturn f_130_17 rt_130 rfl hV
set_option maxRecDepth 20000 in
theorem T_131_0 {xs : List Int32} {d : Nat} {S : x_M} {Q : Option Value → x_M → Prop} {a1 : Int32}  (hV : (x_ib (30 + (S 57 27)) 99) ∧ (∃ P1 : Int32 → x_M → Prop, x_Ci xs d 122 [.int (S 57 (Int32.toNatClampNeg (30 + (S 57 27)))), .int a1] S P1 ∧ ∀ (v1 : Int32) (S1 : x_M), P1 v1 S1 → ((v1 = 0 ∨ v1 = 1) ∧ Q (some (.int v1)) S1))) : x_E xs (d + 1) 131 0 [.ref 56, .int a1] [] S Q := by
  refine e_aload f_131_0 rfl (by decide) ?_
  refine e_gr (c := 6) (j := 0) (r := 57) f_131_1 (by decide) (by decide) (by decide) (by decide) ?_
  refine e_iconst (c := 30) f_131_4 (by decide) ?_
  refine e_aload f_131_6 rfl (by decide) ?_
  refine e_gr (c := 6) (j := 0) (r := 57) f_131_7 (by decide) (by decide) (by decide) (by decide) ?_
  refine e_iconst (c := 27) f_131_10 (by decide) ?_
  refine e_iak (n := 99) (kk := 27) f_131_12 (by decide) (by decide) (by decide) ?_
  refine e_iadd f_131_13 ?_
  obtain ⟨hg, hV⟩ := hV
  refine e_ia (n := 99) f_131_14 (by decide) (by decide) hg ?_
  refine e_iload f_131_15 rfl ?_
  obtain ⟨P1, hP1, hV⟩ := hV
  refine e_si (n := 2) (A := [.int (S 57 (Int32.toNatClampNeg (30 + (S 57 27)))), .int a1]) (R := []) f_131_16 na_122 rfl rfl (Nat.le_of_ble_eq_true rfl) (Nat.le_of_ble_eq_true rfl) (by rw [ml_122]; exact Nat.le_of_ble_eq_true rfl) hP1 (fun v1 S1 hp1 => ?_)
  have hV := hV v1 S1 hp1
  obtain ⟨hg, hV⟩ := hV
  exact e_ireturn f_131_19 rt_131 (x_nz hg) hV
set_option maxRecDepth 20000 in
theorem T_132_0 {xs : List Int32} {d : Nat} {S : x_M} {Q : Option Value → x_M → Prop} {a1 : Int32}  (hV : (x_ib a1 112) ∧ (∃ P1 : Int32 → x_M → Prop, x_Ci xs d 129 [.ref 56, .int ((S 57 25) &&& (S 66 (Int32.toNatClampNeg a1)))] S P1 ∧ ∀ (v1 : Int32) (S1 : x_M), P1 v1 S1 → ((x_ib (28 + (S 57 27)) 99) ∧ ((x_ib (28 + (S 57 27)) 99) ∧ (∀ S2 : x_M, S2 = x_up S1 57 (Int32.toNatClampNeg (28 + (S 57 27))) ((S1 57 (Int32.toNatClampNeg (28 + (S 57 27)))) + v1) → ((x_ib (30 + (S 57 27)) 99) ∧ ((x_ib (30 + (S 57 27)) 99) ∧ (∀ S3 : x_M, S3 = x_up S2 57 (Int32.toNatClampNeg (30 + (S 57 27))) ((S2 57 (Int32.toNatClampNeg (30 + (S 57 27)))) &&& ((1 <<< ((a1 / 8) &&& 31)) ^^^ (-1))) → (if ((S 57 25) &&& (S 66 (Int32.toNatClampNeg a1))) = 0 then (x_E xs (d + 1) 132 81 [.ref 56, .int a1, .int (S 57 27), .int ((S 57 25) &&& (S 66 (Int32.toNatClampNeg a1))), .int v1] [.int 511, .int 25, .ref 57] S3 Q) else (x_E xs (d + 1) 132 81 [.ref 56, .int a1, .int (S 57 27), .int ((S 57 25) &&& (S 66 (Int32.toNatClampNeg a1))), .int v1] [.int ((S 57 25) &&& (S 66 (Int32.toNatClampNeg a1))), .int 25, .ref 57] S3 Q)))))))))) : x_E xs (d + 1) 132 0 [.ref 56, .int a1, .null, .null, .null] [] S Q := by
  refine e_aload f_132_0 rfl (by decide) ?_
  refine e_gr (c := 6) (j := 0) (r := 57) f_132_1 (by decide) (by decide) (by decide) (by decide) ?_
  refine e_iconst (c := 27) f_132_4 (by decide) ?_
  refine e_iak (n := 99) (kk := 27) f_132_6 (by decide) (by decide) (by decide) ?_
  refine e_istore (L' := [.ref 56, .int a1, .int (S 57 27), .null, .null]) f_132_7 (Nat.le_of_ble_eq_true rfl) rfl ?_
  refine e_aload f_132_8 rfl (by decide) ?_
  refine e_gr (c := 6) (j := 0) (r := 57) f_132_9 (by decide) (by decide) (by decide) (by decide) ?_
  refine e_iconst (c := 25) f_132_12 (by decide) ?_
  refine e_iak (n := 99) (kk := 25) f_132_14 (by decide) (by decide) (by decide) ?_
  refine e_aload f_132_15 rfl (by decide) ?_
  refine e_gr (c := 6) (j := 17) (r := 66) f_132_16 (by decide) (by decide) (by decide) (by decide) ?_
  refine e_iload f_132_19 rfl ?_
  obtain ⟨hg, hV⟩ := hV
  refine e_ia (n := 112) f_132_20 (by decide) (by decide) hg ?_
  refine e_iand f_132_21 ?_
  refine e_istore (L' := [.ref 56, .int a1, .int (S 57 27), .int ((S 57 25) &&& (S 66 (Int32.toNatClampNeg a1))), .null]) f_132_22 (Nat.le_of_ble_eq_true rfl) rfl ?_
  refine e_aload f_132_23 rfl (by decide) ?_
  refine e_iload f_132_24 rfl ?_
  obtain ⟨P1, hP1, hV⟩ := hV
  refine e_vi (n := 2) (A := [.ref 56, .int ((S 57 25) &&& (S 66 (Int32.toNatClampNeg a1)))]) (R := []) f_132_25 na_129 rfl rfl (Nat.le_of_ble_eq_true rfl) (Nat.le_of_ble_eq_true rfl) (by rw [ml_129]; exact Nat.le_of_ble_eq_true rfl) rfl (by rw [cy_129]; decide) (by rw [cy_129]; exact (by decide : x_tg 56 = 6)) hP1 (fun v1 S1 hp1 => ?_)
  have hV := hV v1 S1 hp1
  refine e_istore (L' := [.ref 56, .int a1, .int (S 57 27), .int ((S 57 25) &&& (S 66 (Int32.toNatClampNeg a1))), .int v1]) f_132_28 (Nat.le_of_ble_eq_true rfl) rfl ?_
  refine e_aload f_132_30 rfl (by decide) ?_
  refine e_gr (c := 6) (j := 0) (r := 57) f_132_31 (by decide) (by decide) (by decide) (by decide) ?_
  refine e_iconst (c := 28) f_132_34 (by decide) ?_
  refine e_iload f_132_36 rfl ?_
  refine e_iadd f_132_37 ?_
  refine e_dup2 f_132_38 ⟨rfl, rfl⟩ ?_
  obtain ⟨hg, hV⟩ := hV
  refine e_ia (n := 99) f_132_39 (by decide) (by decide) hg ?_
  refine e_iload f_132_40 rfl ?_
  refine e_iadd f_132_42 ?_
  obtain ⟨hg, hV⟩ := hV
  refine e_isn (n := 99) f_132_43 (by decide) (by decide) hg (fun S2 hS2 => ?_)
  have hV := hV S2 hS2
  refine e_aload f_132_44 rfl (by decide) ?_
  refine e_gr (c := 6) (j := 0) (r := 57) f_132_45 (by decide) (by decide) (by decide) (by decide) ?_
  refine e_iconst (c := 30) f_132_48 (by decide) ?_
  refine e_iload f_132_50 rfl ?_
  refine e_iadd f_132_51 ?_
  refine e_dup2 f_132_52 ⟨rfl, rfl⟩ ?_
  obtain ⟨hg, hV⟩ := hV
  refine e_ia (n := 99) f_132_53 (by decide) (by decide) hg ?_
  refine e_iconst (c := 1) f_132_54 (by decide) ?_
  refine e_iload f_132_55 rfl ?_
  refine e_iconst (c := 8) f_132_56 (by decide) ?_
  refine e_idiv f_132_58 (by decide) ?_
  refine e_ishl f_132_59 ?_
  refine e_iconst (c := (-1)) f_132_60 (by decide) ?_
  refine e_ixor f_132_61 ?_
  refine e_iand f_132_62 ?_
  obtain ⟨hg, hV⟩ := hV
  refine e_isn (n := 99) f_132_63 (by decide) (by decide) hg (fun S3 hS3 => ?_)
  have hV := hV S3 hS3
  refine e_aload f_132_64 rfl (by decide) ?_
  refine e_gr (c := 6) (j := 0) (r := 57) f_132_65 (by decide) (by decide) (by decide) (by decide) ?_
  refine e_iconst (c := 25) f_132_68 (by decide) ?_
  refine e_iload f_132_70 rfl ?_
  refine e_if f_132_71 (fun hc => ?_) (fun hc => ?_)
  · have hc := x_cct_ne hc
    rw [if_neg hc] at hV
    refine e_iload f_132_80 rfl ?_
    exact hV
  · have hc := x_ccf_ne hc
    rw [if_pos hc] at hV
    refine e_iconst (c := 511) f_132_74 (by decide) ?_
    refine e_goto f_132_77 ?_
    exact hV
set_option maxRecDepth 20000 in
theorem T_132_81 {xs : List Int32} {d : Nat} {S : x_M} {Q : Option Value → x_M → Prop} {a1 : Int32} {a2 : Int32} {a3 : Int32} {a4 : Int32} {s1 : Int32} {s2 : Int32}  (hV : (x_ib s1 99) ∧ (∀ S1 : x_M, S1 = x_up S 57 (Int32.toNatClampNeg s1) s2 → (if a3 = 0 then (∀ S3 : x_M, S3 = x_up S1 57 26 0 → (if a3 = 0 then (x_E xs (d + 1) 132 123 [.ref 56, .int a1, .int a2, .int a3, .int a4] [.int 1, .int (S3 57 32), .int 32, .ref 57] S3 Q) else (x_E xs (d + 1) 132 123 [.ref 56, .int a1, .int a2, .int a3, .int a4] [.int 0, .int (S3 57 32), .int 32, .ref 57] S3 Q))) else (∀ S2 : x_M, S2 = x_up S1 57 26 ((S1 57 26) + 1) → (if a3 = 0 then (x_E xs (d + 1) 132 123 [.ref 56, .int a1, .int a2, .int a3, .int a4] [.int 1, .int (S2 57 32), .int 32, .ref 57] S2 Q) else (x_E xs (d + 1) 132 123 [.ref 56, .int a1, .int a2, .int a3, .int a4] [.int 0, .int (S2 57 32), .int 32, .ref 57] S2 Q)))))) : x_E xs (d + 1) 132 81 [.ref 56, .int a1, .int a2, .int a3, .int a4] [.int s2, .int s1, .ref 57] S Q := by
  obtain ⟨hg, hV⟩ := hV
  refine e_isn (n := 99) f_132_81 (by decide) (by decide) hg (fun S1 hS1 => ?_)
  have hV := hV S1 hS1
  refine e_aload f_132_82 rfl (by decide) ?_
  refine e_gr (c := 6) (j := 0) (r := 57) f_132_83 (by decide) (by decide) (by decide) (by decide) ?_
  refine e_iconst (c := 26) f_132_86 (by decide) ?_
  refine e_iload f_132_88 rfl ?_
  refine e_if f_132_89 (fun hc => ?_) (fun hc => ?_)
  · have hc := x_cct_ne hc
    rw [if_neg hc] at hV
    refine e_aload f_132_96 rfl (by decide) ?_
    refine e_gr (c := 6) (j := 0) (r := 57) f_132_97 (by decide) (by decide) (by decide) (by decide) ?_
    refine e_iconst (c := 26) f_132_100 (by decide) ?_
    refine e_iak (n := 99) (kk := 26) f_132_102 (by decide) (by decide) (by decide) ?_
    refine e_iconst (c := 1) f_132_103 (by decide) ?_
    refine e_iadd f_132_104 ?_
    refine e_iskn (n := 99) (kk := 26) f_132_105 (by decide) (by decide) (by decide) (fun S2 hS2 => ?_)
    have hV := hV S2 hS2
    refine e_aload f_132_106 rfl (by decide) ?_
    refine e_gr (c := 6) (j := 0) (r := 57) f_132_107 (by decide) (by decide) (by decide) (by decide) ?_
    refine e_iconst (c := 32) f_132_110 (by decide) ?_
    refine e_dup2 f_132_112 ⟨rfl, rfl⟩ ?_
    refine e_iak (n := 99) (kk := 32) f_132_113 (by decide) (by decide) (by decide) ?_
    refine e_iload f_132_114 rfl ?_
    refine e_if f_132_115 (fun hc => ?_) (fun hc => ?_)
    · have hc := x_cct_ne hc
      rw [if_neg hc] at hV
      refine e_iconst (c := 0) f_132_122 (by decide) ?_
      exact hV
    · have hc := x_ccf_ne hc
      rw [if_pos hc] at hV
      refine e_iconst (c := 1) f_132_118 (by decide) ?_
      refine e_goto f_132_119 ?_
      exact hV
  · have hc := x_ccf_ne hc
    rw [if_pos hc] at hV
    refine e_iconst (c := 0) f_132_92 (by decide) ?_
    refine e_goto f_132_93 ?_
    refine e_iskn (n := 99) (kk := 26) f_132_105 (by decide) (by decide) (by decide) (fun S3 hS3 => ?_)
    have hV := hV S3 hS3
    refine e_aload f_132_106 rfl (by decide) ?_
    refine e_gr (c := 6) (j := 0) (r := 57) f_132_107 (by decide) (by decide) (by decide) (by decide) ?_
    refine e_iconst (c := 32) f_132_110 (by decide) ?_
    refine e_dup2 f_132_112 ⟨rfl, rfl⟩ ?_
    refine e_iak (n := 99) (kk := 32) f_132_113 (by decide) (by decide) (by decide) ?_
    refine e_iload f_132_114 rfl ?_
    refine e_if f_132_115 (fun hc => ?_) (fun hc => ?_)
    · have hc := x_cct_ne hc
      rw [if_neg hc] at hV
      refine e_iconst (c := 0) f_132_122 (by decide) ?_
      exact hV
    · have hc := x_ccf_ne hc
      rw [if_pos hc] at hV
      refine e_iconst (c := 1) f_132_118 (by decide) ?_
      refine e_goto f_132_119 ?_
      exact hV
set_option maxRecDepth 20000 in
theorem T_132_123 {xs : List Int32} {d : Nat} {S : x_M} {Q : Option Value → x_M → Prop} {a1 : Int32} {a2 : Int32} {a3 : Int32} {a4 : Int32} {s1 : Int32} {s2 : Int32} {s3 : Int32}  (hV : (x_ib s1 99) ∧ (∀ S1 : x_M, S1 = x_up S 57 (Int32.toNatClampNeg s1) (s2 + s3) → ((x_ib (31 - a2) 99) ∧ (if (S1 57 (Int32.toNatClampNeg (31 - a2))) = 0 then (∀ S2 : x_M, S2 = x_up S1 57 27 a2 → (Q (some (.int a4)) S2)) else (∀ S3 : x_M, S3 = x_up S1 57 27 (1 - a2) → (Q (some (.int a4)) S3)))))) : x_E xs (d + 1) 132 123 [.ref 56, .int a1, .int a2, .int a3, .int a4] [.int s3, .int s2, .int s1, .ref 57] S Q := by
  refine e_iadd f_132_123 ?_
  obtain ⟨hg, hV⟩ := hV
  refine e_isn (n := 99) f_132_124 (by decide) (by decide) hg (fun S1 hS1 => ?_)
  have hV := hV S1 hS1
  refine e_aload f_132_125 rfl (by decide) ?_
  refine e_gr (c := 6) (j := 0) (r := 57) f_132_126 (by decide) (by decide) (by decide) (by decide) ?_
  refine e_iconst (c := 27) f_132_129 (by decide) ?_
  refine e_aload f_132_131 rfl (by decide) ?_
  refine e_gr (c := 6) (j := 0) (r := 57) f_132_132 (by decide) (by decide) (by decide) (by decide) ?_
  refine e_iconst (c := 31) f_132_135 (by decide) ?_
  refine e_iload f_132_137 rfl ?_
  refine e_isub f_132_138 ?_
  obtain ⟨hg, hV⟩ := hV
  refine e_ia (n := 99) f_132_139 (by decide) (by decide) hg ?_
  refine e_if f_132_140 (fun hc => ?_) (fun hc => ?_)
  · have hc := x_cct_eq hc
    rw [if_pos hc] at hV
    refine e_iload f_132_149 rfl ?_
    refine e_iskn (n := 99) (kk := 27) f_132_150 (by decide) (by decide) (by decide) (fun S2 hS2 => ?_)
    have hV := hV S2 hS2
    refine e_iload f_132_151 rfl ?_
    exact e_ireturn f_132_153 rt_132 rfl hV
  · have hc := x_ccf_eq hc
    rw [if_neg hc] at hV
    refine e_iconst (c := 1) f_132_143 (by decide) ?_
    refine e_iload f_132_144 rfl ?_
    refine e_isub f_132_145 ?_
    refine e_goto f_132_146 ?_
    refine e_iskn (n := 99) (kk := 27) f_132_150 (by decide) (by decide) (by decide) (fun S3 hS3 => ?_)
    have hV := hV S3 hS3
    refine e_iload f_132_151 rfl ?_
    exact e_ireturn f_132_153 rt_132 rfl hV
set_option maxRecDepth 20000 in
theorem T_133_0 {xs : List Int32} {d : Nat} {S : x_M} {Q : Option Value → x_M → Prop} {a1 : Int32} {a2 : Int32} {a3 : Int32}  (hV : if (S 57 0) = 0 then (Q (some (.int (-1000002))) S) else (∃ P1 : Int32 → x_M → Prop, x_Ci xs d 100 [.int a1] S P1 ∧ ∀ (v1 : Int32) (S1 : x_M), P1 v1 S1 → (if v1 = 0 then (Q (some (.int (-1000001))) S1) else (∃ P2 : Int32 → x_M → Prop, x_Ci xs d 101 [.long (Int32.toInt64 a3), .long 1, .long 14] S1 P2 ∧ ∀ (v2 : Int32) (S2 : x_M), P2 v2 S2 → (if v2 = 0 then (Q (some (.int (-1000001))) S2) else ((x_ib a1 8) ∧ (if (S2 59 (Int32.toNatClampNeg a1)) = (-1000000) then (∃ P6 : Int32 → x_M → Prop, x_Ci xs d 102 [.ref 56, .int 1] S2 P6 ∧ ∀ (v6 : Int32) (S6 : x_M), P6 v6 S6 → (Q (some (.int v6)) S6)) else (∃ P3 : Int32 → x_M → Prop, x_Ci xs d 106 [.ref 56, .int a1, .int a2, .int a3] S2 P3 ∧ ∀ (v3 : Int32) (S3 : x_M), P3 v3 S3 → (if v3 = 0 then (∃ P5 : Int32 → x_M → Prop, x_Ci xs d 102 [.ref 56, .int 2] S3 P5 ∧ ∀ (v5 : Int32) (S5 : x_M), P5 v5 S5 → (Q (some (.int v5)) S5)) else (∃ P4 : Int32 → x_M → Prop, x_Ci xs d 134 [.ref 56, .int ((40 * a1) + a2), .int a3] S3 P4 ∧ ∀ (v4 : Int32) (S4 : x_M), P4 v4 S4 → (if v4 = 0 then (x_E xs (d + 1) 133 94 [.ref 56, .int a1, .int a2, .int a3, .int v4, .int 0, .int 0, .null, .null] [] S4 Q) else (Q (some (.int v4)) S4)))))))))))) : x_E xs (d + 1) 133 0 [.ref 56, .int a1, .int a2, .int a3, .null, .null, .null, .null, .null] [] S Q := by
  refine e_aload f_133_0 rfl (by decide) ?_
  refine e_gr (c := 6) (j := 0) (r := 57) f_133_1 (by decide) (by decide) (by decide) (by decide) ?_
  refine e_iconst (c := 0) f_133_4 (by decide) ?_
  refine e_iak (n := 99) (kk := 0) f_133_5 (by decide) (by decide) (by decide) ?_
  refine e_if f_133_6 (fun hc => ?_) (fun hc => ?_)
  · have hc := x_cct_ne hc
    rw [if_neg hc] at hV
    refine e_iload f_133_12 rfl ?_
    obtain ⟨P1, hP1, hV⟩ := hV
    refine e_si (n := 1) (A := [.int a1]) (R := []) f_133_13 na_100 rfl rfl (Nat.le_of_ble_eq_true rfl) (Nat.le_of_ble_eq_true rfl) (by rw [ml_100]; exact Nat.le_of_ble_eq_true rfl) hP1 (fun v1 S1 hp1 => ?_)
    have hV := hV v1 S1 hp1
    refine e_if f_133_16 (fun hc => ?_) (fun hc => ?_)
    · have hc := x_cct_eq hc
      rw [if_pos hc] at hV
      refine e_iconst (c := (-1000001)) f_133_31 (by decide) ?_
      exact e_ireturn f_133_33 rt_133 rfl hV
    · have hc := x_ccf_eq hc
      rw [if_neg hc] at hV
      refine e_iload f_133_19 rfl ?_
      refine e_i2l f_133_20 ?_
      refine e_lconst (c := 1) f_133_21 (by decide) ?_
      refine e_lconst (c := 14) f_133_22 (by decide) ?_
      obtain ⟨P2, hP2, hV⟩ := hV
      refine e_si (n := 3) (A := [.long (Int32.toInt64 a3), .long 1, .long 14]) (R := []) f_133_25 na_101 rfl rfl (Nat.le_of_ble_eq_true rfl) (Nat.le_of_ble_eq_true rfl) (by rw [ml_101]; exact Nat.le_of_ble_eq_true rfl) hP2 (fun v2 S2 hp2 => ?_)
      have hV := hV v2 S2 hp2
      refine e_if f_133_28 (fun hc => ?_) (fun hc => ?_)
      · have hc := x_cct_ne hc
        rw [if_neg hc] at hV
        refine e_aload f_133_34 rfl (by decide) ?_
        refine e_gr (c := 6) (j := 5) (r := 59) f_133_35 (by decide) (by decide) (by decide) (by decide) ?_
        refine e_iload f_133_38 rfl ?_
        obtain ⟨hg, hV⟩ := hV
        refine e_ia (n := 8) f_133_39 (by decide) (by decide) hg ?_
        refine e_iconst (c := (-1000000)) f_133_40 (by decide) ?_
        refine e_icmp f_133_42 (fun hc => ?_) (fun hc => ?_)
        · have hc := x_cct_ne hc
          rw [if_neg hc] at hV
          refine e_aload f_133_51 rfl (by decide) ?_
          refine e_iload f_133_52 rfl ?_
          refine e_iload f_133_53 rfl ?_
          refine e_iload f_133_54 rfl ?_
          obtain ⟨P3, hP3, hV⟩ := hV
          refine e_vi (n := 4) (A := [.ref 56, .int a1, .int a2, .int a3]) (R := []) f_133_55 na_106 rfl rfl (Nat.le_of_ble_eq_true rfl) (Nat.le_of_ble_eq_true rfl) (by rw [ml_106]; exact Nat.le_of_ble_eq_true rfl) rfl (by rw [cy_106]; decide) (by rw [cy_106]; exact (by decide : x_tg 56 = 6)) hP3 (fun v3 S3 hp3 => ?_)
          have hV := hV v3 S3 hp3
          refine e_if f_133_58 (fun hc => ?_) (fun hc => ?_)
          · have hc := x_cct_ne hc
            rw [if_neg hc] at hV
            refine e_aload f_133_67 rfl (by decide) ?_
            refine e_iconst (c := 40) f_133_68 (by decide) ?_
            refine e_iload f_133_70 rfl ?_
            refine e_imul f_133_71 ?_
            refine e_iload f_133_72 rfl ?_
            refine e_iadd f_133_73 ?_
            refine e_iload f_133_74 rfl ?_
            obtain ⟨P4, hP4, hV⟩ := hV
            refine e_vi (n := 3) (A := [.ref 56, .int ((40 * a1) + a2), .int a3]) (R := []) f_133_75 na_134 rfl rfl (Nat.le_of_ble_eq_true rfl) (Nat.le_of_ble_eq_true rfl) (by rw [ml_134]; exact Nat.le_of_ble_eq_true rfl) rfl (by rw [cy_134]; decide) (by rw [cy_134]; exact (by decide : x_tg 56 = 6)) hP4 (fun v4 S4 hp4 => ?_)
            have hV := hV v4 S4 hp4
            refine e_istore (L' := [.ref 56, .int a1, .int a2, .int a3, .int v4, .null, .null, .null, .null]) f_133_78 (Nat.le_of_ble_eq_true rfl) rfl ?_
            refine e_iload f_133_80 rfl ?_
            refine e_if f_133_82 (fun hc => ?_) (fun hc => ?_)
            · have hc := x_cct_eq hc
              rw [if_pos hc] at hV
              refine e_iconst (c := 0) f_133_88 (by decide) ?_
              refine e_istore (L' := [.ref 56, .int a1, .int a2, .int a3, .int v4, .int 0, .null, .null, .null]) f_133_89 (Nat.le_of_ble_eq_true rfl) rfl ?_
              refine e_iconst (c := 0) f_133_91 (by decide) ?_
              refine e_istore (L' := [.ref 56, .int a1, .int a2, .int a3, .int v4, .int 0, .int 0, .null, .null]) f_133_92 (Nat.le_of_ble_eq_true rfl) rfl ?_
              exact hV
            · have hc := x_ccf_eq hc
              rw [if_neg hc] at hV
              refine e_iload f_133_85 rfl ?_
              exact e_ireturn f_133_87 rt_133 rfl hV
          · have hc := x_ccf_ne hc
            rw [if_pos hc] at hV
            refine e_aload f_133_61 rfl (by decide) ?_
            refine e_iconst (c := 2) f_133_62 (by decide) ?_
            obtain ⟨P5, hP5, hV⟩ := hV
            refine e_vi (n := 2) (A := [.ref 56, .int 2]) (R := []) f_133_63 na_102 rfl rfl (Nat.le_of_ble_eq_true rfl) (Nat.le_of_ble_eq_true rfl) (by rw [ml_102]; exact Nat.le_of_ble_eq_true rfl) rfl (by rw [cy_102]; decide) (by rw [cy_102]; exact (by decide : x_tg 56 = 6)) hP5 (fun v5 S5 hp5 => ?_)
            have hV := hV v5 S5 hp5
            exact e_ireturn f_133_66 rt_133 rfl hV
        · have hc := x_ccf_ne hc
          rw [if_pos hc] at hV
          refine e_aload f_133_45 rfl (by decide) ?_
          refine e_iconst (c := 1) f_133_46 (by decide) ?_
          obtain ⟨P6, hP6, hV⟩ := hV
          refine e_vi (n := 2) (A := [.ref 56, .int 1]) (R := []) f_133_47 na_102 rfl rfl (Nat.le_of_ble_eq_true rfl) (Nat.le_of_ble_eq_true rfl) (by rw [ml_102]; exact Nat.le_of_ble_eq_true rfl) rfl (by rw [cy_102]; decide) (by rw [cy_102]; exact (by decide : x_tg 56 = 6)) hP6 (fun v6 S6 hp6 => ?_)
          have hV := hV v6 S6 hp6
          exact e_ireturn f_133_50 rt_133 rfl hV
      · have hc := x_ccf_ne hc
        rw [if_pos hc] at hV
        refine e_iconst (c := (-1000001)) f_133_31 (by decide) ?_
        exact e_ireturn f_133_33 rt_133 rfl hV
  · have hc := x_ccf_ne hc
    rw [if_pos hc] at hV
    refine e_iconst (c := (-1000002)) f_133_9 (by decide) ?_
    exact e_ireturn f_133_11 rt_133 rfl hV
set_option maxRecDepth 20000 in
theorem T_133_94 {xs : List Int32} {d : Nat} {S : x_M} {Q : Option Value → x_M → Prop} {a1 : Int32} {a2 : Int32} {a3 : Int32} {a4 : Int32} {a5 : Int32} {a6 : Int32} {a7 : Value} {a8 : Value}  (hV : if a3 ≤ a6 then (∃ P1 : Int32 → x_M → Prop, x_Ci xs d 103 [.ref 56, .int a5] S P1 ∧ ∀ (v1 : Int32) (S1 : x_M), P1 v1 S1 → (Q (some (.int v1)) S1)) else ((x_ib (((40 * a1) + a2) + a6) 320) ∧ (∃ P2 : Int32 → x_M → Prop, x_Ci xs d 132 [.ref 56, .int (S 61 (Int32.toNatClampNeg (((40 * a1) + a2) + a6)))] S P2 ∧ ∀ (v2 : Int32) (S2 : x_M), P2 v2 S2 → (if (S 57 27) = 0 then (x_E xs (d + 1) 133 94 [.ref 56, .int a1, .int a2, .int a3, .int a4, .int (a5 + v2), .int (a6 + 1), .int (S 57 27), .int v2] [] S2 Q) else (x_E xs (d + 1) 133 94 [.ref 56, .int a1, .int a2, .int a3, .int a4, .int (a5 + (-v2)), .int (a6 + 1), .int (S 57 27), .int v2] [] S2 Q))))) : x_E xs (d + 1) 133 94 [.ref 56, .int a1, .int a2, .int a3, .int a4, .int a5, .int a6, a7, a8] [] S Q := by
  refine e_iload f_133_94 rfl ?_
  refine e_iload f_133_96 rfl ?_
  refine e_icmp f_133_97 (fun hc => ?_) (fun hc => ?_)
  · have hc := x_cct_ge hc
    rw [if_pos hc] at hV
    refine e_aload f_133_153 rfl (by decide) ?_
    refine e_iload f_133_154 rfl ?_
    obtain ⟨P1, hP1, hV⟩ := hV
    refine e_vi (n := 2) (A := [.ref 56, .int a5]) (R := []) f_133_156 na_103 rfl rfl (Nat.le_of_ble_eq_true rfl) (Nat.le_of_ble_eq_true rfl) (by rw [ml_103]; exact Nat.le_of_ble_eq_true rfl) rfl (by rw [cy_103]; decide) (by rw [cy_103]; exact (by decide : x_tg 56 = 6)) hP1 (fun v1 S1 hp1 => ?_)
    have hV := hV v1 S1 hp1
    exact e_ireturn f_133_159 rt_133 rfl hV
  · have hc := x_ccf_ge hc
    rw [if_neg hc] at hV
    refine e_aload f_133_100 rfl (by decide) ?_
    refine e_gr (c := 6) (j := 0) (r := 57) f_133_101 (by decide) (by decide) (by decide) (by decide) ?_
    refine e_iconst (c := 27) f_133_104 (by decide) ?_
    refine e_iak (n := 99) (kk := 27) f_133_106 (by decide) (by decide) (by decide) ?_
    refine e_istore (L' := [.ref 56, .int a1, .int a2, .int a3, .int a4, .int a5, .int a6, .int (S 57 27), a8]) f_133_107 (Nat.le_of_ble_eq_true rfl) rfl ?_
    refine e_aload f_133_109 rfl (by decide) ?_
    refine e_aload f_133_110 rfl (by decide) ?_
    refine e_gr (c := 6) (j := 7) (r := 61) f_133_111 (by decide) (by decide) (by decide) (by decide) ?_
    refine e_iconst (c := 40) f_133_114 (by decide) ?_
    refine e_iload f_133_116 rfl ?_
    refine e_imul f_133_117 ?_
    refine e_iload f_133_118 rfl ?_
    refine e_iadd f_133_119 ?_
    refine e_iload f_133_120 rfl ?_
    refine e_iadd f_133_122 ?_
    obtain ⟨hg, hV⟩ := hV
    refine e_ia (n := 320) f_133_123 (by decide) (by decide) hg ?_
    obtain ⟨P2, hP2, hV⟩ := hV
    refine e_vi (n := 2) (A := [.ref 56, .int (S 61 (Int32.toNatClampNeg (((40 * a1) + a2) + a6)))]) (R := []) f_133_124 na_132 rfl rfl (Nat.le_of_ble_eq_true rfl) (Nat.le_of_ble_eq_true rfl) (by rw [ml_132]; exact Nat.le_of_ble_eq_true rfl) rfl (by rw [cy_132]; decide) (by rw [cy_132]; exact (by decide : x_tg 56 = 6)) hP2 (fun v2 S2 hp2 => ?_)
    have hV := hV v2 S2 hp2
    refine e_istore (L' := [.ref 56, .int a1, .int a2, .int a3, .int a4, .int a5, .int a6, .int (S 57 27), .int v2]) f_133_127 (Nat.le_of_ble_eq_true rfl) rfl ?_
    refine e_iload f_133_129 rfl ?_
    refine e_iload f_133_131 rfl ?_
    refine e_if f_133_133 (fun hc => ?_) (fun hc => ?_)
    · have hc := x_cct_ne hc
      rw [if_neg hc] at hV
      refine e_iload f_133_141 rfl ?_
      refine e_ineg f_133_143 ?_
      refine e_iadd f_133_144 ?_
      refine e_istore (L' := [.ref 56, .int a1, .int a2, .int a3, .int a4, .int (a5 + (-v2)), .int a6, .int (S 57 27), .int v2]) f_133_145 (Nat.le_of_ble_eq_true rfl) rfl ?_
      refine e_inc (c := 1) (L' := [.ref 56, .int a1, .int a2, .int a3, .int a4, .int (a5 + (-v2)), .int (a6 + 1), .int (S 57 27), .int v2]) f_133_147 rfl (by decide) rfl ?_
      refine e_goto f_133_150 ?_
      exact hV
    · have hc := x_ccf_ne hc
      rw [if_pos hc] at hV
      refine e_iload f_133_136 rfl ?_
      refine e_goto f_133_138 ?_
      refine e_iadd f_133_144 ?_
      refine e_istore (L' := [.ref 56, .int a1, .int a2, .int a3, .int a4, .int (a5 + v2), .int a6, .int (S 57 27), .int v2]) f_133_145 (Nat.le_of_ble_eq_true rfl) rfl ?_
      refine e_inc (c := 1) (L' := [.ref 56, .int a1, .int a2, .int a3, .int a4, .int (a5 + v2), .int (a6 + 1), .int (S 57 27), .int v2]) f_133_147 rfl (by decide) rfl ?_
      refine e_goto f_133_150 ?_
      exact hV
