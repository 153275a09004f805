set_option maxRecDepth 20000 in
theorem T_165_0 {xs : List Int32} {d : Nat} {S : x_M} {Q : Option Value → x_M → Prop} {a1 : Int32}  (hV : ∃ P1 : x_M → Prop, x_Cv xs d 164 [.ref 56, .int 11] S P1 ∧ ∀ (S1 : x_M), P1 S1 → (∃ P2 : Int32 → x_M → Prop, x_Ci xs d 166 [.ref 56, .int a1] S1 P2 ∧ ∀ (v2 : Int32) (S2 : x_M), P2 v2 S2 → (∃ P3 : Int32 → x_M → Prop, x_Ci xs d 167 [.ref 56, .int a1] S2 P3 ∧ ∀ (v3 : Int32) (S3 : x_M), P3 v3 S3 → (Q (some (.int (v2 + v3))) S3)))) : x_E xs (d + 1) 165 0 [.ref 56, .int a1, .null] [] S Q := by
  refine e_aload f_165_0 rfl (by decide) ?_
  refine e_iconst (c := 11) f_165_1 (by decide) ?_
  obtain ⟨P1, hP1, hV⟩ := hV
  refine e_vv (n := 2) (A := [.ref 56, .int 11]) (R := []) f_165_3 na_164 rfl rfl (Nat.le_of_ble_eq_true rfl) (Nat.le_of_ble_eq_true rfl) (by rw [ml_164]; exact Nat.le_of_ble_eq_true rfl) rfl (by rw [cy_164]; decide) (by rw [cy_164]; exact (by decide : x_tg 56 = 6)) hP1 (fun S1 hp1 => ?_)
  have hV := hV S1 hp1
  refine e_aload f_165_6 rfl (by decide) ?_
  refine e_iload f_165_7 rfl ?_
  obtain ⟨P2, hP2, hV⟩ := hV
  refine e_vi (n := 2) (A := [.ref 56, .int a1]) (R := []) f_165_8 na_166 rfl rfl (Nat.le_of_ble_eq_true rfl) (Nat.le_of_ble_eq_true rfl) (by rw [ml_166]; exact Nat.le_of_ble_eq_true rfl) rfl (by rw [cy_166]; decide) (by rw [cy_166]; exact (by decide : x_tg 56 = 6)) hP2 (fun v2 S2 hp2 => ?_)
  have hV := hV v2 S2 hp2
  refine e_istore (L' := [.ref 56, .int a1, .int v2]) f_165_11 (Nat.le_of_ble_eq_true rfl) rfl ?_
  refine e_iload f_165_12 rfl ?_
  refine e_aload f_165_13 rfl (by decide) ?_
  refine e_iload f_165_14 rfl ?_
  obtain ⟨P3, hP3, hV⟩ := hV
  refine e_vi (n := 2) (A := [.ref 56, .int a1]) (R := [.int v2]) f_165_15 na_167 rfl rfl (Nat.le_of_ble_eq_true rfl) (Nat.le_of_ble_eq_true rfl) (by rw [ml_167]; exact Nat.le_of_ble_eq_true rfl) rfl (by rw [cy_167]; decide) (by rw [cy_167]; exact (by decide : x_tg 56 = 6)) hP3 (fun v3 S3 hp3 => ?_)
  have hV := hV v3 S3 hp3
  refine e_iadd f_165_18 ?_
  exact e_ireturn f_165_19 rt_165 rfl hV
set_option maxRecDepth 20000 in
theorem T_166_0 {xs : List Int32} {d : Nat} {S : x_M} {Q : Option Value → x_M → Prop} {a1 : Int32}  (hV : ∃ P1 : x_M → Prop, x_Cv xs d 164 [.ref 56, .int 10] S P1 ∧ ∀ (S1 : x_M), P1 S1 → ((x_ib (2 + a1) 99) ∧ (∃ P2 : Int32 → x_M → Prop, x_Ci xs d 136 [.int (S1 57 (Int32.toNatClampNeg (2 + a1)))] S1 P2 ∧ ∀ (v2 : Int32) (S2 : x_M), P2 v2 S2 → (Q (some (.int v2)) S2)))) : x_E xs (d + 1) 166 0 [.ref 56, .int a1] [] S Q := by
  refine e_aload f_166_0 rfl (by decide) ?_
  refine e_iconst (c := 10) f_166_1 (by decide) ?_
  obtain ⟨P1, hP1, hV⟩ := hV
  refine e_vv (n := 2) (A := [.ref 56, .int 10]) (R := []) f_166_3 na_164 rfl rfl (Nat.le_of_ble_eq_true rfl) (Nat.le_of_ble_eq_true rfl) (by rw [ml_164]; exact Nat.le_of_ble_eq_true rfl) rfl (by rw [cy_164]; decide) (by rw [cy_164]; exact (by decide : x_tg 56 = 6)) hP1 (fun S1 hp1 => ?_)
  have hV := hV S1 hp1
  refine e_aload f_166_6 rfl (by decide) ?_
  refine e_gr (c := 6) (j := 0) (r := 57) f_166_7 (by decide) (by decide) (by decide) (by decide) ?_
  refine e_iconst (c := 2) f_166_10 (by decide) ?_
  refine e_iload f_166_11 rfl ?_
  refine e_iadd f_166_12 ?_
  obtain ⟨hg, hV⟩ := hV
  refine e_ia (n := 99) f_166_13 (by decide) (by decide) hg ?_
  obtain ⟨P2, hP2, hV⟩ := hV
  refine e_si (n := 1) (A := [.int (S1 57 (Int32.toNatClampNeg (2 + a1)))]) (R := []) f_166_14 na_136 rfl rfl (Nat.le_of_ble_eq_true rfl) (Nat.le_of_ble_eq_true rfl) (by rw [ml_136]; exact Nat.le_of_ble_eq_true rfl) hP2 (fun v2 S2 hp2 => ?_)
  have hV := hV v2 S2 hp2
  exact e_ireturn f_166_17 rt_166 rfl hV
set_option maxRecDepth 20000 in
theorem T_167_0 {xs : List Int32} {d : Nat} {S : x_M} {Q : Option Value → x_M → Prop} {a1 : Int32}  (hV : ∃ P1 : Int32 → x_M → Prop, x_Ci xs d 160 [.ref 56, .int a1] S P1 ∧ ∀ (v1 : Int32) (S1 : x_M), P1 v1 S1 → (if v1 = 5 then (∃ P9 : x_M → Prop, x_Cv xs d 164 [.ref 56, .int 22] S1 P9 ∧ ∀ (S9 : x_M), P9 S9 → (∃ P10 : Int32 → x_M → Prop, x_Ci xs d 168 [.ref 56, .int a1] S9 P10 ∧ ∀ (v10 : Int32) (S10 : x_M), P10 v10 S10 → (Q (some (.int (v10 - 1000))) S10))) else (if v1 = 4 then (∃ P7 : x_M → Prop, x_Cv xs d 164 [.ref 56, .int 24] S1 P7 ∧ ∀ (S7 : x_M), P7 S7 → (∃ P8 : Int32 → x_M → Prop, x_Ci xs d 168 [.ref 56, .int a1] S7 P8 ∧ ∀ (v8 : Int32) (S8 : x_M), P8 v8 S8 → (Q (some (.int (v8 + 500))) S8))) else (if v1 = 2 then (∃ P3 : x_M → Prop, x_Cv xs d 164 [.ref 56, .int 23] S1 P3 ∧ ∀ (S3 : x_M), P3 S3 → (∃ P4 : Int32 → x_M → Prop, x_Ci xs d 169 [.ref 56, .int a1] S3 P4 ∧ ∀ (v4 : Int32) (S4 : x_M), P4 v4 S4 → (∃ P5 : x_M → Prop, x_Cv xs d 164 [.ref 56, .int 14] S4 P5 ∧ ∀ (S5 : x_M), P5 S5 → (∃ P6 : Int32 → x_M → Prop, x_Ci xs d 166 [.ref 56, .int a1] S5 P6 ∧ ∀ (v6 : Int32) (S6 : x_M), P6 v6 S6 → (Q (some (.int ((v4 + v6) - 100))) S6))))) else (∃ P2 : Int32 → x_M → Prop, x_Ci xs d 168 [.ref 56, .int a1] S1 P2 ∧ ∀ (v2 : Int32) (S2 : x_M), P2 v2 S2 → (Q (some (.int v2)) S2)))))) : x_E xs (d + 1) 167 0 [.ref 56, .int a1, .null, .null] [] S Q := by
  refine e_aload f_167_0 rfl (by decide) ?_
  refine e_iload f_167_1 rfl ?_
  obtain ⟨P1, hP1, hV⟩ := hV
  refine e_vi (n := 2) (A := [.ref 56, .int a1]) (R := []) f_167_2 na_160 rfl rfl (Nat.le_of_ble_eq_true rfl) (Nat.le_of_ble_eq_true rfl) (by rw [ml_160]; exact Nat.le_of_ble_eq_true rfl) rfl (by rw [cy_160]; decide) (by rw [cy_160]; exact (by decide : x_tg 56 = 6)) hP1 (fun v1 S1 hp1 => ?_)
  have hV := hV v1 S1 hp1
  refine e_istore (L' := [.ref 56, .int a1, .int v1, .null]) f_167_5 (Nat.le_of_ble_eq_true rfl) rfl ?_
  refine e_iload f_167_6 rfl ?_
  refine e_iconst (c := 5) f_167_7 (by decide) ?_
  refine e_icmp f_167_8 (fun hc => ?_) (fun hc => ?_)
  · have hc := x_cct_ne hc
    rw [if_neg hc] at hV
    refine e_iload f_167_27 rfl ?_
    refine e_iconst (c := 4) f_167_28 (by decide) ?_
    refine e_icmp f_167_29 (fun hc => ?_) (fun hc => ?_)
    · have hc := x_cct_ne hc
      rw [if_neg hc] at hV
      refine e_iload f_167_48 rfl ?_
      refine e_iconst (c := 2) f_167_49 (by decide) ?_
      refine e_icmp f_167_50 (fun hc => ?_) (fun hc => ?_)
      · have hc := x_cct_ne hc
        rw [if_neg hc] at hV
        refine e_aload f_167_82 rfl (by decide) ?_
        refine e_iload f_167_83 rfl ?_
        obtain ⟨P2, hP2, hV⟩ := hV
        refine e_vi (n := 2) (A := [.ref 56, .int a1]) (R := []) f_167_84 na_168 rfl rfl (Nat.le_of_ble_eq_true rfl) (Nat.le_of_ble_eq_true rfl) (by rw [ml_168]; exact Nat.le_of_ble_eq_true rfl) rfl (by rw [cy_168]; decide) (by rw [cy_168]; exact (by decide : x_tg 56 = 6)) hP2 (fun v2 S2 hp2 => ?_)
        have hV := hV v2 S2 hp2
        exact e_ireturn f_167_87 rt_167 rfl hV
      · have hc := x_ccf_ne hc
        rw [if_pos hc] at hV
        refine e_aload f_167_53 rfl (by decide) ?_
        refine e_iconst (c := 23) f_167_54 (by decide) ?_
        obtain ⟨P3, hP3, hV⟩ := hV
        refine e_vv (n := 2) (A := [.ref 56, .int 23]) (R := []) f_167_56 na_164 rfl rfl (Nat.le_of_ble_eq_true rfl) (Nat.le_of_ble_eq_true rfl) (by rw [ml_164]; exact Nat.le_of_ble_eq_true rfl) rfl (by rw [cy_164]; decide) (by rw [cy_164]; exact (by decide : x_tg 56 = 6)) hP3 (fun S3 hp3 => ?_)
        have hV := hV S3 hp3
        refine e_aload f_167_59 rfl (by decide) ?_
        refine e_iload f_167_60 rfl ?_
        obtain ⟨P4, hP4, hV⟩ := hV
        refine e_vi (n := 2) (A := [.ref 56, .int a1]) (R := []) f_167_61 na_169 rfl rfl (Nat.le_of_ble_eq_true rfl) (Nat.le_of_ble_eq_true rfl) (by rw [ml_169]; exact Nat.le_of_ble_eq_true rfl) rfl (by rw [cy_169]; decide) (by rw [cy_169]; exact (by decide : x_tg 56 = 6)) hP4 (fun v4 S4 hp4 => ?_)
        have hV := hV v4 S4 hp4
        refine e_istore (L' := [.ref 56, .int a1, .int v1, .int v4]) f_167_64 (Nat.le_of_ble_eq_true rfl) rfl ?_
        refine e_aload f_167_65 rfl (by decide) ?_
        refine e_iconst (c := 14) f_167_66 (by decide) ?_
        obtain ⟨P5, hP5, hV⟩ := hV
        refine e_vv (n := 2) (A := [.ref 56, .int 14]) (R := []) f_167_68 na_164 rfl rfl (Nat.le_of_ble_eq_true rfl) (Nat.le_of_ble_eq_true rfl) (by rw [ml_164]; exact Nat.le_of_ble_eq_true rfl) rfl (by rw [cy_164]; decide) (by rw [cy_164]; exact (by decide : x_tg 56 = 6)) hP5 (fun S5 hp5 => ?_)
        have hV := hV S5 hp5
        refine e_iload f_167_71 rfl ?_
        refine e_aload f_167_72 rfl (by decide) ?_
        refine e_iload f_167_73 rfl ?_
        obtain ⟨P6, hP6, hV⟩ := hV
        refine e_vi (n := 2) (A := [.ref 56, .int a1]) (R := [.int v4]) f_167_74 na_166 rfl rfl (Nat.le_of_ble_eq_true rfl) (Nat.le_of_ble_eq_true rfl) (by rw [ml_166]; exact Nat.le_of_ble_eq_true rfl) rfl (by rw [cy_166]; decide) (by rw [cy_166]; exact (by decide : x_tg 56 = 6)) hP6 (fun v6 S6 hp6 => ?_)
        have hV := hV v6 S6 hp6
        refine e_iadd f_167_77 ?_
        refine e_iconst (c := 100) f_167_78 (by decide) ?_
        refine e_isub f_167_80 ?_
        exact e_ireturn f_167_81 rt_167 rfl hV
    · have hc := x_ccf_ne hc
      rw [if_pos hc] at hV
      refine e_aload f_167_32 rfl (by decide) ?_
      refine e_iconst (c := 24) f_167_33 (by decide) ?_
      obtain ⟨P7, hP7, hV⟩ := hV
      refine e_vv (n := 2) (A := [.ref 56, .int 24]) (R := []) f_167_35 na_164 rfl rfl (Nat.le_of_ble_eq_true rfl) (Nat.le_of_ble_eq_true rfl) (by rw [ml_164]; exact Nat.le_of_ble_eq_true rfl) rfl (by rw [cy_164]; decide) (by rw [cy_164]; exact (by decide : x_tg 56 = 6)) hP7 (fun S7 hp7 => ?_)
      have hV := hV S7 hp7
      refine e_aload f_167_38 rfl (by decide) ?_
      refine e_iload f_167_39 rfl ?_
      obtain ⟨P8, hP8, hV⟩ := hV
      refine e_vi (n := 2) (A := [.ref 56, .int a1]) (R := []) f_167_40 na_168 rfl rfl (Nat.le_of_ble_eq_true rfl) (Nat.le_of_ble_eq_true rfl) (by rw [ml_168]; exact Nat.le_of_ble_eq_true rfl) rfl (by rw [cy_168]; decide) (by rw [cy_168]; exact (by decide : x_tg 56 = 6)) hP8 (fun v8 S8 hp8 => ?_)
      have hV := hV v8 S8 hp8
      refine e_iconst (c := 500) f_167_43 (by decide) ?_
      refine e_iadd f_167_46 ?_
      exact e_ireturn f_167_47 rt_167 rfl hV
  · have hc := x_ccf_ne hc
    rw [if_pos hc] at hV
    refine e_aload f_167_11 rfl (by decide) ?_
    refine e_iconst (c := 22) f_167_12 (by decide) ?_
    obtain ⟨P9, hP9, hV⟩ := hV
    refine e_vv (n := 2) (A := [.ref 56, .int 22]) (R := []) f_167_14 na_164 rfl rfl (Nat.le_of_ble_eq_true rfl) (Nat.le_of_ble_eq_true rfl) (by rw [ml_164]; exact Nat.le_of_ble_eq_true rfl) rfl (by rw [cy_164]; decide) (by rw [cy_164]; exact (by decide : x_tg 56 = 6)) hP9 (fun S9 hp9 => ?_)
    have hV := hV S9 hp9
    refine e_aload f_167_17 rfl (by decide) ?_
    refine e_iload f_167_18 rfl ?_
    obtain ⟨P10, hP10, hV⟩ := hV
    refine e_vi (n := 2) (A := [.ref 56, .int a1]) (R := []) f_167_19 na_168 rfl rfl (Nat.le_of_ble_eq_true rfl) (Nat.le_of_ble_eq_true rfl) (by rw [ml_168]; exact Nat.le_of_ble_eq_true rfl) rfl (by rw [cy_168]; decide) (by rw [cy_168]; exact (by decide : x_tg 56 = 6)) hP10 (fun v10 S10 hp10 => ?_)
    have hV := hV v10 S10 hp10
    refine e_iconst (c := 1000) f_167_22 (by decide) ?_
    refine e_isub f_167_25 ?_
    exact e_ireturn f_167_26 rt_167 rfl hV
set_option maxRecDepth 20000 in
theorem T_168_0 {xs : List Int32} {d : Nat} {S : x_M} {Q : Option Value → x_M → Prop} {a1 : Int32}  (hV : ∃ P1 : x_M → Prop, x_Cv xs d 164 [.ref 56, .int 21] S P1 ∧ ∀ (S1 : x_M), P1 S1 → (∃ P2 : Int32 → x_M → Prop, x_Ci xs d 169 [.ref 56, .int a1] S1 P2 ∧ ∀ (v2 : Int32) (S2 : x_M), P2 v2 S2 → ((x_ib (2 + a1) 99) ∧ (∃ P3 : Int32 → x_M → Prop, x_Ci xs d 129 [.ref 56, .int (S2 57 (Int32.toNatClampNeg (2 + a1)))] S2 P3 ∧ ∀ (v3 : Int32) (S3 : x_M), P3 v3 S3 → (Q (some (.int (v2 + v3))) S3))))) : x_E xs (d + 1) 168 0 [.ref 56, .int a1, .null] [] S Q := by
  refine e_aload f_168_0 rfl (by decide) ?_
  refine e_iconst (c := 21) f_168_1 (by decide) ?_
  obtain ⟨P1, hP1, hV⟩ := hV
  refine e_vv (n := 2) (A := [.ref 56, .int 21]) (R := []) f_168_3 na_164 rfl rfl (Nat.le_of_ble_eq_true rfl) (Nat.le_of_ble_eq_true rfl) (by rw [ml_164]; exact Nat.le_of_ble_eq_true rfl) rfl (by rw [cy_164]; decide) (by rw [cy_164]; exact (by decide : x_tg 56 = 6)) hP1 (fun S1 hp1 => ?_)
  have hV := hV S1 hp1
  refine e_aload f_168_6 rfl (by decide) ?_
  refine e_iload f_168_7 rfl ?_
  obtain ⟨P2, hP2, hV⟩ := hV
  refine e_vi (n := 2) (A := [.ref 56, .int a1]) (R := []) f_168_8 na_169 rfl rfl (Nat.le_of_ble_eq_true rfl) (Nat.le_of_ble_eq_true rfl) (by rw [ml_169]; exact Nat.le_of_ble_eq_true rfl) rfl (by rw [cy_169]; decide) (by rw [cy_169]; exact (by decide : x_tg 56 = 6)) hP2 (fun v2 S2 hp2 => ?_)
  have hV := hV v2 S2 hp2
  refine e_istore (L' := [.ref 56, .int a1, .int v2]) f_168_11 (Nat.le_of_ble_eq_true rfl) rfl ?_
  refine e_iload f_168_12 rfl ?_
  refine e_aload f_168_13 rfl (by decide) ?_
  refine e_aload f_168_14 rfl (by decide) ?_
  refine e_gr (c := 6) (j := 0) (r := 57) f_168_15 (by decide) (by decide) (by decide) (by decide) ?_
  refine e_iconst (c := 2) f_168_18 (by decide) ?_
  refine e_iload f_168_19 rfl ?_
  refine e_iadd f_168_20 ?_
  obtain ⟨hg, hV⟩ := hV
  refine e_ia (n := 99) f_168_21 (by decide) (by decide) hg ?_
  obtain ⟨P3, hP3, hV⟩ := hV
  refine e_vi (n := 2) (A := [.ref 56, .int (S2 57 (Int32.toNatClampNeg (2 + a1)))]) (R := [.int v2]) f_168_22 na_129 rfl rfl (Nat.le_of_ble_eq_true rfl) (Nat.le_of_ble_eq_true rfl) (by rw [ml_129]; exact Nat.le_of_ble_eq_true rfl) rfl (by rw [cy_129]; decide) (by rw [cy_129]; exact (by decide : x_tg 56 = 6)) hP3 (fun v3 S3 hp3 => ?_)
  have hV := hV v3 S3 hp3
  refine e_iadd f_168_25 ?_
  exact e_ireturn f_168_26 rt_168 rfl hV
set_option maxRecDepth 20000 in
theorem T_169_0 {xs : List Int32} {d : Nat} {S : x_M} {Q : Option Value → x_M → Prop} {a1 : Int32}  (hV : ∃ P1 : x_M → Prop, x_Cv xs d 164 [.ref 56, .int 20] S P1 ∧ ∀ (S1 : x_M), P1 S1 → (Q (some (.int a1)) S1)) : x_E xs (d + 1) 169 0 [.ref 56, .int a1] [] S Q := by
  refine e_aload f_169_0 rfl (by decide) ?_
  refine e_iconst (c := 20) f_169_1 (by decide) ?_
  obtain ⟨P1, hP1, hV⟩ := hV
  refine e_vv (n := 2) (A := [.ref 56, .int 20]) (R := []) f_169_3 na_164 rfl rfl (Nat.le_of_ble_eq_true rfl) (Nat.le_of_ble_eq_true rfl) (by rw [ml_164]; exact Nat.le_of_ble_eq_true rfl) rfl (by rw [cy_164]; decide) (by rw [cy_164]; exact (by decide : x_tg 56 = 6)) hP1 (fun S1 hp1 => ?_)
  have hV := hV S1 hp1
  refine e_iload f_169_6 rfl ?_
  exact e_ireturn f_169_7 rt_169 rfl hV
set_option maxRecDepth 20000 in
theorem T_170_0 {xs : List Int32} {d : Nat} {S : x_M} {Q : Option Value → x_M → Prop} {a1 : Int32}  (hV : ∃ P1 : Int32 → x_M → Prop, x_Ci xs d 101 [.long (Int32.toInt64 a1), .long 0, .long (Int32.toInt64 ((S 56 9) - 1))] S P1 ∧ ∀ (v1 : Int32) (S1 : x_M), P1 v1 S1 → (if v1 = 0 then (Q (some (.int (-1000000))) S1) else ((x_ib a1 16) ∧ (Q (some (.int (S1 62 (Int32.toNatClampNeg a1)))) S1)))) : x_E xs (d + 1) 170 0 [.ref 56, .int a1] [] S Q := by
  refine e_iload f_170_0 rfl ?_
  refine e_i2l f_170_1 ?_
  refine e_lconst (c := 0) f_170_2 (by decide) ?_
  refine e_aload f_170_3 rfl (by decide) ?_
  refine e_gf (c := 6) (j := 9) f_170_4 (by decide) (by decide) (by decide) ?_
  refine e_iconst (c := 1) f_170_7 (by decide) ?_
  refine e_isub f_170_8 ?_
  refine e_i2l f_170_9 ?_
  obtain ⟨P1, hP1, hV⟩ := hV
  refine e_si (n := 3) (A := [.long (Int32.toInt64 a1), .long 0, .long (Int32.toInt64 ((S 56 9) - 1))]) (R := []) f_170_10 na_101 rfl rfl (Nat.le_of_ble_eq_true rfl) (Nat.le_of_ble_eq_true rfl) (by rw [ml_101]; exact Nat.le_of_ble_eq_true rfl) hP1 (fun v1 S1 hp1 => ?_)
  have hV := hV v1 S1 hp1
  refine e_if f_170_13 (fun hc => ?_) (fun hc => ?_)
  · have hc := x_cct_eq hc
    rw [if_pos hc] at hV
    refine e_iconst (c := (-1000000)) f_170_25 (by decide) ?_
    exact e_ireturn f_170_27 rt_170 rfl hV
  · have hc := x_ccf_eq hc
    rw [if_neg hc] at hV
    refine e_aload f_170_16 rfl (by decide) ?_
    refine e_gr (c := 6) (j := 8) (r := 62) f_170_17 (by decide) (by decide) (by decide) (by decide) ?_
    refine e_iload f_170_20 rfl ?_
    obtain ⟨hg, hV⟩ := hV
    refine e_ia (n := 16) f_170_21 (by decide) (by decide) hg ?_
    refine e_goto f_170_22 ?_
    exact e_ireturn f_170_27 rt_170 rfl hV
set_option maxRecDepth 20000 in
theorem T_171_0 {xs : List Int32} {d : Nat} {S : x_M} {Q : Option Value → x_M → Prop} {a1 : Int32}  (hV : x_E xs (d + 1) 171 4 [.ref 56, .int a1, .int 0, .int 0] [] S Q) : x_E xs (d + 1) 171 0 [.ref 56, .int a1, .null, .null] [] S Q := by
  refine e_iconst (c := 0) f_171_0 (by decide) ?_
  refine e_istore (L' := [.ref 56, .int a1, .int 0, .null]) f_171_1 (Nat.le_of_ble_eq_true rfl) rfl ?_
  refine e_iconst (c := 0) f_171_2 (by decide) ?_
  refine e_istore (L' := [.ref 56, .int a1, .int 0, .int 0]) f_171_3 (Nat.le_of_ble_eq_true rfl) rfl ?_
  exact hV
set_option maxRecDepth 20000 in
theorem T_171_4 {xs : List Int32} {d : Nat} {S : x_M} {Q : Option Value → x_M → Prop} {a1 : Int32} {a2 : Int32} {a3 : Int32}  (hV : if (8 : Int32) ≤ a3 then (if a1 = 0 then (Q (some (.int a2)) S) else (if a1 = 1 then (Q (some (.int (S 57 1))) S) else (if a1 = 2 then (∃ P1 : Int32 → x_M → Prop, x_Ci xs d 136 [.int (S 57 30)] S P1 ∧ ∀ (v1 : Int32) (S1 : x_M), P1 v1 S1 → (∃ P2 : Int32 → x_M → Prop, x_Ci xs d 136 [.int (S1 57 31)] S1 P2 ∧ ∀ (v2 : Int32) (S2 : x_M), P2 v2 S2 → (Q (some (.int (((S 57 1) - v1) - v2))) S2))) else (if a1 = 3 then (Q (some (.int (S 56 2))) S) else (Q (some (.int (-1000001))) S))))) else ((x_ib a3 8) ∧ (if (S 59 (Int32.toNatClampNeg a3)) = (-1000000) then (x_E xs (d + 1) 171 4 [.ref 56, .int a1, .int (a2 + 0), .int (a3 + 1)] [] S Q) else (x_E xs (d + 1) 171 4 [.ref 56, .int a1, .int (a2 + 1), .int (a3 + 1)] [] S Q)))) : x_E xs (d + 1) 171 4 [.ref 56, .int a1, .int a2, .int a3] [] S Q := by
  refine e_iload f_171_4 rfl ?_
  refine e_iconst (c := 8) f_171_5 (by decide) ?_
  refine e_icmp f_171_7 (fun hc => ?_) (fun hc => ?_)
  · have hc := x_cct_ge hc
    rw [if_pos hc] at hV
    refine e_iload f_171_35 rfl ?_
    refine e_if f_171_36 (fun hc => ?_) (fun hc => ?_)
    · have hc := x_cct_ne hc
      rw [if_neg hc] at hV
      refine e_iload f_171_43 rfl ?_
      refine e_iconst (c := 1) f_171_44 (by decide) ?_
      refine e_icmp f_171_45 (fun hc => ?_) (fun hc => ?_)
      · have hc := x_cct_ne hc
        rw [if_neg hc] at hV
        refine e_iload f_171_57 rfl ?_
        refine e_iconst (c := 2) f_171_58 (by decide) ?_
        refine e_icmp f_171_59 (fun hc => ?_) (fun hc => ?_)
        · have hc := x_cct_ne hc
          rw [if_neg hc] at hV
          refine e_iload f_171_93 rfl ?_
          refine e_iconst (c := 3) f_171_94 (by decide) ?_
          refine e_icmp f_171_95 (fun hc => ?_) (fun hc => ?_)
          · have hc := x_cct_ne hc
            rw [if_neg hc] at hV
            refine e_iconst (c := (-1000001)) f_171_105 (by decide) ?_
            exact e_ireturn f_171_107 rt_171 rfl hV
          · have hc := x_ccf_ne hc
            rw [if_pos hc] at hV
            refine e_aload f_171_98 rfl (by decide) ?_
            refine e_gf (c := 6) (j := 2) f_171_99 (by decide) (by decide) (by decide) ?_
            refine e_goto f_171_102 ?_
            exact e_ireturn f_171_107 rt_171 rfl hV
        · have hc := x_ccf_ne hc
          rw [if_pos hc] at hV
          refine e_aload f_171_62 rfl (by decide) ?_
          refine e_gr (c := 6) (j := 0) (r := 57) f_171_63 (by decide) (by decide) (by decide) (by decide) ?_
          refine e_iconst (c := 1) f_171_66 (by decide) ?_
          refine e_iak (n := 99) (kk := 1) f_171_67 (by decide) (by decide) (by decide) ?_
          refine e_aload f_171_68 rfl (by decide) ?_
          refine e_gr (c := 6) (j := 0) (r := 57) f_171_69 (by decide) (by decide) (by decide) (by decide) ?_
          refine e_iconst (c := 30) f_171_72 (by decide) ?_
          refine e_iak (n := 99) (kk := 30) f_171_74 (by decide) (by decide) (by decide) ?_
          obtain ⟨P1, hP1, hV⟩ := hV
          refine e_si (n := 1) (A := [.int (S 57 30)]) (R := [.int (S 57 1)]) f_171_75 na_136 rfl rfl (Nat.le_of_ble_eq_true rfl) (Nat.le_of_ble_eq_true rfl) (by rw [ml_136]; exact Nat.le_of_ble_eq_true rfl) hP1 (fun v1 S1 hp1 => ?_)
          have hV := hV v1 S1 hp1
          refine e_isub f_171_78 ?_
          refine e_aload f_171_79 rfl (by decide) ?_
          refine e_gr (c := 6) (j := 0) (r := 57) f_171_80 (by decide) (by decide) (by decide) (by decide) ?_
          refine e_iconst (c := 31) f_171_83 (by decide) ?_
          refine e_iak (n := 99) (kk := 31) f_171_85 (by decide) (by decide) (by decide) ?_
          obtain ⟨P2, hP2, hV⟩ := hV
          refine e_si (n := 1) (A := [.int (S1 57 31)]) (R := [.int ((S 57 1) - v1)]) f_171_86 na_136 rfl rfl (Nat.le_of_ble_eq_true rfl) (Nat.le_of_ble_eq_true rfl) (by rw [ml_136]; exact Nat.le_of_ble_eq_true rfl) hP2 (fun v2 S2 hp2 => ?_)
          have hV := hV v2 S2 hp2
          refine e_isub f_171_89 ?_
          refine e_goto f_171_90 ?_
          exact e_ireturn f_171_107 rt_171 rfl hV
      · have hc := x_ccf_ne hc
        rw [if_pos hc] at hV
        refine e_aload f_171_48 rfl (by decide) ?_
        refine e_gr (c := 6) (j := 0) (r := 57) f_171_49 (by decide) (by decide) (by decide) (by decide) ?_
        refine e_iconst (c := 1) f_171_52 (by decide) ?_
        refine e_iak (n := 99) (kk := 1) f_171_53 (by decide) (by decide) (by decide) ?_
        refine e_goto f_171_54 ?_
        exact e_ireturn f_171_107 rt_171 rfl hV
    · have hc := x_ccf_ne hc
      rw [if_pos hc] at hV
      refine e_iload f_171_39 rfl ?_
      refine e_goto f_171_40 ?_
      exact e_ireturn f_171_107 rt_171 rfl hV
  · have hc := x_ccf_ge hc
    rw [if_neg hc] at hV
    refine e_iload f_171_10 rfl ?_
    refine e_aload f_171_11 rfl (by decide) ?_
    refine e_gr (c := 6) (j := 5) (r := 59) f_171_12 (by decide) (by decide) (by decide) (by decide) ?_
    refine e_iload f_171_15 rfl ?_
    obtain ⟨hg, hV⟩ := hV
    refine e_ia (n := 8) f_171_16 (by decide) (by decide) hg ?_
    refine e_iconst (c := (-1000000)) f_171_17 (by decide) ?_
    refine e_icmp f_171_19 (fun hc => ?_) (fun hc => ?_)
    · have hc := x_cct_ne hc
      rw [if_neg hc] at hV
      refine e_iconst (c := 1) f_171_26 (by decide) ?_
      refine e_iadd f_171_27 ?_
      refine e_istore (L' := [.ref 56, .int a1, .int (a2 + 1), .int a3]) f_171_28 (Nat.le_of_ble_eq_true rfl) rfl ?_
      refine e_inc (c := 1) (L' := [.ref 56, .int a1, .int (a2 + 1), .int (a3 + 1)]) f_171_29 rfl (by decide) rfl ?_
      refine e_goto f_171_32 ?_
      exact hV
    · have hc := x_ccf_ne hc
      rw [if_pos hc] at hV
      refine e_iconst (c := 0) f_171_22 (by decide) ?_
      refine e_goto f_171_23 ?_
      refine e_iadd f_171_27 ?_
      refine e_istore (L' := [.ref 56, .int a1, .int (a2 + 0), .int a3]) f_171_28 (Nat.le_of_ble_eq_true rfl) rfl ?_
      refine e_inc (c := 1) (L' := [.ref 56, .int a1, .int (a2 + 0), .int (a3 + 1)]) f_171_29 rfl (by decide) rfl ?_
      refine e_goto f_171_32 ?_
      exact hV
set_option maxRecDepth 20000 in
theorem T_172_0 {xs : List Int32} {d : Nat} {S : x_M} {Q : Option Value → x_M → Prop}   (hV : Q (some (.int (S 56 4))) S) : x_E xs (d + 1) 172 0 [.ref 56] [] S Q := by
  refine e_aload f_172_0 rfl (by decide) ?_
  refine e_gf (c := 6) (j := 4) f_172_1 (by decide) (by decide) (by decide) ?_
  exact e_ireturn f_172_4 rt_172 rfl hV
set_option maxRecDepth 20000 in
theorem T_179_0 {xs : List Int32} {d : Nat} {S : x_M} {Q : Option Value → x_M → Prop} {a0 : Int32}  (hV : ∀ x1 : Int32, x1 = (a0 - ((UInt32.toInt32 ((Int32.toUInt32 a0) >>> ((Int32.toUInt32 1) &&& Int32.toUInt32 31))) &&& 1431655765)) → (∀ x2 : Int32, x2 = ((x1 &&& 858993459) + ((UInt32.toInt32 ((Int32.toUInt32 x1) >>> ((Int32.toUInt32 2) &&& Int32.toUInt32 31))) &&& 858993459)) → (∀ x3 : Int32, x3 = ((x2 + (UInt32.toInt32 ((Int32.toUInt32 x2) >>> ((Int32.toUInt32 4) &&& Int32.toUInt32 31)))) &&& 252645135) → (∀ x4 : Int32, x4 = (x3 + (UInt32.toInt32 ((Int32.toUInt32 x3) >>> ((Int32.toUInt32 8) &&& Int32.toUInt32 31)))) → (∀ x5 : Int32, x5 = (x4 + (UInt32.toInt32 ((Int32.toUInt32 x4) >>> ((Int32.toUInt32 16) &&& Int32.toUInt32 31)))) → (Q (some (.int (x5 &&& 63))) S)))))) : x_E xs (d + 1) 179 0 [.int a0] [] S Q := by
  refine e_iload f_179_0 rfl ?_
  refine e_iload f_179_1 rfl ?_
  refine e_iconst (c := 1) f_179_2 (by decide) ?_
  refine e_iushr f_179_3 ?_
  refine e_iconst (c := 1431655765) f_179_4 (by decide) ?_
  refine e_iand f_179_7 ?_
  refine e_isub f_179_8 ?_
  refine e_istoren (L' := fun x1 => [.int x1]) f_179_9 (Nat.le_of_ble_eq_true rfl) (fun _ => rfl) (fun x1 hx1 => ?_)
  have hV := hV x1 hx1
  refine e_iload f_179_10 rfl ?_
  refine e_iconst (c := 858993459) f_179_11 (by decide) ?_
  refine e_iand f_179_14 ?_
  refine e_iload f_179_15 rfl ?_
  refine e_iconst (c := 2) f_179_16 (by decide) ?_
  refine e_iushr f_179_17 ?_
  refine e_iconst (c := 858993459) f_179_18 (by decide) ?_
  refine e_iand f_179_21 ?_
  refine e_iadd f_179_22 ?_
  refine e_istoren (L' := fun x2 => [.int x2]) f_179_23 (Nat.le_of_ble_eq_true rfl) (fun _ => rfl) (fun x2 hx2 => ?_)
  have hV := hV x2 hx2
  refine e_iload f_179_24 rfl ?_
  refine e_iload f_179_25 rfl ?_
  refine e_iconst (c := 4) f_179_26 (by decide) ?_
  refine e_iushr f_179_27 ?_
  refine e_iadd f_179_28 ?_
  refine e_iconst (c := 252645135) f_179_29 (by decide) ?_
  refine e_iand f_179_32 ?_
  refine e_istoren (L' := fun x3 => [.int x3]) f_179_33 (Nat.le_of_ble_eq_true rfl) (fun _ => rfl) (fun x3 hx3 => ?_)
  have hV := hV x3 hx3
  refine e_iload f_179_34 rfl ?_
  refine e_iload f_179_35 rfl ?_
  refine e_iconst (c := 8) f_179_36 (by decide) ?_
  refine e_iushr f_179_38 ?_
  refine e_iadd f_179_39 ?_
  refine e_istoren (L' := fun x4 => [.int x4]) f_179_40 (Nat.le_of_ble_eq_true rfl) (fun _ => rfl) (fun x4 hx4 => ?_)
  have hV := hV x4 hx4
  refine e_iload f_179_41 rfl ?_
  refine e_iload f_179_42 rfl ?_
  refine e_iconst (c := 16) f_179_43 (by decide) ?_
  refine e_iushr f_179_45 ?_
  refine e_iadd f_179_46 ?_
  refine e_istoren (L' := fun x5 => [.int x5]) f_179_47 (Nat.le_of_ble_eq_true rfl) (fun _ => rfl) (fun x5 hx5 => ?_)
  have hV := hV x5 hx5
  refine e_iload f_179_48 rfl ?_
  refine e_iconst (c := 63) f_179_49 (by decide) ?_
  refine e_iand f_179_51 ?_
  exact e_ireturn f_179_52 rt_179 rfl hV
set_option maxRecDepth 20000 in
theorem T_182_0 {xs : List Int32} {d : Nat} {S : x_M} {Q : Option Value → x_M → Prop} {a0 la0 : Nat} {a1 : Int32} (ha0 : x_tg a0 = 10) (na0 : x_ln a0 = la0) (hV : x_E xs (d + 1) 182 5 [.ref a0, .int a1, .int 0, .int (Int32.ofNat la0)] [] S Q) : x_E xs (d + 1) 182 0 [.ref a0, .int a1, .null, .null] [] S Q := by
  refine e_iconst (c := 0) f_182_0 (by decide) ?_
  refine e_istore (L' := [.ref a0, .int a1, .int 0, .null]) f_182_1 (Nat.le_of_ble_eq_true rfl) rfl ?_
  refine e_aload f_182_2 rfl (x_n7 ha0 (by decide)) ?_
  refine e_al (c := 10) (n := la0) (v := (Int32.ofNat la0)) f_182_3 ha0 (by decide) na0 rfl ?_
  refine e_istore (L' := [.ref a0, .int a1, .int 0, .int (Int32.ofNat la0)]) f_182_4 (Nat.le_of_ble_eq_true rfl) rfl ?_
  exact hV
set_option maxRecDepth 20000 in
theorem T_182_5 {xs : List Int32} {d : Nat} {S : x_M} {Q : Option Value → x_M → Prop} {a0 la0 : Nat} {a1 : Int32} {a2 : Int32} {a3 : Int32} (ha0 : x_tg a0 = 10) (na0 : x_ln a0 = la0) (hV : if a3 ≤ a2 then (Q none S) else ((x_ib a2 la0) ∧ (∀ S1 : x_M, S1 = x_up S a0 (Int32.toNatClampNeg a2) a1 → (x_E xs (d + 1) 182 5 [.ref a0, .int a1, .int (a2 + 1), .int a3] [] S1 Q)))) : x_E xs (d + 1) 182 5 [.ref a0, .int a1, .int a2, .int a3] [] S Q := by
  refine e_iload f_182_5 rfl ?_
  refine e_iload f_182_6 rfl ?_
  refine e_icmp f_182_7 (fun hc => ?_) (fun hc => ?_)
  · have hc := x_cct_ge hc
    rw [if_pos hc] at hV
    exact e_return f_182_20 rt_182 hV
  · have hc := x_ccf_ge hc
    rw [if_neg hc] at hV
    refine e_aload f_182_10 rfl (x_n7 ha0 (by decide)) ?_
    refine e_iload f_182_11 rfl ?_
    refine e_iload f_182_12 rfl ?_
    obtain ⟨hg, hV⟩ := hV
    refine e_isn (n := la0) f_182_13 ha0 na0 hg (fun S1 hS1 => ?_)
    have hV := hV S1 hS1
    refine e_inc (c := 1) (L' := [.ref a0, .int a1, .int (a2 + 1), .int a3]) f_182_14 rfl (by decide) rfl ?_
    refine e_goto f_182_17 ?_
    exact hV
