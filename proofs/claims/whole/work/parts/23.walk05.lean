set_option maxRecDepth 20000 in
theorem T_90_0 {xs : List Int32} {d : Nat} {S : x_M} {Q : Option Value → x_M → Prop} {a1 : Int32} {a2 : Int32}  (hV : ∃ P1 : Int32 → x_M → Prop, x_Ci xs d 60 [.ref 8, .int a1] S P1 ∧ ∀ (v1 : Int32) (S1 : x_M), P1 v1 S1 → (if v1 = 0 then (Q (some (.int (-1000001))) S1) else (if a2 < 0 then (Q (some (.int (-1000001))) S1) else (if a2 < 6 then (∃ P2 : Int32 → x_M → Prop, x_Ci xs d 89 [.ref 12, .int a1, .int a2] S1 P2 ∧ ∀ (v2 : Int32) (S2 : x_M), P2 v2 S2 → (if v2 = 0 then (∃ P3 : Int32 → x_M → Prop, x_Ci xs d 45 [.ref 8, .int 3] S2 P3 ∧ ∀ (v3 : Int32) (S3 : x_M), P3 v3 S3 → (Q (some (.int v3)) S3)) else (∃ P4 : Int32 → x_M → Prop, x_Ci xs d 46 [.ref 8, .int a1] S2 P4 ∧ ∀ (v4 : Int32) (S4 : x_M), P4 v4 S4 → (Q (some (.int v4)) S4)))) else (Q (some (.int (-1000001))) S1))))) : x_E xs (d + 1) 90 0 [.ref 8, .int a1, .int a2] [] S Q := by
  refine e_aload f_90_0 rfl (by decide) ?_
  refine e_iload f_90_1 rfl ?_
  obtain ⟨P1, hP1, hV⟩ := hV
  refine e_vi (n := 2) (A := [.ref 8, .int a1]) (R := []) f_90_2 na_60 rfl rfl (Nat.le_of_ble_eq_true rfl) (Nat.le_of_ble_eq_true rfl) (by rw [ml_60]; exact Nat.le_of_ble_eq_true rfl) rfl (by rw [cy_60]; decide) (by rw [cy_60]; exact (by decide : x_tg 8 = 5)) hP1 (fun v1 S1 hp1 => ?_)
  have hV := hV v1 S1 hp1
  refine e_if f_90_5 (fun hc => ?_) (fun hc => ?_)
  · have hc := x_cct_eq hc
    rw [if_pos hc] at hV
    refine e_iconst (c := (-1000001)) f_90_18 (by decide) ?_
    exact e_ireturn f_90_20 rt_90 rfl hV
  · have hc := x_ccf_eq hc
    rw [if_neg hc] at hV
    refine e_iload f_90_8 rfl ?_
    refine e_if f_90_9 (fun hc => ?_) (fun hc => ?_)
    · have hc := x_cct_lt hc
      rw [if_pos hc] at hV
      refine e_iconst (c := (-1000001)) f_90_18 (by decide) ?_
      exact e_ireturn f_90_20 rt_90 rfl hV
    · have hc := x_ccf_lt hc
      rw [if_neg hc] at hV
      refine e_iload f_90_12 rfl ?_
      refine e_iconst (c := 6) f_90_13 (by decide) ?_
      refine e_icmp f_90_15 (fun hc => ?_) (fun hc => ?_)
      · have hc := x_cct_lt hc
        rw [if_pos hc] at hV
        refine e_aload f_90_21 rfl (by decide) ?_
        refine e_gr (c := 5) (j := 2) (r := 12) f_90_22 (by decide) (by decide) (by decide) (by decide) ?_
        refine e_iload f_90_25 rfl ?_
        refine e_iload f_90_26 rfl ?_
        obtain ⟨P2, hP2, hV⟩ := hV
        refine e_si (n := 3) (A := [.ref 12, .int a1, .int a2]) (R := []) f_90_27 na_89 rfl rfl (Nat.le_of_ble_eq_true rfl) (Nat.le_of_ble_eq_true rfl) (by rw [ml_89]; exact Nat.le_of_ble_eq_true rfl) hP2 (fun v2 S2 hp2 => ?_)
        have hV := hV v2 S2 hp2
        refine e_if f_90_30 (fun hc => ?_) (fun hc => ?_)
        · have hc := x_cct_eq hc
          rw [if_pos hc] at hV
          refine e_aload f_90_41 rfl (by decide) ?_
          refine e_iconst (c := 3) f_90_42 (by decide) ?_
          obtain ⟨P3, hP3, hV⟩ := hV
          refine e_vi (n := 2) (A := [.ref 8, .int 3]) (R := []) f_90_43 na_45 rfl rfl (Nat.le_of_ble_eq_true rfl) (Nat.le_of_ble_eq_true rfl) (by rw [ml_45]; exact Nat.le_of_ble_eq_true rfl) rfl (by rw [cy_45]; decide) (by rw [cy_45]; exact (by decide : x_tg 8 = 5)) hP3 (fun v3 S3 hp3 => ?_)
          have hV := hV v3 S3 hp3
          exact e_ireturn f_90_46 rt_90 rfl hV
        · have hc := x_ccf_eq hc
          rw [if_neg hc] at hV
          refine e_aload f_90_33 rfl (by decide) ?_
          refine e_iload f_90_34 rfl ?_
          obtain ⟨P4, hP4, hV⟩ := hV
          refine e_vi (n := 2) (A := [.ref 8, .int a1]) (R := []) f_90_35 na_46 rfl rfl (Nat.le_of_ble_eq_true rfl) (Nat.le_of_ble_eq_true rfl) (by rw [ml_46]; exact Nat.le_of_ble_eq_true rfl) rfl (by rw [cy_46]; decide) (by rw [cy_46]; exact (by decide : x_tg 8 = 5)) hP4 (fun v4 S4 hp4 => ?_)
          have hV := hV v4 S4 hp4
          refine e_goto f_90_38 ?_
          exact e_ireturn f_90_46 rt_90 rfl hV
      · have hc := x_ccf_lt hc
        rw [if_neg hc] at hV
        refine e_iconst (c := (-1000001)) f_90_18 (by decide) ?_
        exact e_ireturn f_90_20 rt_90 rfl hV
set_option maxRecDepth 20000 in
theorem T_91_0 {xs : List Int32} {d : Nat} {S : x_M} {Q : Option Value → x_M → Prop} {a1 : Int32} {a2 : Int32}  (hV : ∃ P1 : Int32 → x_M → Prop, x_Ci xs d 60 [.ref 8, .int a1] S P1 ∧ ∀ (v1 : Int32) (S1 : x_M), P1 v1 S1 → (if v1 = 0 then (Q (some (.int (-1000001))) S1) else (if a2 = 0 then (x_E xs (d + 1) 91 20 [.ref 8, .int a1, .int a2] [] S1 Q) else (if a2 = 1 then (x_E xs (d + 1) 91 20 [.ref 8, .int a1, .int a2] [] S1 Q) else (Q (some (.int (-1000001))) S1))))) : x_E xs (d + 1) 91 0 [.ref 8, .int a1, .int a2] [] S Q := by
  refine e_aload f_91_0 rfl (by decide) ?_
  refine e_iload f_91_1 rfl ?_
  obtain ⟨P1, hP1, hV⟩ := hV
  refine e_vi (n := 2) (A := [.ref 8, .int a1]) (R := []) f_91_2 na_60 rfl rfl (Nat.le_of_ble_eq_true rfl) (Nat.le_of_ble_eq_true rfl) (by rw [ml_60]; exact Nat.le_of_ble_eq_true rfl) rfl (by rw [cy_60]; decide) (by rw [cy_60]; exact (by decide : x_tg 8 = 5)) hP1 (fun v1 S1 hp1 => ?_)
  have hV := hV v1 S1 hp1
  refine e_if f_91_5 (fun hc => ?_) (fun hc => ?_)
  · have hc := x_cct_eq hc
    rw [if_pos hc] at hV
    refine e_iconst (c := (-1000001)) f_91_17 (by decide) ?_
    exact e_ireturn f_91_19 rt_91 rfl hV
  · have hc := x_ccf_eq hc
    rw [if_neg hc] at hV
    refine e_iload f_91_8 rfl ?_
    refine e_if f_91_9 (fun hc => ?_) (fun hc => ?_)
    · have hc := x_cct_eq hc
      rw [if_pos hc] at hV
      exact hV
    · have hc := x_ccf_eq hc
      rw [if_neg hc] at hV
      refine e_iload f_91_12 rfl ?_
      refine e_iconst (c := 1) f_91_13 (by decide) ?_
      refine e_icmp f_91_14 (fun hc => ?_) (fun hc => ?_)
      · have hc := x_cct_eq hc
        rw [if_pos hc] at hV
        exact hV
      · have hc := x_ccf_eq hc
        rw [if_neg hc] at hV
        refine e_iconst (c := (-1000001)) f_91_17 (by decide) ?_
        exact e_ireturn f_91_19 rt_91 rfl hV
set_option maxRecDepth 20000 in
theorem T_91_20 {xs : List Int32} {d : Nat} {S : x_M} {Q : Option Value → x_M → Prop} {a1 : Int32} {a2 : Int32}  (hV : ∀ S1 : x_M, S1 = x_up S 28 1 0 → (∃ P2 : Int32 → x_M → Prop, x_Ci xs d 92 [.ref 12, .int a1, .int a2] S1 P2 ∧ ∀ (v2 : Int32) (S2 : x_M), P2 v2 S2 → (∃ P3 : Int32 → x_M → Prop, x_Ci xs d 93 [.int v2, .ref 12, .int a1, .ref 28, .int 0] S2 P3 ∧ ∀ (v3 : Int32) (S3 : x_M), P3 v3 S3 → (Q (some (.int v3)) S3)))) : x_E xs (d + 1) 91 20 [.ref 8, .int a1, .int a2] [] S Q := by
  refine e_aload f_91_20 rfl (by decide) ?_
  refine e_gr (c := 5) (j := 7) (r := 28) f_91_21 (by decide) (by decide) (by decide) (by decide) ?_
  refine e_iconst (c := 0) f_91_24 (by decide) ?_
  refine e_pfn (c := 4) (j := 1) f_91_25 (by decide) (by decide) (by decide) (x_fit_i rfl) (fun S1 hS1 => ?_)
  have hV := hV S1 hS1
  refine e_aload f_91_28 rfl (by decide) ?_
  refine e_gr (c := 5) (j := 2) (r := 12) f_91_29 (by decide) (by decide) (by decide) (by decide) ?_
  refine e_iload f_91_32 rfl ?_
  refine e_iload f_91_33 rfl ?_
  obtain ⟨P2, hP2, hV⟩ := hV
  refine e_si (n := 3) (A := [.ref 12, .int a1, .int a2]) (R := []) f_91_34 na_92 rfl rfl (Nat.le_of_ble_eq_true rfl) (Nat.le_of_ble_eq_true rfl) (by rw [ml_92]; exact Nat.le_of_ble_eq_true rfl) hP2 (fun v2 S2 hp2 => ?_)
  have hV := hV v2 S2 hp2
  refine e_aload f_91_37 rfl (by decide) ?_
  refine e_gr (c := 5) (j := 2) (r := 12) f_91_38 (by decide) (by decide) (by decide) (by decide) ?_
  refine e_iload f_91_41 rfl ?_
  refine e_aload f_91_42 rfl (by decide) ?_
  refine e_gr (c := 5) (j := 7) (r := 28) f_91_43 (by decide) (by decide) (by decide) (by decide) ?_
  refine e_iconst (c := 0) f_91_46 (by decide) ?_
  obtain ⟨P3, hP3, hV⟩ := hV
  refine e_si (n := 5) (A := [.int v2, .ref 12, .int a1, .ref 28, .int 0]) (R := []) f_91_47 na_93 rfl rfl (Nat.le_of_ble_eq_true rfl) (Nat.le_of_ble_eq_true rfl) (by rw [ml_93]; exact Nat.le_of_ble_eq_true rfl) hP3 (fun v3 S3 hp3 => ?_)
  have hV := hV v3 S3 hp3
  exact e_ireturn f_91_50 rt_91 rfl hV
set_option maxRecDepth 20000 in
theorem T_92_0 {xs : List Int32} {d : Nat} {S : x_M} {Q : Option Value → x_M → Prop} {a0 : Nat} {a1 : Int32} {a2 : Int32} (ha0 : x_tg a0 = 0) (hV : if a2 = 0 then (x_E xs (d + 1) 92 13 [.ref a0, .int a1, .int a2, .null, .null] [.ref 1] S Q) else (x_E xs (d + 1) 92 13 [.ref a0, .int a1, .int a2, .null, .null] [.ref 2] S Q)) : x_E xs (d + 1) 92 0 [.ref a0, .int a1, .int a2, .null, .null] [] S Q := by
  refine e_iload f_92_0 rfl ?_
  refine e_if f_92_1 (fun hc => ?_) (fun hc => ?_)
  · have hc := x_cct_ne hc
    rw [if_neg hc] at hV
    refine e_gs1 f_92_10 ?_
    exact hV
  · have hc := x_ccf_ne hc
    rw [if_pos hc] at hV
    refine e_gs0 f_92_4 ?_
    refine e_goto f_92_7 ?_
    exact hV
set_option maxRecDepth 20000 in
theorem T_92_13 {xs : List Int32} {d : Nat} {S : x_M} {Q : Option Value → x_M → Prop} {a0 : Nat} {a1 : Int32} {a2 : Int32} {s0 : Nat} (ha0 : x_tg a0 = 0) (hs0 : s0 ≤ 2) (hV : ∃ P1 : Int32 → x_M → Prop, x_Ci xs d 88 [.ref a0, .int a1] S P1 ∧ ∀ (v1 : Int32) (S1 : x_M), P1 v1 S1 → (if v1 < 0 then ((x_ib 0 (x_ol xs s0)) ∧ (Q (some (.int (x_oa xs s0 (Int32.toNatClampNeg 0)))) S1)) else (if (Int32.ofNat (x_ol xs s0)) ≤ v1 then ((x_ib 0 (x_ol xs s0)) ∧ (Q (some (.int (x_oa xs s0 (Int32.toNatClampNeg 0)))) S1)) else ((x_ib v1 (x_ol xs s0)) ∧ (Q (some (.int (x_oa xs s0 (Int32.toNatClampNeg v1)))) S1))))) : x_E xs (d + 1) 92 13 [.ref a0, .int a1, .int a2, .null, .null] [.ref s0] S Q := by
  refine e_astore (L' := [.ref a0, .int a1, .int a2, .ref s0, .null]) f_92_13 (Nat.le_of_ble_eq_true rfl) (by omega) rfl ?_
  refine e_aload f_92_14 rfl (x_n7 ha0 (by decide)) ?_
  refine e_iload f_92_15 rfl ?_
  obtain ⟨P1, hP1, hV⟩ := hV
  refine e_si (n := 2) (A := [.ref a0, .int a1]) (R := []) f_92_16 na_88 rfl rfl (Nat.le_of_ble_eq_true rfl) (Nat.le_of_ble_eq_true rfl) (by rw [ml_88]; exact Nat.le_of_ble_eq_true rfl) hP1 (fun v1 S1 hp1 => ?_)
  have hV := hV v1 S1 hp1
  refine e_istore (L' := [.ref a0, .int a1, .int a2, .ref s0, .int v1]) f_92_19 (Nat.le_of_ble_eq_true rfl) rfl ?_
  refine e_iload f_92_21 rfl ?_
  refine e_if f_92_23 (fun hc => ?_) (fun hc => ?_)
  · have hc := x_cct_lt hc
    rw [if_pos hc] at hV
    refine e_aload f_92_40 rfl (by omega) ?_
    refine e_iconst (c := 0) f_92_41 (by decide) ?_
    obtain ⟨hg, hV⟩ := hV
    refine e_iao f_92_42 hs0 hg ?_
    exact e_ireturn f_92_43 rt_92 rfl hV
  · have hc := x_ccf_lt hc
    rw [if_neg hc] at hV
    refine e_iload f_92_26 rfl ?_
    refine e_aload f_92_28 rfl (by omega) ?_
    refine e_alo f_92_29 hs0 ?_
    refine e_icmp f_92_30 (fun hc => ?_) (fun hc => ?_)
    · have hc := x_cct_ge hc
      rw [if_pos hc] at hV
      refine e_aload f_92_40 rfl (by omega) ?_
      refine e_iconst (c := 0) f_92_41 (by decide) ?_
      obtain ⟨hg, hV⟩ := hV
      refine e_iao f_92_42 hs0 hg ?_
      exact e_ireturn f_92_43 rt_92 rfl hV
    · have hc := x_ccf_ge hc
      rw [if_neg hc] at hV
      refine e_aload f_92_33 rfl (by omega) ?_
      refine e_iload f_92_34 rfl ?_
      obtain ⟨hg, hV⟩ := hV
      refine e_iao f_92_36 hs0 hg ?_
      refine e_goto f_92_37 ?_
      exact e_ireturn f_92_43 rt_92 rfl hV
set_option maxRecDepth 20000 in
theorem T_93_0 {xs : List Int32} {d : Nat} {S : x_M} {Q : Option Value → x_M → Prop} {a0 : Int32} {a1 : Nat} {a2 : Int32} {a4 : Int32} (ha1 : x_tg a1 = 0) (hV : if a4 ≤ 12 then (∃ P1 : x_M → Prop, x_Cv xs d 41 [.ref 28, .int a0] S P1 ∧ ∀ (S1 : x_M), P1 S1 → (if a0 = 10 then (∃ P2 : Int32 → x_M → Prop, x_Ci xs d 8 [.ref a1, .int a2, .int 0] S1 P2 ∧ ∀ (v2 : Int32) (S2 : x_M), P2 v2 S2 → (∃ P3 : Int32 → x_M → Prop, x_Ci xs d 179 [.int v2] S2 P3 ∧ ∀ (v3 : Int32) (S3 : x_M), P3 v3 S3 → (Q (some (.int v3)) S3))) else (if a0 = 11 then (∃ P4 : Int32 → x_M → Prop, x_Ci xs d 93 [.int 10, .ref a1, .int a2, .ref 28, .int (a4 + 1)] S1 P4 ∧ ∀ (v4 : Int32) (S4 : x_M), P4 v4 S4 → (∃ P5 : Int32 → x_M → Prop, x_Ci xs d 92 [.ref a1, .int a2, .int 1] S4 P5 ∧ ∀ (v5 : Int32) (S5 : x_M), P5 v5 S5 → (∃ P6 : Int32 → x_M → Prop, x_Ci xs d 93 [.int v5, .ref a1, .int a2, .ref 28, .int (a4 + 1)] S5 P6 ∧ ∀ (v6 : Int32) (S6 : x_M), P6 v6 S6 → (Q (some (.int (v4 + v6))) S6)))) else (if a0 = 12 then (∃ P7 : Int32 → x_M → Prop, x_Ci xs d 93 [.int 11, .ref a1, .int a2, .ref 28, .int (a4 + 1)] S1 P7 ∧ ∀ (v7 : Int32) (S7 : x_M), P7 v7 S7 → (Q (some (.int (2 * v7))) S7)) else (if a0 = 13 then (∃ P8 : Int32 → x_M → Prop, x_Ci xs d 93 [.int 11, .ref a1, .int a2, .ref 28, .int (a4 + 1)] S1 P8 ∧ ∀ (v8 : Int32) (S8 : x_M), P8 v8 S8 → (Q (some (.int (-v8))) S8)) else (if a0 = 14 then (∃ P9 : Int32 → x_M → Prop, x_Ci xs d 93 [.int 10, .ref a1, .int a2, .ref 28, .int (a4 + 1)] S1 P9 ∧ ∀ (v9 : Int32) (S9 : x_M), P9 v9 S9 → (Q (some (.int (v9 - 100))) S9)) else (if a0 = 15 then (Q (some (.int 0)) S1) else (if a0 = 16 then (Q (some (.int 0)) S1) else (if a0 = 17 then (Q (some (.int 0)) S1) else (if a0 = 18 then (Q (some (.int 0)) S1) else (if a0 = 19 then (Q (some (.int 0)) S1) else (if a0 = 20 then (Q (some (.int a2)) S1) else (if a0 = 21 then (∃ P10 : Int32 → x_M → Prop, x_Ci xs d 93 [.int 20, .ref a1, .int a2, .ref 28, .int (a4 + 1)] S1 P10 ∧ ∀ (v10 : Int32) (S10 : x_M), P10 v10 S10 → (∃ P11 : Int32 → x_M → Prop, x_Ci xs d 8 [.ref a1, .int a2, .int 0] S10 P11 ∧ ∀ (v11 : Int32) (S11 : x_M), P11 v11 S11 → (∃ P12 : Int32 → x_M → Prop, x_Ci xs d 9 [.ref a1, .int v11] S11 P12 ∧ ∀ (v12 : Int32) (S12 : x_M), P12 v12 S12 → (Q (some (.int (v10 + v12))) S12)))) else (if a0 = 22 then (∃ P13 : Int32 → x_M → Prop, x_Ci xs d 93 [.int 21, .ref a1, .int a2, .ref 28, .int (a4 + 1)] S1 P13 ∧ ∀ (v13 : Int32) (S13 : x_M), P13 v13 S13 → (Q (some (.int (v13 - 1000))) S13)) else (if a0 = 23 then (∃ P14 : Int32 → x_M → Prop, x_Ci xs d 93 [.int 20, .ref a1, .int a2, .ref 28, .int (a4 + 1)] S1 P14 ∧ ∀ (v14 : Int32) (S14 : x_M), P14 v14 S14 → (∃ P15 : Int32 → x_M → Prop, x_Ci xs d 92 [.ref a1, .int a2, .int 0] S14 P15 ∧ ∀ (v15 : Int32) (S15 : x_M), P15 v15 S15 → (∃ P16 : Int32 → x_M → Prop, x_Ci xs d 93 [.int v15, .ref a1, .int a2, .ref 28, .int (a4 + 1)] S15 P16 ∧ ∀ (v16 : Int32) (S16 : x_M), P16 v16 S16 → (Q (some (.int (v14 + v16))) S16)))) else (if a0 = 24 then (∃ P17 : Int32 → x_M → Prop, x_Ci xs d 93 [.int 21, .ref a1, .int a2, .ref 28, .int (a4 + 1)] S1 P17 ∧ ∀ (v17 : Int32) (S17 : x_M), P17 v17 S17 → (Q (some (.int (v17 + 500))) S17)) else (Q (some (.int 0)) S1))))))))))))))))) else (Q (some (.int 0)) S)) : x_E xs (d + 1) 93 0 [.int a0, .ref a1, .int a2, .ref 28, .int a4, .null, .null] [] S Q := by
  refine e_iload f_93_0 rfl ?_
  refine e_iconst (c := 12) f_93_2 (by decide) ?_
  refine e_icmp f_93_4 (fun hc => ?_) (fun hc => ?_)
  · have hc := x_cct_le hc
    rw [if_pos hc] at hV
    refine e_aload f_93_9 rfl (by decide) ?_
    refine e_iload f_93_10 rfl ?_
    obtain ⟨P1, hP1, hV⟩ := hV
    refine e_vv (n := 2) (A := [.ref 28, .int a0]) (R := []) f_93_11 na_41 rfl rfl (Nat.le_of_ble_eq_true rfl) (Nat.le_of_ble_eq_true rfl) (by rw [ml_41]; exact Nat.le_of_ble_eq_true rfl) rfl (by rw [cy_41]; decide) (by rw [cy_41]; exact (by decide : x_tg 28 = 4)) hP1 (fun S1 hp1 => ?_)
    have hV := hV S1 hp1
    refine e_iload f_93_14 rfl ?_
    refine e_iconst (c := 1) f_93_16 (by decide) ?_
    refine e_iadd f_93_17 ?_
    refine e_istore (L' := [.int a0, .ref a1, .int a2, .ref 28, .int a4, .int (a4 + 1), .null]) f_93_18 (Nat.le_of_ble_eq_true rfl) rfl ?_
    refine e_iload f_93_20 rfl ?_
    by_cases hx0 : a0 = 10
    · rw [if_pos hx0] at hV
      refine e_ts f_93_21 hx0 (t := 96) (by decide) ?_
      refine e_aload f_93_96 rfl (x_n7 ha1 (by decide)) ?_
      refine e_iload f_93_97 rfl ?_
      refine e_iconst (c := 0) f_93_98 (by decide) ?_
      obtain ⟨P2, hP2, hV⟩ := hV
      refine e_vi (n := 3) (A := [.ref a1, .int a2, .int 0]) (R := []) f_93_99 na_8 rfl rfl (Nat.le_of_ble_eq_true rfl) (Nat.le_of_ble_eq_true rfl) (by rw [ml_8]; exact Nat.le_of_ble_eq_true rfl) rfl (by rw [cy_8]; decide) (by rw [cy_8]; exact ha1) hP2 (fun v2 S2 hp2 => ?_)
      have hV := hV v2 S2 hp2
      obtain ⟨P3, hP3, hV⟩ := hV
      refine e_si (n := 1) (A := [.int v2]) (R := []) f_93_102 na_179 rfl rfl (Nat.le_of_ble_eq_true rfl) (Nat.le_of_ble_eq_true rfl) (by rw [ml_179]; exact Nat.le_of_ble_eq_true rfl) hP3 (fun v3 S3 hp3 => ?_)
      have hV := hV v3 S3 hp3
      exact e_ireturn f_93_105 rt_93 rfl hV
    rw [if_neg hx0] at hV
    by_cases hx1 : a0 = 11
    · rw [if_pos hx1] at hV
      refine e_ts f_93_21 hx1 (t := 106) (by decide) ?_
      refine e_iconst (c := 10) f_93_106 (by decide) ?_
      refine e_aload f_93_108 rfl (x_n7 ha1 (by decide)) ?_
      refine e_iload f_93_109 rfl ?_
      refine e_aload f_93_110 rfl (by decide) ?_
      refine e_iload f_93_111 rfl ?_
      obtain ⟨P4, hP4, hV⟩ := hV
      refine e_si (n := 5) (A := [.int 10, .ref a1, .int a2, .ref 28, .int (a4 + 1)]) (R := []) f_93_113 na_93 rfl rfl (Nat.le_of_ble_eq_true rfl) (Nat.le_of_ble_eq_true rfl) (by rw [ml_93]; exact Nat.le_of_ble_eq_true rfl) hP4 (fun v4 S4 hp4 => ?_)
      have hV := hV v4 S4 hp4
      refine e_istore (L' := [.int a0, .ref a1, .int a2, .ref 28, .int a4, .int (a4 + 1), .int v4]) f_93_116 (Nat.le_of_ble_eq_true rfl) rfl ?_
      refine e_iload f_93_118 rfl ?_
      refine e_aload f_93_120 rfl (x_n7 ha1 (by decide)) ?_
      refine e_iload f_93_121 rfl ?_
      refine e_iconst (c := 1) f_93_122 (by decide) ?_
      obtain ⟨P5, hP5, hV⟩ := hV
      refine e_si (n := 3) (A := [.ref a1, .int a2, .int 1]) (R := [.int v4]) f_93_123 na_92 rfl rfl (Nat.le_of_ble_eq_true rfl) (Nat.le_of_ble_eq_true rfl) (by rw [ml_92]; exact Nat.le_of_ble_eq_true rfl) hP5 (fun v5 S5 hp5 => ?_)
      have hV := hV v5 S5 hp5
      refine e_aload f_93_126 rfl (x_n7 ha1 (by decide)) ?_
      refine e_iload f_93_127 rfl ?_
      refine e_aload f_93_128 rfl (by decide) ?_
      refine e_iload f_93_129 rfl ?_
      obtain ⟨P6, hP6, hV⟩ := hV
      refine e_si (n := 5) (A := [.int v5, .ref a1, .int a2, .ref 28, .int (a4 + 1)]) (R := [.int v4]) f_93_131 na_93 rfl rfl (Nat.le_of_ble_eq_true rfl) (Nat.le_of_ble_eq_true rfl) (by rw [ml_93]; exact Nat.le_of_ble_eq_true rfl) hP6 (fun v6 S6 hp6 => ?_)
      have hV := hV v6 S6 hp6
      refine e_iadd f_93_134 ?_
      exact e_ireturn f_93_135 rt_93 rfl hV
    rw [if_neg hx1] at hV
    by_cases hx2 : a0 = 12
    · rw [if_pos hx2] at hV
      refine e_ts f_93_21 hx2 (t := 136) (by decide) ?_
      refine e_iconst (c := 2) f_93_136 (by decide) ?_
      refine e_iconst (c := 11) f_93_137 (by decide) ?_
      refine e_aload f_93_139 rfl (x_n7 ha1 (by decide)) ?_
      refine e_iload f_93_140 rfl ?_
      refine e_aload f_93_141 rfl (by decide) ?_
      refine e_iload f_93_142 rfl ?_
      obtain ⟨P7, hP7, hV⟩ := hV
      refine e_si (n := 5) (A := [.int 11, .ref a1, .int a2, .ref 28, .int (a4 + 1)]) (R := [.int 2]) f_93_144 na_93 rfl rfl (Nat.le_of_ble_eq_true rfl) (Nat.le_of_ble_eq_true rfl) (by rw [ml_93]; exact Nat.le_of_ble_eq_true rfl) hP7 (fun v7 S7 hp7 => ?_)
      have hV := hV v7 S7 hp7
      refine e_imul f_93_147 ?_
      exact e_ireturn f_93_148 rt_93 rfl hV
    rw [if_neg hx2] at hV
    by_cases hx3 : a0 = 13
    · rw [if_pos hx3] at hV
      refine e_ts f_93_21 hx3 (t := 149) (by decide) ?_
      refine e_iconst (c := 11) f_93_149 (by decide) ?_
      refine e_aload f_93_151 rfl (x_n7 ha1 (by decide)) ?_
      refine e_iload f_93_152 rfl ?_
      refine e_aload f_93_153 rfl (by decide) ?_
      refine e_iload f_93_154 rfl ?_
      obtain ⟨P8, hP8, hV⟩ := hV
      refine e_si (n := 5) (A := [.int 11, .ref a1, .int a2, .ref 28, .int (a4 + 1)]) (R := []) f_93_156 na_93 rfl rfl (Nat.le_of_ble_eq_true rfl) (Nat.le_of_ble_eq_true rfl) (by rw [ml_93]; exact Nat.le_of_ble_eq_true rfl) hP8 (fun v8 S8 hp8 => ?_)
      have hV := hV v8 S8 hp8
      refine e_ineg f_93_159 ?_
      exact e_ireturn f_93_160 rt_93 rfl hV
    rw [if_neg hx3] at hV
    by_cases hx4 : a0 = 14
    · rw [if_pos hx4] at hV
      refine e_ts f_93_21 hx4 (t := 161) (by decide) ?_
      refine e_iconst (c := 10) f_93_161 (by decide) ?_
      refine e_aload f_93_163 rfl (x_n7 ha1 (by decide)) ?_
      refine e_iload f_93_164 rfl ?_
      refine e_aload f_93_165 rfl (by decide) ?_
      refine e_iload f_93_166 rfl ?_
      obtain ⟨P9, hP9, hV⟩ := hV
      refine e_si (n := 5) (A := [.int 10, .ref a1, .int a2, .ref 28, .int (a4 + 1)]) (R := []) f_93_168 na_93 rfl rfl (Nat.le_of_ble_eq_true rfl) (Nat.le_of_ble_eq_true rfl) (by rw [ml_93]; exact Nat.le_of_ble_eq_true rfl) hP9 (fun v9 S9 hp9 => ?_)
      have hV := hV v9 S9 hp9
      refine e_iconst (c := 100) f_93_171 (by decide) ?_
      refine e_isub f_93_173 ?_
      exact e_ireturn f_93_174 rt_93 rfl hV
    rw [if_neg hx4] at hV
    by_cases hx5 : a0 = 15
    · rw [if_pos hx5] at hV
      refine e_ts f_93_21 hx5 (t := 259) (by decide) ?_
      refine e_iconst (c := 0) f_93_259 (by decide) ?_
      exact e_ireturn f_93_260 rt_93 rfl hV
    rw [if_neg hx5] at hV
    by_cases hx6 : a0 = 16
    · rw [if_pos hx6] at hV
      refine e_ts f_93_21 hx6 (t := 259) (by decide) ?_
      refine e_iconst (c := 0) f_93_259 (by decide) ?_
      exact e_ireturn f_93_260 rt_93 rfl hV
    rw [if_neg hx6] at hV
    by_cases hx7 : a0 = 17
    · rw [if_pos hx7] at hV
      refine e_ts f_93_21 hx7 (t := 259) (by decide) ?_
      refine e_iconst (c := 0) f_93_259 (by decide) ?_
      exact e_ireturn f_93_260 rt_93 rfl hV
    rw [if_neg hx7] at hV
    by_cases hx8 : a0 = 18
    · rw [if_pos hx8] at hV
      refine e_ts f_93_21 hx8 (t := 259) (by decide) ?_
      refine e_iconst (c := 0) f_93_259 (by decide) ?_
      exact e_ireturn f_93_260 rt_93 rfl hV
    rw [if_neg hx8] at hV
    by_cases hx9 : a0 = 19
    · rw [if_pos hx9] at hV
      refine e_ts f_93_21 hx9 (t := 259) (by decide) ?_
      refine e_iconst (c := 0) f_93_259 (by decide) ?_
      exact e_ireturn f_93_260 rt_93 rfl hV
    rw [if_neg hx9] at hV
    by_cases hx10 : a0 = 20
    · rw [if_pos hx10] at hV
      refine e_ts f_93_21 hx10 (t := 175) (by decide) ?_
      refine e_iload f_93_175 rfl ?_
      exact e_ireturn f_93_176 rt_93 rfl hV
    rw [if_neg hx10] at hV
    by_cases hx11 : a0 = 21
    · rw [if_pos hx11] at hV
      refine e_ts f_93_21 hx11 (t := 177) (by decide) ?_
      refine e_iconst (c := 20) f_93_177 (by decide) ?_
      refine e_aload f_93_179 rfl (x_n7 ha1 (by decide)) ?_
      refine e_iload f_93_180 rfl ?_
      refine e_aload f_93_181 rfl (by decide) ?_
      refine e_iload f_93_182 rfl ?_
      obtain ⟨P10, hP10, hV⟩ := hV
      refine e_si (n := 5) (A := [.int 20, .ref a1, .int a2, .ref 28, .int (a4 + 1)]) (R := []) f_93_184 na_93 rfl rfl (Nat.le_of_ble_eq_true rfl) (Nat.le_of_ble_eq_true rfl) (by rw [ml_93]; exact Nat.le_of_ble_eq_true rfl) hP10 (fun v10 S10 hp10 => ?_)
      have hV := hV v10 S10 hp10
      refine e_aload f_93_187 rfl (x_n7 ha1 (by decide)) ?_
      refine e_aload f_93_188 rfl (x_n7 ha1 (by decide)) ?_
      refine e_iload f_93_189 rfl ?_
      refine e_iconst (c := 0) f_93_190 (by decide) ?_
      obtain ⟨P11, hP11, hV⟩ := hV
      refine e_vi (n := 3) (A := [.ref a1, .int a2, .int 0]) (R := [.ref a1, .int v10]) f_93_191 na_8 rfl rfl (Nat.le_of_ble_eq_true rfl) (Nat.le_of_ble_eq_true rfl) (by rw [ml_8]; exact Nat.le_of_ble_eq_true rfl) rfl (by rw [cy_8]; decide) (by rw [cy_8]; exact ha1) hP11 (fun v11 S11 hp11 => ?_)
      have hV := hV v11 S11 hp11
      obtain ⟨P12, hP12, hV⟩ := hV
      refine e_vi (n := 2) (A := [.ref a1, .int v11]) (R := [.int v10]) f_93_194 na_9 rfl rfl (Nat.le_of_ble_eq_true rfl) (Nat.le_of_ble_eq_true rfl) (by rw [ml_9]; exact Nat.le_of_ble_eq_true rfl) rfl (by rw [cy_9]; decide) (by rw [cy_9]; exact ha1) hP12 (fun v12 S12 hp12 => ?_)
      have hV := hV v12 S12 hp12
      refine e_iadd f_93_197 ?_
      exact e_ireturn f_93_198 rt_93 rfl hV
    rw [if_neg hx11] at hV
    by_cases hx12 : a0 = 22
    · rw [if_pos hx12] at hV
      refine e_ts f_93_21 hx12 (t := 199) (by decide) ?_
      refine e_iconst (c := 21) f_93_199 (by decide) ?_
      refine e_aload f_93_201 rfl (x_n7 ha1 (by decide)) ?_
      refine e_iload f_93_202 rfl ?_
      refine e_aload f_93_203 rfl (by decide) ?_
      refine e_iload f_93_204 rfl ?_
      obtain ⟨P13, hP13, hV⟩ := hV
      refine e_si (n := 5) (A := [.int 21, .ref a1, .int a2, .ref 28, .int (a4 + 1)]) (R := []) f_93_206 na_93 rfl rfl (Nat.le_of_ble_eq_true rfl) (Nat.le_of_ble_eq_true rfl) (by rw [ml_93]; exact Nat.le_of_ble_eq_true rfl) hP13 (fun v13 S13 hp13 => ?_)
      have hV := hV v13 S13 hp13
      refine e_iconst (c := 1000) f_93_209 (by decide) ?_
      refine e_isub f_93_212 ?_
      exact e_ireturn f_93_213 rt_93 rfl hV
    rw [if_neg hx12] at hV
    by_cases hx13 : a0 = 23
    · rw [if_pos hx13] at hV
      refine e_ts f_93_21 hx13 (t := 214) (by decide) ?_
      refine e_iconst (c := 20) f_93_214 (by decide) ?_
      refine e_aload f_93_216 rfl (x_n7 ha1 (by decide)) ?_
      refine e_iload f_93_217 rfl ?_
      refine e_aload f_93_218 rfl (by decide) ?_
      refine e_iload f_93_219 rfl ?_
      obtain ⟨P14, hP14, hV⟩ := hV
      refine e_si (n := 5) (A := [.int 20, .ref a1, .int a2, .ref 28, .int (a4 + 1)]) (R := []) f_93_221 na_93 rfl rfl (Nat.le_of_ble_eq_true rfl) (Nat.le_of_ble_eq_true rfl) (by rw [ml_93]; exact Nat.le_of_ble_eq_true rfl) hP14 (fun v14 S14 hp14 => ?_)
      have hV := hV v14 S14 hp14
      refine e_istore (L' := [.int a0, .ref a1, .int a2, .ref 28, .int a4, .int (a4 + 1), .int v14]) f_93_224 (Nat.le_of_ble_eq_true rfl) rfl ?_
      refine e_iload f_93_226 rfl ?_
      refine e_aload f_93_228 rfl (x_n7 ha1 (by decide)) ?_
      refine e_iload f_93_229 rfl ?_
      refine e_iconst (c := 0) f_93_230 (by decide) ?_
      obtain ⟨P15, hP15, hV⟩ := hV
      refine e_si (n := 3) (A := [.ref a1, .int a2, .int 0]) (R := [.int v14]) f_93_231 na_92 rfl rfl (Nat.le_of_ble_eq_true rfl) (Nat.le_of_ble_eq_true rfl) (by rw [ml_92]; exact Nat.le_of_ble_eq_true rfl) hP15 (fun v15 S15 hp15 => ?_)
      have hV := hV v15 S15 hp15
      refine e_aload f_93_234 rfl (x_n7 ha1 (by decide)) ?_
      refine e_iload f_93_235 rfl ?_
      refine e_aload f_93_236 rfl (by decide) ?_
      refine e_iload f_93_237 rfl ?_
      obtain ⟨P16, hP16, hV⟩ := hV
      refine e_si (n := 5) (A := [.int v15, .ref a1, .int a2, .ref 28, .int (a4 + 1)]) (R := [.int v14]) f_93_239 na_93 rfl rfl (Nat.le_of_ble_eq_true rfl) (Nat.le_of_ble_eq_true rfl) (by rw [ml_93]; exact Nat.le_of_ble_eq_true rfl) hP16 (fun v16 S16 hp16 => ?_)
      have hV := hV v16 S16 hp16
      refine e_iadd f_93_242 ?_
      exact e_ireturn f_93_243 rt_93 rfl hV
    rw [if_neg hx13] at hV
    by_cases hx14 : a0 = 24
    · rw [if_pos hx14] at hV
      refine e_ts f_93_21 hx14 (t := 244) (by decide) ?_
      refine e_iconst (c := 21) f_93_244 (by decide) ?_
      refine e_aload f_93_246 rfl (x_n7 ha1 (by decide)) ?_
      refine e_iload f_93_247 rfl ?_
      refine e_aload f_93_248 rfl (by decide) ?_
      refine e_iload f_93_249 rfl ?_
      obtain ⟨P17, hP17, hV⟩ := hV
      refine e_si (n := 5) (A := [.int 21, .ref a1, .int a2, .ref 28, .int (a4 + 1)]) (R := []) f_93_251 na_93 rfl rfl (Nat.le_of_ble_eq_true rfl) (Nat.le_of_ble_eq_true rfl) (by rw [ml_93]; exact Nat.le_of_ble_eq_true rfl) hP17 (fun v17 S17 hp17 => ?_)
      have hV := hV v17 S17 hp17
      refine e_iconst (c := 500) f_93_254 (by decide) ?_
      refine e_iadd f_93_257 ?_
      exact e_ireturn f_93_258 rt_93 rfl hV
    rw [if_neg hx14] at hV
    have hy0 := lv_neT (a := 10) hx0 (by decide)
    have hy1 := lv_neT (a := 11) hx1 (by decide)
    have hy2 := lv_neT (a := 12) hx2 (by decide)
    have hy3 := lv_neT (a := 13) hx3 (by decide)
    have hy4 := lv_neT (a := 14) hx4 (by decide)
    have hy5 := lv_neT (a := 15) hx5 (by decide)
    have hy6 := lv_neT (a := 16) hx6 (by decide)
    have hy7 := lv_neT (a := 17) hx7 (by decide)
    have hy8 := lv_neT (a := 18) hx8 (by decide)
    have hy9 := lv_neT (a := 19) hx9 (by decide)
    have hy10 := lv_neT (a := 20) hx10 (by decide)
    have hy11 := lv_neT (a := 21) hx11 (by decide)
    have hy12 := lv_neT (a := 22) hx12 (by decide)
    have hy13 := lv_neT (a := 23) hx13 (by decide)
    have hy14 := lv_neT (a := 24) hx14 (by decide)
    refine e_tsd f_93_21 (by omega) (t := 259) (by decide) ?_
    refine e_iconst (c := 0) f_93_259 (by decide) ?_
    exact e_ireturn f_93_260 rt_93 rfl hV
  · have hc := x_ccf_le hc
    rw [if_neg hc] at hV
    refine e_iconst (c := 0) f_93_7 (by decide) ?_
    exact e_ireturn f_93_8 rt_93 rfl hV
set_option maxRecDepth 20000 in
theorem T_94_0 {xs : List Int32} {d : Nat} {S : x_M} {Q : Option Value → x_M → Prop} {a1 : Int32}  (hV : if a1 < 0 then (Q (some (.int (-1000000))) S) else (if (S 28 1) ≤ a1 then (Q (some (.int (-1000000))) S) else ((x_ib a1 16) ∧ (Q (some (.int (S 29 (Int32.toNatClampNeg a1)))) S)))) : x_E xs (d + 1) 94 0 [.ref 8, .int a1] [] S Q := by
  refine e_iload f_94_0 rfl ?_
  refine e_if f_94_1 (fun hc => ?_) (fun hc => ?_)
  · have hc := x_cct_lt hc
    rw [if_pos hc] at hV
    refine e_iconst (c := (-1000000)) f_94_27 (by decide) ?_
    exact e_ireturn f_94_29 rt_94 rfl hV
  · have hc := x_ccf_lt hc
    rw [if_neg hc] at hV
    refine e_iload f_94_4 rfl ?_
    refine e_aload f_94_5 rfl (by decide) ?_
    refine e_gr (c := 5) (j := 7) (r := 28) f_94_6 (by decide) (by decide) (by decide) (by decide) ?_
    refine e_gf (c := 4) (j := 1) f_94_9 (by decide) (by decide) (by decide) ?_
    refine e_icmp f_94_12 (fun hc => ?_) (fun hc => ?_)
    · have hc := x_cct_ge hc
      rw [if_pos hc] at hV
      refine e_iconst (c := (-1000000)) f_94_27 (by decide) ?_
      exact e_ireturn f_94_29 rt_94 rfl hV
    · have hc := x_ccf_ge hc
      rw [if_neg hc] at hV
      refine e_aload f_94_15 rfl (by decide) ?_
      refine e_gr (c := 5) (j := 7) (r := 28) f_94_16 (by decide) (by decide) (by decide) (by decide) ?_
      refine e_gr (c := 4) (j := 0) (r := 29) f_94_19 (by decide) (by decide) (by decide) (by decide) ?_
      refine e_iload f_94_22 rfl ?_
      obtain ⟨hg, hV⟩ := hV
      refine e_ia (n := 16) f_94_23 (by decide) (by decide) hg ?_
      refine e_goto f_94_24 ?_
      exact e_ireturn f_94_29 rt_94 rfl hV
set_option maxRecDepth 20000 in
theorem T_95_0 {xs : List Int32} {d : Nat} {S : x_M} {Q : Option Value → x_M → Prop} {a1 : Int32}  (hV : if a1 = 0 then (∃ P1 : Int32 → x_M → Prop, x_Ci xs d 96 [.ref 8] S P1 ∧ ∀ (v1 : Int32) (S1 : x_M), P1 v1 S1 → (Q (some (.int v1)) S1)) else (if a1 = 1 then (Q (some (.int (S 12 5))) S) else (if a1 = 2 then (∃ P2 : Int32 → x_M → Prop, x_Ci xs d 13 [.ref 12] S P2 ∧ ∀ (v2 : Int32) (S2 : x_M), P2 v2 S2 → (Q (some (.int ((S 12 5) - v2))) S2)) else (if a1 = 3 then (Q (some (.int (S 10 1))) S) else (Q (some (.int (-1000001))) S))))) : x_E xs (d + 1) 95 0 [.ref 8, .int a1] [] S Q := by
  refine e_iload f_95_0 rfl ?_
  by_cases hx0 : a1 = 0
  · rw [if_pos hx0] at hV
    refine e_ts f_95_1 hx0 (t := 32) (by decide) ?_
    refine e_aload f_95_32 rfl (by decide) ?_
    obtain ⟨P1, hP1, hV⟩ := hV
    refine e_vi (n := 1) (A := [.ref 8]) (R := []) f_95_33 na_96 rfl rfl (Nat.le_of_ble_eq_true rfl) (Nat.le_of_ble_eq_true rfl) (by rw [ml_96]; exact Nat.le_of_ble_eq_true rfl) rfl (by rw [cy_96]; decide) (by rw [cy_96]; exact (by decide : x_tg 8 = 5)) hP1 (fun v1 S1 hp1 => ?_)
    have hV := hV v1 S1 hp1
    exact e_ireturn f_95_36 rt_95 rfl hV
  rw [if_neg hx0] at hV
  by_cases hx1 : a1 = 1
  · rw [if_pos hx1] at hV
    refine e_ts f_95_1 hx1 (t := 37) (by decide) ?_
    refine e_aload f_95_37 rfl (by decide) ?_
    refine e_gr (c := 5) (j := 2) (r := 12) f_95_38 (by decide) (by decide) (by decide) (by decide) ?_
    refine e_gf (c := 0) (j := 5) f_95_41 (by decide) (by decide) (by decide) ?_
    exact e_ireturn f_95_44 rt_95 rfl hV
  rw [if_neg hx1] at hV
  by_cases hx2 : a1 = 2
  · rw [if_pos hx2] at hV
    refine e_ts f_95_1 hx2 (t := 45) (by decide) ?_
    refine e_aload f_95_45 rfl (by decide) ?_
    refine e_gr (c := 5) (j := 2) (r := 12) f_95_46 (by decide) (by decide) (by decide) (by decide) ?_
    refine e_gf (c := 0) (j := 5) f_95_49 (by decide) (by decide) (by decide) ?_
    refine e_aload f_95_52 rfl (by decide) ?_
    refine e_gr (c := 5) (j := 2) (r := 12) f_95_53 (by decide) (by decide) (by decide) (by decide) ?_
    obtain ⟨P2, hP2, hV⟩ := hV
    refine e_vi (n := 1) (A := [.ref 12]) (R := [.int (S 12 5)]) f_95_56 na_13 rfl rfl (Nat.le_of_ble_eq_true rfl) (Nat.le_of_ble_eq_true rfl) (by rw [ml_13]; exact Nat.le_of_ble_eq_true rfl) rfl (by rw [cy_13]; decide) (by rw [cy_13]; exact (by decide : x_tg 12 = 0)) hP2 (fun v2 S2 hp2 => ?_)
    have hV := hV v2 S2 hp2
    refine e_isub f_95_59 ?_
    exact e_ireturn f_95_60 rt_95 rfl hV
  rw [if_neg hx2] at hV
  by_cases hx3 : a1 = 3
  · rw [if_pos hx3] at hV
    refine e_ts f_95_1 hx3 (t := 61) (by decide) ?_
    refine e_aload f_95_61 rfl (by decide) ?_
    refine e_gr (c := 5) (j := 1) (r := 10) f_95_62 (by decide) (by decide) (by decide) (by decide) ?_
    refine e_gf (c := 3) (j := 1) f_95_65 (by decide) (by decide) (by decide) ?_
    exact e_ireturn f_95_68 rt_95 rfl hV
  rw [if_neg hx3] at hV
  have hy0 := lv_neT (a := 0) hx0 (by decide)
  have hy1 := lv_neT (a := 1) hx1 (by decide)
  have hy2 := lv_neT (a := 2) hx2 (by decide)
  have hy3 := lv_neT (a := 3) hx3 (by decide)
  refine e_tsd f_95_1 (by omega) (t := 69) (by decide) ?_
  refine e_iconst (c := (-1000001)) f_95_69 (by decide) ?_
  exact e_ireturn f_95_71 rt_95 rfl hV
set_option maxRecDepth 20000 in
theorem T_96_0 {xs : List Int32} {d : Nat} {S : x_M} {Q : Option Value → x_M → Prop}   (hV : x_E xs (d + 1) 96 4 [.ref 8, .int 0, .int 0] [] S Q) : x_E xs (d + 1) 96 0 [.ref 8, .null, .null] [] S Q := by
  refine e_iconst (c := 0) f_96_0 (by decide) ?_
  refine e_istore (L' := [.ref 8, .int 0, .null]) f_96_1 (Nat.le_of_ble_eq_true rfl) rfl ?_
  refine e_iconst (c := 0) f_96_2 (by decide) ?_
  refine e_istore (L' := [.ref 8, .int 0, .int 0]) f_96_3 (Nat.le_of_ble_eq_true rfl) rfl ?_
  exact hV
set_option maxRecDepth 20000 in
theorem T_96_4 {xs : List Int32} {d : Nat} {S : x_M} {Q : Option Value → x_M → Prop} {a1 : Int32} {a2 : Int32}  (hV : if (8 : Int32) ≤ a2 then (Q (some (.int a1)) S) else ((x_ib a2 8) ∧ (if (S (x_rr 9 (Int32.toNatClampNeg a2)) 1) = 0 then (x_E xs (d + 1) 96 4 [.ref 8, .int a1, .int (a2 + 1)] [] S Q) else (x_E xs (d + 1) 96 4 [.ref 8, .int (a1 + 1), .int (a2 + 1)] [] S Q)))) : x_E xs (d + 1) 96 4 [.ref 8, .int a1, .int a2] [] S Q := by
  refine e_iload f_96_4 rfl ?_
  refine e_iconst (c := 8) f_96_5 (by decide) ?_
  refine e_icmp f_96_7 (fun hc => ?_) (fun hc => ?_)
  · have hc := x_cct_ge hc
    rw [if_pos hc] at hV
    refine e_iload f_96_31 rfl ?_
    exact e_ireturn f_96_32 rt_96 rfl hV
  · have hc := x_ccf_ge hc
    rw [if_neg hc] at hV
    refine e_aload f_96_10 rfl (by decide) ?_
    refine e_gr (c := 5) (j := 0) (r := 9) f_96_11 (by decide) (by decide) (by decide) (by decide) ?_
    refine e_iload f_96_14 rfl ?_
    obtain ⟨hg, hV⟩ := hV
    refine e_aa (c := 11) (n := 8) f_96_15 (by decide) (by decide) (by decide) hg (fun hq1 => ?_)
    have hq1 : x_tg (x_rr 9 (Int32.toNatClampNeg a2)) = 2 := hq1
    refine e_gf (c := 2) (j := 1) f_96_16 (by decide) (by decide) hq1 ?_
    refine e_if f_96_19 (fun hc => ?_) (fun hc => ?_)
    · have hc := x_cct_eq hc
      rw [if_pos hc] at hV
      refine e_inc (c := 1) (L' := [.ref 8, .int a1, .int (a2 + 1)]) f_96_25 rfl (by decide) rfl ?_
      refine e_goto f_96_28 ?_
      exact hV
    · have hc := x_ccf_eq hc
      rw [if_neg hc] at hV
      refine e_inc (c := 1) (L' := [.ref 8, .int (a1 + 1), .int a2]) f_96_22 rfl (by decide) rfl ?_
      refine e_inc (c := 1) (L' := [.ref 8, .int (a1 + 1), .int (a2 + 1)]) f_96_25 rfl (by decide) rfl ?_
      refine e_goto f_96_28 ?_
      exact hV
set_option maxRecDepth 20000 in
theorem T_97_0 {xs : List Int32} {d : Nat} {S : x_M} {Q : Option Value → x_M → Prop}   (hV : Q (some (.int (S 8 9))) S) : x_E xs (d + 1) 97 0 [.ref 8] [] S Q := by
  refine e_aload f_97_0 rfl (by decide) ?_
  refine e_gf (c := 5) (j := 9) f_97_1 (by decide) (by decide) (by decide) ?_
  exact e_ireturn f_97_4 rt_97 rfl hV
set_option maxRecDepth 20000 in
theorem T_99_0 {xs : List Int32} {d : Nat} {S : x_M} {Q : Option Value → x_M → Prop} {a1 : Int32} {a2 : Int32} {a3 : Int32}  (hV : ∃ P1 : Int32 → x_M → Prop, x_Ci xs d 100 [.int a1] S P1 ∧ ∀ (v1 : Int32) (S1 : x_M), P1 v1 S1 → (if v1 = 0 then (Q (some (.int (-1000001))) S1) else (∃ P2 : Int32 → x_M → Prop, x_Ci xs d 101 [.long (Int32.toInt64 a2), .long 0, .long 2] S1 P2 ∧ ∀ (v2 : Int32) (S2 : x_M), P2 v2 S2 → (if v2 = 0 then (Q (some (.int (-1000001))) S2) else (if a3 ≤ 40 then (if (0 : Int32) ≤ a3 then ((x_ib a1 8) ∧ (∀ S3 : x_M, S3 = x_up S2 59 (Int32.toNatClampNeg a1) a2 → ((x_ib a1 8) ∧ (∀ S4 : x_M, S4 = x_up S3 60 (Int32.toNatClampNeg a1) a3 → (x_E xs (d + 1) 99 55 [.ref 56, .int a1, .int a2, .int a3, .int 0] [] S4 Q))))) else (∃ P5 : Int32 → x_M → Prop, x_Ci xs d 102 [.ref 56, .int 4] S2 P5 ∧ ∀ (v5 : Int32) (S5 : x_M), P5 v5 S5 → (Q (some (.int v5)) S5))) else (Q (some (.int (-1000001))) S2)))))) : x_E xs (d + 1) 99 0 [.ref 56, .int a1, .int a2, .int a3, .null] [] S Q := by
  refine e_iload f_99_0 rfl ?_
  obtain ⟨P1, hP1, hV⟩ := hV
  refine e_si (n := 1) (A := [.int a1]) (R := []) f_99_1 na_100 rfl rfl (Nat.le_of_ble_eq_true rfl) (Nat.le_of_ble_eq_true rfl) (by rw [ml_100]; exact Nat.le_of_ble_eq_true rfl) hP1 (fun v1 S1 hp1 => ?_)
  have hV := hV v1 S1 hp1
  refine e_if f_99_4 (fun hc => ?_) (fun hc => ?_)
  · have hc := x_cct_eq hc
    rw [if_pos hc] at hV
    refine e_iconst (c := (-1000001)) f_99_25 (by decide) ?_
    exact e_ireturn f_99_27 rt_99 rfl hV
  · have hc := x_ccf_eq hc
    rw [if_neg hc] at hV
    refine e_iload f_99_7 rfl ?_
    refine e_i2l f_99_8 ?_
    refine e_lconst (c := 0) f_99_9 (by decide) ?_
    refine e_lconst (c := 2) f_99_10 (by decide) ?_
    obtain ⟨P2, hP2, hV⟩ := hV
    refine e_si (n := 3) (A := [.long (Int32.toInt64 a2), .long 0, .long 2]) (R := []) f_99_13 na_101 rfl rfl (Nat.le_of_ble_eq_true rfl) (Nat.le_of_ble_eq_true rfl) (by rw [ml_101]; exact Nat.le_of_ble_eq_true rfl) hP2 (fun v2 S2 hp2 => ?_)
    have hV := hV v2 S2 hp2
    refine e_if f_99_16 (fun hc => ?_) (fun hc => ?_)
    · have hc := x_cct_eq hc
      rw [if_pos hc] at hV
      refine e_iconst (c := (-1000001)) f_99_25 (by decide) ?_
      exact e_ireturn f_99_27 rt_99 rfl hV
    · have hc := x_ccf_eq hc
      rw [if_neg hc] at hV
      refine e_iload f_99_19 rfl ?_
      refine e_iconst (c := 40) f_99_20 (by decide) ?_
      refine e_icmp f_99_22 (fun hc => ?_) (fun hc => ?_)
      · have hc := x_cct_le hc
        rw [if_pos hc] at hV
        refine e_iload f_99_28 rfl ?_
        refine e_if f_99_29 (fun hc => ?_) (fun hc => ?_)
        · have hc := x_cct_ge hc
          rw [if_pos hc] at hV
          refine e_aload f_99_38 rfl (by decide) ?_
          refine e_gr (c := 6) (j := 5) (r := 59) f_99_39 (by decide) (by decide) (by decide) (by decide) ?_
          refine e_iload f_99_42 rfl ?_
          refine e_iload f_99_43 rfl ?_
          obtain ⟨hg, hV⟩ := hV
          refine e_isn (n := 8) f_99_44 (by decide) (by decide) hg (fun S3 hS3 => ?_)
          have hV := hV S3 hS3
          refine e_aload f_99_45 rfl (by decide) ?_
          refine e_gr (c := 6) (j := 6) (r := 60) f_99_46 (by decide) (by decide) (by decide) (by decide) ?_
          refine e_iload f_99_49 rfl ?_
          refine e_iload f_99_50 rfl ?_
          obtain ⟨hg, hV⟩ := hV
          refine e_isn (n := 8) f_99_51 (by decide) (by decide) hg (fun S4 hS4 => ?_)
          have hV := hV S4 hS4
          refine e_iconst (c := 0) f_99_52 (by decide) ?_
          refine e_istore (L' := [.ref 56, .int a1, .int a2, .int a3, .int 0]) f_99_53 (Nat.le_of_ble_eq_true rfl) rfl ?_
          exact hV
        · have hc := x_ccf_ge hc
          rw [if_neg hc] at hV
          refine e_aload f_99_32 rfl (by decide) ?_
          refine e_iconst (c := 4) f_99_33 (by decide) ?_
          obtain ⟨P5, hP5, hV⟩ := hV
          refine e_vi (n := 2) (A := [.ref 56, .int 4]) (R := []) f_99_34 na_102 rfl rfl (Nat.le_of_ble_eq_true rfl) (Nat.le_of_ble_eq_true rfl) (by rw [ml_102]; exact Nat.le_of_ble_eq_true rfl) rfl (by rw [cy_102]; decide) (by rw [cy_102]; exact (by decide : x_tg 56 = 6)) hP5 (fun v5 S5 hp5 => ?_)
          have hV := hV v5 S5 hp5
          exact e_ireturn f_99_37 rt_99 rfl hV
      · have hc := x_ccf_le hc
        rw [if_neg hc] at hV
        refine e_iconst (c := (-1000001)) f_99_25 (by decide) ?_
        exact e_ireturn f_99_27 rt_99 rfl hV
set_option maxRecDepth 20000 in
theorem T_99_55 {xs : List Int32} {d : Nat} {S : x_M} {Q : Option Value → x_M → Prop} {a1 : Int32} {a2 : Int32} {a3 : Int32} {a4 : Int32}  (hV : if a3 ≤ a4 then (∃ P1 : Int32 → x_M → Prop, x_Ci xs d 103 [.ref 56, .int a3] S P1 ∧ ∀ (v1 : Int32) (S1 : x_M), P1 v1 S1 → (Q (some (.int v1)) S1)) else ((x_ib ((40 * a1) + a4) 320) ∧ (∀ S2 : x_M, S2 = x_up S 61 (Int32.toNatClampNeg ((40 * a1) + a4)) 0 → (x_E xs (d + 1) 99 55 [.ref 56, .int a1, .int a2, .int a3, .int (a4 + 1)] [] S2 Q)))) : x_E xs (d + 1) 99 55 [.ref 56, .int a1, .int a2, .int a3, .int a4] [] S Q := by
  refine e_iload f_99_55 rfl ?_
  refine e_iload f_99_57 rfl ?_
  refine e_icmp f_99_58 (fun hc => ?_) (fun hc => ?_)
  · have hc := x_cct_ge hc
    rw [if_pos hc] at hV
    refine e_aload f_99_80 rfl (by decide) ?_
    refine e_iload f_99_81 rfl ?_
    obtain ⟨P1, hP1, hV⟩ := hV
    refine e_vi (n := 2) (A := [.ref 56, .int a3]) (R := []) f_99_82 na_103 rfl rfl (Nat.le_of_ble_eq_true rfl) (Nat.le_of_ble_eq_true rfl) (by rw [ml_103]; exact Nat.le_of_ble_eq_true rfl) rfl (by rw [cy_103]; decide) (by rw [cy_103]; exact (by decide : x_tg 56 = 6)) hP1 (fun v1 S1 hp1 => ?_)
    have hV := hV v1 S1 hp1
    exact e_ireturn f_99_85 rt_99 rfl hV
  · have hc := x_ccf_ge hc
    rw [if_neg hc] at hV
    refine e_aload f_99_61 rfl (by decide) ?_
    refine e_gr (c := 6) (j := 7) (r := 61) f_99_62 (by decide) (by decide) (by decide) (by decide) ?_
    refine e_iconst (c := 40) f_99_65 (by decide) ?_
    refine e_iload f_99_67 rfl ?_
    refine e_imul f_99_68 ?_
    refine e_iload f_99_69 rfl ?_
    refine e_iadd f_99_71 ?_
    refine e_iconst (c := 0) f_99_72 (by decide) ?_
    obtain ⟨hg, hV⟩ := hV
    refine e_isn (n := 320) f_99_73 (by decide) (by decide) hg (fun S2 hS2 => ?_)
    have hV := hV S2 hS2
    refine e_inc (c := 1) (L' := [.ref 56, .int a1, .int a2, .int a3, .int (a4 + 1)]) f_99_74 rfl (by decide) rfl ?_
    refine e_goto f_99_77 ?_
    exact hV
set_option maxRecDepth 20000 in
theorem T_100_0 {xs : List Int32} {d : Nat} {S : x_M} {Q : Option Value → x_M → Prop} {a0 : Int32}  (hV : ∃ P1 : Int32 → x_M → Prop, x_Ci xs d 101 [.long (Int32.toInt64 a0), .long 0, .long 7] S P1 ∧ ∀ (v1 : Int32) (S1 : x_M), P1 v1 S1 → ((v1 = 0 ∨ v1 = 1) ∧ Q (some (.int v1)) S1)) : x_E xs (d + 1) 100 0 [.int a0] [] S Q := by
  refine e_iload f_100_0 rfl ?_
  refine e_i2l f_100_1 ?_
  refine e_lconst (c := 0) f_100_2 (by decide) ?_
  refine e_lconst (c := 7) f_100_3 (by decide) ?_
  obtain ⟨P1, hP1, hV⟩ := hV
  refine e_si (n := 3) (A := [.long (Int32.toInt64 a0), .long 0, .long 7]) (R := []) f_100_6 na_101 rfl rfl (Nat.le_of_ble_eq_true rfl) (Nat.le_of_ble_eq_true rfl) (by rw [ml_101]; exact Nat.le_of_ble_eq_true rfl) hP1 (fun v1 S1 hp1 => ?_)
  have hV := hV v1 S1 hp1
  obtain ⟨hg, hV⟩ := hV
  exact e_ireturn f_100_9 rt_100 (x_nz hg) hV
set_option maxRecDepth 20000 in
theorem T_101_0 {xs : List Int32} {d : Nat} {S : x_M} {Q : Option Value → x_M → Prop} {a0 : Int64} {a2 : Int64} {a4 : Int64}  (hV : if (lg_cmp a0 a2) < 0 then (Q (some (.int 0)) S) else (if (0 : Int32) < (lg_cmp a0 a4) then (Q (some (.int 0)) S) else (Q (some (.int 1)) S))) : x_E xs (d + 1) 101 0 [.long a0, .null, .long a2, .null, .long a4, .null] [] S Q := by
  refine e_lload f_101_0 rfl ?_
  refine e_lload f_101_1 rfl ?_
  refine e_lcmp f_101_2 ?_
  refine e_if f_101_3 (fun hc => ?_) (fun hc => ?_)
  · have hc := x_cct_lt hc
    rw [if_pos hc] at hV
    refine e_iconst (c := 0) f_101_17 (by decide) ?_
    exact e_ireturn f_101_18 rt_101 (by decide) hV
  · have hc := x_ccf_lt hc
    rw [if_neg hc] at hV
    refine e_lload f_101_6 rfl ?_
    refine e_lload f_101_7 rfl ?_
    refine e_lcmp f_101_9 ?_
    refine e_if f_101_10 (fun hc => ?_) (fun hc => ?_)
    · have hc := x_cct_gt hc
      rw [if_pos hc] at hV
      refine e_iconst (c := 0) f_101_17 (by decide) ?_
      exact e_ireturn f_101_18 rt_101 (by decide) hV
    · have hc := x_ccf_gt hc
      rw [if_neg hc] at hV
      refine e_iconst (c := 1) f_101_13 (by decide) ?_
      refine e_goto f_101_14 ?_
      exact e_ireturn f_101_18 rt_101 (by decide) hV
set_option maxRecDepth 20000 in
theorem T_102_0 {xs : List Int32} {d : Nat} {S : x_M} {Q : Option Value → x_M → Prop} {a1 : Int32}  (hV : ∀ S1 : x_M, S1 = x_up S 56 4 a1 → (Q (some (.int ((-1000010) - a1))) S1)) : x_E xs (d + 1) 102 0 [.ref 56, .int a1] [] S Q := by
  refine e_aload f_102_0 rfl (by decide) ?_
  refine e_iload f_102_1 rfl ?_
  refine e_pfn (c := 6) (j := 4) f_102_2 (by decide) (by decide) (by decide) (x_fit_i rfl) (fun S1 hS1 => ?_)
  have hV := hV S1 hS1
  refine e_iconst (c := (-1000010)) f_102_5 (by decide) ?_
  refine e_iload f_102_7 rfl ?_
  refine e_isub f_102_8 ?_
  exact e_ireturn f_102_9 rt_102 rfl hV
set_option maxRecDepth 20000 in
theorem T_103_0 {xs : List Int32} {d : Nat} {S : x_M} {Q : Option Value → x_M → Prop} {a1 : Int32}  (hV : ∀ S1 : x_M, S1 = x_up S 56 4 0 → (Q (some (.int a1)) S1)) : x_E xs (d + 1) 103 0 [.ref 56, .int a1] [] S Q := by
  refine e_aload f_103_0 rfl (by decide) ?_
  refine e_iconst (c := 0) f_103_1 (by decide) ?_
  refine e_pfn (c := 6) (j := 4) f_103_2 (by decide) (by decide) (by decide) (x_fit_i rfl) (fun S1 hS1 => ?_)
  have hV := hV S1 hS1
  refine e_iload f_103_5 rfl ?_
  exact e_ireturn f_103_6 rt_103 rfl hV
set_option maxRecDepth 20000 in
theorem T_104_0 {xs : List Int32} {d : Nat} {S : x_M} {Q : Option Value → x_M → Prop} {a1 : Int32} {a2 : Int32} {a3 : Int32}  (hV : ∃ P1 : Int32 → x_M → Prop, x_Ci xs d 100 [.int a1] S P1 ∧ ∀ (v1 : Int32) (S1 : x_M), P1 v1 S1 → (if v1 = 0 then (Q (some (.int (-1000001))) S1) else ((x_ib a1 8) ∧ (if (S1 59 (Int32.toNatClampNeg a1)) = (-1000000) then (∃ P10 : Int32 → x_M → Prop, x_Ci xs d 102 [.ref 56, .int 1] S1 P10 ∧ ∀ (v10 : Int32) (S10 : x_M), P10 v10 S10 → (Q (some (.int v10)) S10)) else ((x_ib a1 8) ∧ (∃ P2 : Int32 → x_M → Prop, x_Ci xs d 101 [.long (Int32.toInt64 a2), .long 0, .long (Int32.toInt64 ((S1 60 (Int32.toNatClampNeg a1)) - 1))] S1 P2 ∧ ∀ (v2 : Int32) (S2 : x_M), P2 v2 S2 → (if v2 = 0 then (∃ P9 : Int32 → x_M → Prop, x_Ci xs d 102 [.ref 56, .int 2] S2 P9 ∧ ∀ (v9 : Int32) (S9 : x_M), P9 v9 S9 → (Q (some (.int v9)) S9)) else ((x_ib a1 8) ∧ (if (S2 59 (Int32.toNatClampNeg a1)) = 0 then ((x_ib ((40 * a1) + a2) 320) ∧ (∀ S7 : x_M, S7 = x_up S2 61 (Int32.toNatClampNeg ((40 * a1) + a2)) (Int8.toInt32 (Int32.toInt8 a3)) → ((x_ib ((40 * a1) + a2) 320) ∧ (∃ P8 : Int32 → x_M → Prop, x_Ci xs d 103 [.ref 56, .int (S7 61 (Int32.toNatClampNeg ((40 * a1) + a2)))] S7 P8 ∧ ∀ (v8 : Int32) (S8 : x_M), P8 v8 S8 → (Q (some (.int v8)) S8))))) else ((x_ib a1 8) ∧ (if (S2 59 (Int32.toNatClampNeg a1)) = 1 then ((x_ib ((40 * a1) + a2) 320) ∧ (∀ S5 : x_M, S5 = x_up S2 61 (Int32.toNatClampNeg ((40 * a1) + a2)) (Int16.toInt32 (Int32.toInt16 a3)) → ((x_ib ((40 * a1) + a2) 320) ∧ (∃ P6 : Int32 → x_M → Prop, x_Ci xs d 103 [.ref 56, .int (S5 61 (Int32.toNatClampNeg ((40 * a1) + a2)))] S5 P6 ∧ ∀ (v6 : Int32) (S6 : x_M), P6 v6 S6 → (Q (some (.int v6)) S6))))) else ((x_ib ((40 * a1) + a2) 320) ∧ (∀ S3 : x_M, S3 = x_up S2 61 (Int32.toNatClampNeg ((40 * a1) + a2)) a3 → ((x_ib ((40 * a1) + a2) 320) ∧ (∃ P4 : Int32 → x_M → Prop, x_Ci xs d 103 [.ref 56, .int (S3 61 (Int32.toNatClampNeg ((40 * a1) + a2)))] S3 P4 ∧ ∀ (v4 : Int32) (S4 : x_M), P4 v4 S4 → (Q (some (.int v4)) S4)))))))))))))))) : x_E xs (d + 1) 104 0 [.ref 56, .int a1, .int a2, .int a3] [] S Q := by
  refine e_iload f_104_0 rfl ?_
  obtain ⟨P1, hP1, hV⟩ := hV
  refine e_si (n := 1) (A := [.int a1]) (R := []) f_104_1 na_100 rfl rfl (Nat.le_of_ble_eq_true rfl) (Nat.le_of_ble_eq_true rfl) (by rw [ml_100]; exact Nat.le_of_ble_eq_true rfl) hP1 (fun v1 S1 hp1 => ?_)
  have hV := hV v1 S1 hp1
  refine e_if f_104_4 (fun hc => ?_) (fun hc => ?_)
  · have hc := x_cct_ne hc
    rw [if_neg hc] at hV
    refine e_aload f_104_10 rfl (by decide) ?_
    refine e_gr (c := 6) (j := 5) (r := 59) f_104_11 (by decide) (by decide) (by decide) (by decide) ?_
    refine e_iload f_104_14 rfl ?_
    obtain ⟨hg, hV⟩ := hV
    refine e_ia (n := 8) f_104_15 (by decide) (by decide) hg ?_
    refine e_iconst (c := (-1000000)) f_104_16 (by decide) ?_
    refine e_icmp f_104_18 (fun hc => ?_) (fun hc => ?_)
    · have hc := x_cct_ne hc
      rw [if_neg hc] at hV
      refine e_iload f_104_27 rfl ?_
      refine e_i2l f_104_28 ?_
      refine e_lconst (c := 0) f_104_29 (by decide) ?_
      refine e_aload f_104_30 rfl (by decide) ?_
      refine e_gr (c := 6) (j := 6) (r := 60) f_104_31 (by decide) (by decide) (by decide) (by decide) ?_
      refine e_iload f_104_34 rfl ?_
      obtain ⟨hg, hV⟩ := hV
      refine e_ia (n := 8) f_104_35 (by decide) (by decide) hg ?_
      refine e_iconst (c := 1) f_104_36 (by decide) ?_
      refine e_isub f_104_37 ?_
      refine e_i2l f_104_38 ?_
      obtain ⟨P2, hP2, hV⟩ := hV
      refine e_si (n := 3) (A := [.long (Int32.toInt64 a2), .long 0, .long (Int32.toInt64 ((S1 60 (Int32.toNatClampNeg a1)) - 1))]) (R := []) f_104_39 na_101 rfl rfl (Nat.le_of_ble_eq_true rfl) (Nat.le_of_ble_eq_true rfl) (by rw [ml_101]; exact Nat.le_of_ble_eq_true rfl) hP2 (fun v2 S2 hp2 => ?_)
      have hV := hV v2 S2 hp2
      refine e_if f_104_42 (fun hc => ?_) (fun hc => ?_)
      · have hc := x_cct_ne hc
        rw [if_neg hc] at hV
        refine e_aload f_104_51 rfl (by decide) ?_
        refine e_gr (c := 6) (j := 7) (r := 61) f_104_52 (by decide) (by decide) (by decide) (by decide) ?_
        refine e_iconst (c := 40) f_104_55 (by decide) ?_
        refine e_iload f_104_57 rfl ?_
        refine e_imul f_104_58 ?_
        refine e_iload f_104_59 rfl ?_
        refine e_iadd f_104_60 ?_
        refine e_aload f_104_61 rfl (by decide) ?_
        refine e_gr (c := 6) (j := 5) (r := 59) f_104_62 (by decide) (by decide) (by decide) (by decide) ?_
        refine e_iload f_104_65 rfl ?_
        obtain ⟨hg, hV⟩ := hV
        refine e_ia (n := 8) f_104_66 (by decide) (by decide) hg ?_
        refine e_if f_104_67 (fun hc => ?_) (fun hc => ?_)
        · have hc := x_cct_ne hc
          rw [if_neg hc] at hV
          refine e_aload f_104_75 rfl (by decide) ?_
          refine e_gr (c := 6) (j := 5) (r := 59) f_104_76 (by decide) (by decide) (by decide) (by decide) ?_
          refine e_iload f_104_79 rfl ?_
          obtain ⟨hg, hV⟩ := hV
          refine e_ia (n := 8) f_104_80 (by decide) (by decide) hg ?_
          refine e_iconst (c := 1) f_104_81 (by decide) ?_
          refine e_icmp f_104_82 (fun hc => ?_) (fun hc => ?_)
          · have hc := x_cct_ne hc
            rw [if_neg hc] at hV
            refine e_iload f_104_90 rfl ?_
            obtain ⟨hg, hV⟩ := hV
            refine e_isn (n := 320) f_104_91 (by decide) (by decide) hg (fun S3 hS3 => ?_)
            have hV := hV S3 hS3
            refine e_aload f_104_92 rfl (by decide) ?_
            refine e_aload f_104_93 rfl (by decide) ?_
            refine e_gr (c := 6) (j := 7) (r := 61) f_104_94 (by decide) (by decide) (by decide) (by decide) ?_
            refine e_iconst (c := 40) f_104_97 (by decide) ?_
            refine e_iload f_104_99 rfl ?_
            refine e_imul f_104_100 ?_
            refine e_iload f_104_101 rfl ?_
            refine e_iadd f_104_102 ?_
            obtain ⟨hg, hV⟩ := hV
            refine e_ia (n := 320) f_104_103 (by decide) (by decide) hg ?_
            obtain ⟨P4, hP4, hV⟩ := hV
            refine e_vi (n := 2) (A := [.ref 56, .int (S3 61 (Int32.toNatClampNeg ((40 * a1) + a2)))]) (R := []) f_104_104 na_103 rfl rfl (Nat.le_of_ble_eq_true rfl) (Nat.le_of_ble_eq_true rfl) (by rw [ml_103]; exact Nat.le_of_ble_eq_true rfl) rfl (by rw [cy_103]; decide) (by rw [cy_103]; exact (by decide : x_tg 56 = 6)) hP4 (fun v4 S4 hp4 => ?_)
            have hV := hV v4 S4 hp4
            exact e_ireturn f_104_107 rt_104 rfl hV
          · have hc := x_ccf_ne hc
            rw [if_pos hc] at hV
            refine e_iload f_104_85 rfl ?_
            refine e_i2s f_104_86 ?_
            refine e_goto f_104_87 ?_
            obtain ⟨hg, hV⟩ := hV
            refine e_isn (n := 320) f_104_91 (by decide) (by decide) hg (fun S5 hS5 => ?_)
            have hV := hV S5 hS5
            refine e_aload f_104_92 rfl (by decide) ?_
            refine e_aload f_104_93 rfl (by decide) ?_
            refine e_gr (c := 6) (j := 7) (r := 61) f_104_94 (by decide) (by decide) (by decide) (by decide) ?_
            refine e_iconst (c := 40) f_104_97 (by decide) ?_
            refine e_iload f_104_99 rfl ?_
            refine e_imul f_104_100 ?_
            refine e_iload f_104_101 rfl ?_
            refine e_iadd f_104_102 ?_
            obtain ⟨hg, hV⟩ := hV
            refine e_ia (n := 320) f_104_103 (by decide) (by decide) hg ?_
            obtain ⟨P6, hP6, hV⟩ := hV
            refine e_vi (n := 2) (A := [.ref 56, .int (S5 61 (Int32.toNatClampNeg ((40 * a1) + a2)))]) (R := []) f_104_104 na_103 rfl rfl (Nat.le_of_ble_eq_true rfl) (Nat.le_of_ble_eq_true rfl) (by rw [ml_103]; exact Nat.le_of_ble_eq_true rfl) rfl (by rw [cy_103]; decide) (by rw [cy_103]; exact (by decide : x_tg 56 = 6)) hP6 (fun v6 S6 hp6 => ?_)
            have hV := hV v6 S6 hp6
            exact e_ireturn f_104_107 rt_104 rfl hV
        · have hc := x_ccf_ne hc
          rw [if_pos hc] at hV
          refine e_iload f_104_70 rfl ?_
          refine e_i2b f_104_71 ?_
          refine e_goto f_104_72 ?_
          obtain ⟨hg, hV⟩ := hV
          refine e_isn (n := 320) f_104_91 (by decide) (by decide) hg (fun S7 hS7 => ?_)
          have hV := hV S7 hS7
          refine e_aload f_104_92 rfl (by decide) ?_
          refine e_aload f_104_93 rfl (by decide) ?_
          refine e_gr (c := 6) (j := 7) (r := 61) f_104_94 (by decide) (by decide) (by decide) (by decide) ?_
          refine e_iconst (c := 40) f_104_97 (by decide) ?_
          refine e_iload f_104_99 rfl ?_
          refine e_imul f_104_100 ?_
          refine e_iload f_104_101 rfl ?_
          refine e_iadd f_104_102 ?_
          obtain ⟨hg, hV⟩ := hV
          refine e_ia (n := 320) f_104_103 (by decide) (by decide) hg ?_
          obtain ⟨P8, hP8, hV⟩ := hV
          refine e_vi (n := 2) (A := [.ref 56, .int (S7 61 (Int32.toNatClampNeg ((40 * a1) + a2)))]) (R := []) f_104_104 na_103 rfl rfl (Nat.le_of_ble_eq_true rfl) (Nat.le_of_ble_eq_true rfl) (by rw [ml_103]; exact Nat.le_of_ble_eq_true rfl) rfl (by rw [cy_103]; decide) (by rw [cy_103]; exact (by decide : x_tg 56 = 6)) hP8 (fun v8 S8 hp8 => ?_)
          have hV := hV v8 S8 hp8
          exact e_ireturn f_104_107 rt_104 rfl hV
      · have hc := x_ccf_ne hc
        rw [if_pos hc] at hV
        refine e_aload f_104_45 rfl (by decide) ?_
        refine e_iconst (c := 2) f_104_46 (by decide) ?_
        obtain ⟨P9, hP9, hV⟩ := hV
        refine e_vi (n := 2) (A := [.ref 56, .int 2]) (R := []) f_104_47 na_102 rfl rfl (Nat.le_of_ble_eq_true rfl) (Nat.le_of_ble_eq_true rfl) (by rw [ml_102]; exact Nat.le_of_ble_eq_true rfl) rfl (by rw [cy_102]; decide) (by rw [cy_102]; exact (by decide : x_tg 56 = 6)) hP9 (fun v9 S9 hp9 => ?_)
        have hV := hV v9 S9 hp9
        exact e_ireturn f_104_50 rt_104 rfl hV
    · have hc := x_ccf_ne hc
      rw [if_pos hc] at hV
      refine e_aload f_104_21 rfl (by decide) ?_
      refine e_iconst (c := 1) f_104_22 (by decide) ?_
      obtain ⟨P10, hP10, hV⟩ := hV
      refine e_vi (n := 2) (A := [.ref 56, .int 1]) (R := []) f_104_23 na_102 rfl rfl (Nat.le_of_ble_eq_true rfl) (Nat.le_of_ble_eq_true rfl) (by rw [ml_102]; exact Nat.le_of_ble_eq_true rfl) rfl (by rw [cy_102]; decide) (by rw [cy_102]; exact (by decide : x_tg 56 = 6)) hP10 (fun v10 S10 hp10 => ?_)
      have hV := hV v10 S10 hp10
      exact e_ireturn f_104_26 rt_104 rfl hV
  · have hc := x_ccf_ne hc
    rw [if_pos hc] at hV
    refine e_iconst (c := (-1000001)) f_104_7 (by decide) ?_
    exact e_ireturn f_104_9 rt_104 rfl hV
set_option maxRecDepth 20000 in
theorem T_105_0 {xs : List Int32} {d : Nat} {S : x_M} {Q : Option Value → x_M → Prop} {a1 : Int32} {a2 : Int32} {a3 : Int32} {a4 : Int32} {a5 : Int32}  (hV : ∃ P1 : Int32 → x_M → Prop, x_Ci xs d 100 [.int a1] S P1 ∧ ∀ (v1 : Int32) (S1 : x_M), P1 v1 S1 → (if v1 = 0 then (Q (some (.int (-1000001))) S1) else (∃ P2 : Int32 → x_M → Prop, x_Ci xs d 100 [.int a3] S1 P2 ∧ ∀ (v2 : Int32) (S2 : x_M), P2 v2 S2 → (if v2 = 0 then (Q (some (.int (-1000001))) S2) else ((x_ib a1 8) ∧ (if (S2 59 (Int32.toNatClampNeg a1)) = (-1000000) then (∃ P3 : Int32 → x_M → Prop, x_Ci xs d 102 [.ref 56, .int 1] S2 P3 ∧ ∀ (v3 : Int32) (S3 : x_M), P3 v3 S3 → (Q (some (.int v3)) S3)) else ((x_ib a3 8) ∧ (if (S2 59 (Int32.toNatClampNeg a3)) = (-1000000) then (∃ P9 : Int32 → x_M → Prop, x_Ci xs d 102 [.ref 56, .int 1] S2 P9 ∧ ∀ (v9 : Int32) (S9 : x_M), P9 v9 S9 → (Q (some (.int v9)) S9)) else ((x_ib a1 8) ∧ ((x_ib a3 8) ∧ (if (S2 59 (Int32.toNatClampNeg a1)) = (S2 59 (Int32.toNatClampNeg a3)) then (∃ P4 : Int32 → x_M → Prop, x_Ci xs d 106 [.ref 56, .int a1, .int a2, .int a5] S2 P4 ∧ ∀ (v4 : Int32) (S4 : x_M), P4 v4 S4 → (if v4 = 0 then (∃ P5 : Int32 → x_M → Prop, x_Ci xs d 102 [.ref 56, .int 2] S4 P5 ∧ ∀ (v5 : Int32) (S5 : x_M), P5 v5 S5 → (Q (some (.int v5)) S5)) else (∃ P6 : Int32 → x_M → Prop, x_Ci xs d 106 [.ref 56, .int a3, .int a4, .int a5] S4 P6 ∧ ∀ (v6 : Int32) (S6 : x_M), P6 v6 S6 → (if v6 = 0 then (∃ P7 : Int32 → x_M → Prop, x_Ci xs d 102 [.ref 56, .int 2] S6 P7 ∧ ∀ (v7 : Int32) (S7 : x_M), P7 v7 S7 → (Q (some (.int v7)) S7)) else (x_E xs (d + 1) 105 98 [.ref 56, .int a1, .int a2, .int a3, .int a4, .int a5, .int 0, .null] [] S6 Q))))) else (∃ P8 : Int32 → x_M → Prop, x_Ci xs d 102 [.ref 56, .int 5] S2 P8 ∧ ∀ (v8 : Int32) (S8 : x_M), P8 v8 S8 → (Q (some (.int v8)) S8))))))))))))) : x_E xs (d + 1) 105 0 [.ref 56, .int a1, .int a2, .int a3, .int a4, .int a5, .null, .null] [] S Q := by
  refine e_iload f_105_0 rfl ?_
  obtain ⟨P1, hP1, hV⟩ := hV
  refine e_si (n := 1) (A := [.int a1]) (R := []) f_105_1 na_100 rfl rfl (Nat.le_of_ble_eq_true rfl) (Nat.le_of_ble_eq_true rfl) (by rw [ml_100]; exact Nat.le_of_ble_eq_true rfl) hP1 (fun v1 S1 hp1 => ?_)
  have hV := hV v1 S1 hp1
  refine e_if f_105_4 (fun hc => ?_) (fun hc => ?_)
  · have hc := x_cct_eq hc
    rw [if_pos hc] at hV
    refine e_iconst (c := (-1000001)) f_105_14 (by decide) ?_
    exact e_ireturn f_105_16 rt_105 rfl hV
  · have hc := x_ccf_eq hc
    rw [if_neg hc] at hV
    refine e_iload f_105_7 rfl ?_
    obtain ⟨P2, hP2, hV⟩ := hV
    refine e_si (n := 1) (A := [.int a3]) (R := []) f_105_8 na_100 rfl rfl (Nat.le_of_ble_eq_true rfl) (Nat.le_of_ble_eq_true rfl) (by rw [ml_100]; exact Nat.le_of_ble_eq_true rfl) hP2 (fun v2 S2 hp2 => ?_)
    have hV := hV v2 S2 hp2
    refine e_if f_105_11 (fun hc => ?_) (fun hc => ?_)
    · have hc := x_cct_ne hc
      rw [if_neg hc] at hV
      refine e_aload f_105_17 rfl (by decide) ?_
      refine e_gr (c := 6) (j := 5) (r := 59) f_105_18 (by decide) (by decide) (by decide) (by decide) ?_
      refine e_iload f_105_21 rfl ?_
      obtain ⟨hg, hV⟩ := hV
      refine e_ia (n := 8) f_105_22 (by decide) (by decide) hg ?_
      refine e_iconst (c := (-1000000)) f_105_23 (by decide) ?_
      refine e_icmp f_105_25 (fun hc => ?_) (fun hc => ?_)
      · have hc := x_cct_eq hc
        rw [if_pos hc] at hV
        refine e_aload f_105_39 rfl (by decide) ?_
        refine e_iconst (c := 1) f_105_40 (by decide) ?_
        obtain ⟨P3, hP3, hV⟩ := hV
        refine e_vi (n := 2) (A := [.ref 56, .int 1]) (R := []) f_105_41 na_102 rfl rfl (Nat.le_of_ble_eq_true rfl) (Nat.le_of_ble_eq_true rfl) (by rw [ml_102]; exact Nat.le_of_ble_eq_true rfl) rfl (by rw [cy_102]; decide) (by rw [cy_102]; exact (by decide : x_tg 56 = 6)) hP3 (fun v3 S3 hp3 => ?_)
        have hV := hV v3 S3 hp3
        exact e_ireturn f_105_44 rt_105 rfl hV
      · have hc := x_ccf_eq hc
        rw [if_neg hc] at hV
        refine e_aload f_105_28 rfl (by decide) ?_
        refine e_gr (c := 6) (j := 5) (r := 59) f_105_29 (by decide) (by decide) (by decide) (by decide) ?_
        refine e_iload f_105_32 rfl ?_
        obtain ⟨hg, hV⟩ := hV
        refine e_ia (n := 8) f_105_33 (by decide) (by decide) hg ?_
        refine e_iconst (c := (-1000000)) f_105_34 (by decide) ?_
        refine e_icmp f_105_36 (fun hc => ?_) (fun hc => ?_)
        · have hc := x_cct_ne hc
          rw [if_neg hc] at hV
          refine e_aload f_105_45 rfl (by decide) ?_
          refine e_gr (c := 6) (j := 5) (r := 59) f_105_46 (by decide) (by decide) (by decide) (by decide) ?_
          refine e_iload f_105_49 rfl ?_
          obtain ⟨hg, hV⟩ := hV
          refine e_ia (n := 8) f_105_50 (by decide) (by decide) hg ?_
          refine e_aload f_105_51 rfl (by decide) ?_
          refine e_gr (c := 6) (j := 5) (r := 59) f_105_52 (by decide) (by decide) (by decide) (by decide) ?_
          refine e_iload f_105_55 rfl ?_
          obtain ⟨hg, hV⟩ := hV
          refine e_ia (n := 8) f_105_56 (by decide) (by decide) hg ?_
          refine e_icmp f_105_57 (fun hc => ?_) (fun hc => ?_)
          · have hc := x_cct_eq hc
            rw [if_pos hc] at hV
            refine e_aload f_105_66 rfl (by decide) ?_
            refine e_iload f_105_67 rfl ?_
            refine e_iload f_105_68 rfl ?_
            refine e_iload f_105_69 rfl ?_
            obtain ⟨P4, hP4, hV⟩ := hV
            refine e_vi (n := 4) (A := [.ref 56, .int a1, .int a2, .int a5]) (R := []) f_105_71 na_106 rfl rfl (Nat.le_of_ble_eq_true rfl) (Nat.le_of_ble_eq_true rfl) (by rw [ml_106]; exact Nat.le_of_ble_eq_true rfl) rfl (by rw [cy_106]; decide) (by rw [cy_106]; exact (by decide : x_tg 56 = 6)) hP4 (fun v4 S4 hp4 => ?_)
            have hV := hV v4 S4 hp4
            refine e_if f_105_74 (fun hc => ?_) (fun hc => ?_)
            · have hc := x_cct_eq hc
              rw [if_pos hc] at hV
              refine e_aload f_105_89 rfl (by decide) ?_
              refine e_iconst (c := 2) f_105_90 (by decide) ?_
              obtain ⟨P5, hP5, hV⟩ := hV
              refine e_vi (n := 2) (A := [.ref 56, .int 2]) (R := []) f_105_91 na_102 rfl rfl (Nat.le_of_ble_eq_true rfl) (Nat.le_of_ble_eq_true rfl) (by rw [ml_102]; exact Nat.le_of_ble_eq_true rfl) rfl (by rw [cy_102]; decide) (by rw [cy_102]; exact (by decide : x_tg 56 = 6)) hP5 (fun v5 S5 hp5 => ?_)
              have hV := hV v5 S5 hp5
              exact e_ireturn f_105_94 rt_105 rfl hV
            · have hc := x_ccf_eq hc
              rw [if_neg hc] at hV
              refine e_aload f_105_77 rfl (by decide) ?_
              refine e_iload f_105_78 rfl ?_
              refine e_iload f_105_79 rfl ?_
              refine e_iload f_105_81 rfl ?_
              obtain ⟨P6, hP6, hV⟩ := hV
              refine e_vi (n := 4) (A := [.ref 56, .int a3, .int a4, .int a5]) (R := []) f_105_83 na_106 rfl rfl (Nat.le_of_ble_eq_true rfl) (Nat.le_of_ble_eq_true rfl) (by rw [ml_106]; exact Nat.le_of_ble_eq_true rfl) rfl (by rw [cy_106]; decide) (by rw [cy_106]; exact (by decide : x_tg 56 = 6)) hP6 (fun v6 S6 hp6 => ?_)
              have hV := hV v6 S6 hp6
              refine e_if f_105_86 (fun hc => ?_) (fun hc => ?_)
              · have hc := x_cct_ne hc
                rw [if_neg hc] at hV
                refine e_iconst (c := 0) f_105_95 (by decide) ?_
                refine e_istore (L' := [.ref 56, .int a1, .int a2, .int a3, .int a4, .int a5, .int 0, .null]) f_105_96 (Nat.le_of_ble_eq_true rfl) rfl ?_
                exact hV
              · have hc := x_ccf_ne hc
                rw [if_pos hc] at hV
                refine e_aload f_105_89 rfl (by decide) ?_
                refine e_iconst (c := 2) f_105_90 (by decide) ?_
                obtain ⟨P7, hP7, hV⟩ := hV
                refine e_vi (n := 2) (A := [.ref 56, .int 2]) (R := []) f_105_91 na_102 rfl rfl (Nat.le_of_ble_eq_true rfl) (Nat.le_of_ble_eq_true rfl) (by rw [ml_102]; exact Nat.le_of_ble_eq_true rfl) rfl (by rw [cy_102]; decide) (by rw [cy_102]; exact (by decide : x_tg 56 = 6)) hP7 (fun v7 S7 hp7 => ?_)
                have hV := hV v7 S7 hp7
                exact e_ireturn f_105_94 rt_105 rfl hV
          · have hc := x_ccf_eq hc
            rw [if_neg hc] at hV
            refine e_aload f_105_60 rfl (by decide) ?_
            refine e_iconst (c := 5) f_105_61 (by decide) ?_
            obtain ⟨P8, hP8, hV⟩ := hV
            refine e_vi (n := 2) (A := [.ref 56, .int 5]) (R := []) f_105_62 na_102 rfl rfl (Nat.le_of_ble_eq_true rfl) (Nat.le_of_ble_eq_true rfl) (by rw [ml_102]; exact Nat.le_of_ble_eq_true rfl) rfl (by rw [cy_102]; decide) (by rw [cy_102]; exact (by decide : x_tg 56 = 6)) hP8 (fun v8 S8 hp8 => ?_)
            have hV := hV v8 S8 hp8
            exact e_ireturn f_105_65 rt_105 rfl hV
        · have hc := x_ccf_ne hc
          rw [if_pos hc] at hV
          refine e_aload f_105_39 rfl (by decide) ?_
          refine e_iconst (c := 1) f_105_40 (by decide) ?_
          obtain ⟨P9, hP9, hV⟩ := hV
          refine e_vi (n := 2) (A := [.ref 56, .int 1]) (R := []) f_105_41 na_102 rfl rfl (Nat.le_of_ble_eq_true rfl) (Nat.le_of_ble_eq_true rfl) (by rw [ml_102]; exact Nat.le_of_ble_eq_true rfl) rfl (by rw [cy_102]; decide) (by rw [cy_102]; exact (by decide : x_tg 56 = 6)) hP9 (fun v9 S9 hp9 => ?_)
          have hV := hV v9 S9 hp9
          exact e_ireturn f_105_44 rt_105 rfl hV
    · have hc := x_ccf_ne hc
      rw [if_pos hc] at hV
      refine e_iconst (c := (-1000001)) f_105_14 (by decide) ?_
      exact e_ireturn f_105_16 rt_105 rfl hV
set_option maxRecDepth 20000 in
theorem T_105_98 {xs : List Int32} {d : Nat} {S : x_M} {Q : Option Value → x_M → Prop} {a1 : Int32} {a2 : Int32} {a3 : Int32} {a4 : Int32} {a5 : Int32} {a6 : Int32} {a7 : Value}  (hV : if a5 ≤ a6 then (∃ P1 : Int32 → x_M → Prop, x_Ci xs d 103 [.ref 56, .int a5] S P1 ∧ ∀ (v1 : Int32) (S1 : x_M), P1 v1 S1 → (Q (some (.int v1)) S1)) else (if a1 = a3 then (if a4 ≤ a2 then (x_E xs (d + 1) 105 128 [.ref 56, .int a1, .int a2, .int a3, .int a4, .int a5, .int a6, a7] [.int a6] S Q) else (x_E xs (d + 1) 105 128 [.ref 56, .int a1, .int a2, .int a3, .int a4, .int a5, .int a6, a7] [.int ((a5 - 1) - a6)] S Q)) else (x_E xs (d + 1) 105 128 [.ref 56, .int a1, .int a2, .int a3, .int a4, .int a5, .int a6, a7] [.int a6] S Q))) : x_E xs (d + 1) 105 98 [.ref 56, .int a1, .int a2, .int a3, .int a4, .int a5, .int a6, a7] [] S Q := by
  refine e_iload f_105_98 rfl ?_
  refine e_iload f_105_100 rfl ?_
  refine e_icmp f_105_102 (fun hc => ?_) (fun hc => ?_)
  · have hc := x_cct_ge hc
    rw [if_pos hc] at hV
    refine e_aload f_105_165 rfl (by decide) ?_
    refine e_iload f_105_166 rfl ?_
    obtain ⟨P1, hP1, hV⟩ := hV
    refine e_vi (n := 2) (A := [.ref 56, .int a5]) (R := []) f_105_168 na_103 rfl rfl (Nat.le_of_ble_eq_true rfl) (Nat.le_of_ble_eq_true rfl) (by rw [ml_103]; exact Nat.le_of_ble_eq_true rfl) rfl (by rw [cy_103]; decide) (by rw [cy_103]; exact (by decide : x_tg 56 = 6)) hP1 (fun v1 S1 hp1 => ?_)
    have hV := hV v1 S1 hp1
    exact e_ireturn f_105_171 rt_105 rfl hV
  · have hc := x_ccf_ge hc
    rw [if_neg hc] at hV
    refine e_iload f_105_105 rfl ?_
    refine e_iload f_105_106 rfl ?_
    refine e_icmp f_105_107 (fun hc => ?_) (fun hc => ?_)
    · have hc := x_cct_ne hc
      rw [if_neg hc] at hV
      refine e_iload f_105_126 rfl ?_
      exact hV
    · have hc := x_ccf_ne hc
      rw [if_pos hc] at hV
      refine e_iload f_105_110 rfl ?_
      refine e_iload f_105_111 rfl ?_
      refine e_icmp f_105_113 (fun hc => ?_) (fun hc => ?_)
      · have hc := x_cct_ge hc
        rw [if_pos hc] at hV
        refine e_iload f_105_126 rfl ?_
        exact hV
      · have hc := x_ccf_ge hc
        rw [if_neg hc] at hV
        refine e_iload f_105_116 rfl ?_
        refine e_iconst (c := 1) f_105_118 (by decide) ?_
        refine e_isub f_105_119 ?_
        refine e_iload f_105_120 rfl ?_
        refine e_isub f_105_122 ?_
        refine e_goto f_105_123 ?_
        exact hV
