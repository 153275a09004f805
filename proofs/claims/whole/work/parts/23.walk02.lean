set_option maxRecDepth 20000 in
theorem T_45_0 {xs : List Int32} {d : Nat} {S : x_M} {Q : Option Value → x_M → Prop} {a1 : Int32}  (hV : ∀ S1 : x_M, S1 = x_up S 8 9 a1 → (Q (some (.int ((-1000010) - a1))) S1)) : x_E xs (d + 1) 45 0 [.ref 8, .int a1] [] S Q := by
  refine e_aload f_45_0 rfl (by decide) ?_
  refine e_iload f_45_1 rfl ?_
  refine e_pfn (c := 5) (j := 9) f_45_2 (by decide) (by decide) (by decide) (x_fit_i rfl) (fun S1 hS1 => ?_)
  have hV := hV S1 hS1
  refine e_iconst (c := (-1000010)) f_45_5 (by decide) ?_
  refine e_iload f_45_8 rfl ?_
  refine e_isub f_45_9 ?_
  exact e_ireturn f_45_10 rt_45 rfl hV
set_option maxRecDepth 20000 in
theorem T_46_0 {xs : List Int32} {d : Nat} {S : x_M} {Q : Option Value → x_M → Prop} {a1 : Int32}  (hV : ∀ S1 : x_M, S1 = x_up S 8 9 0 → (Q (some (.int a1)) S1)) : x_E xs (d + 1) 46 0 [.ref 8, .int a1] [] S Q := by
  refine e_aload f_46_0 rfl (by decide) ?_
  refine e_iconst (c := 0) f_46_1 (by decide) ?_
  refine e_pfn (c := 5) (j := 9) f_46_2 (by decide) (by decide) (by decide) (x_fit_i rfl) (fun S1 hS1 => ?_)
  have hV := hV S1 hS1
  refine e_iload f_46_5 rfl ?_
  exact e_ireturn f_46_6 rt_46 rfl hV
set_option maxRecDepth 20000 in
theorem T_47_0 {xs : List Int32} {d : Nat} {S : x_M} {Q : Option Value → x_M → Prop} {a1 : Int32} {a2 : Int32} {a3 : Int32}  (hV : ∃ P1 : Int32 → x_M → Prop, x_Ci xs d 44 [.int a1] S P1 ∧ ∀ (v1 : Int32) (S1 : x_M), P1 v1 S1 → (if v1 = 0 then (Q (some (.int (-1000001))) S1) else ((x_ib a1 8) ∧ (if (S1 (x_rr 9 (Int32.toNatClampNeg a1)) 1) = 0 then (∃ P8 : Int32 → x_M → Prop, x_Ci xs d 45 [.ref 8, .int 1] S1 P8 ∧ ∀ (v8 : Int32) (S8 : x_M), P8 v8 S8 → (Q (some (.int v8)) S8)) else (∃ P3 : Int32 → x_M → Prop, x_Ci xs d 25 [.ref (x_rr 9 (Int32.toNatClampNeg a1)), .int a2, .int 1] S1 P3 ∧ ∀ (v3 : Int32) (S3 : x_M), P3 v3 S3 → (if v3 = 0 then (∃ P7 : Int32 → x_M → Prop, x_Ci xs d 45 [.ref 8, .int 2] S3 P7 ∧ ∀ (v7 : Int32) (S7 : x_M), P7 v7 S7 → (Q (some (.int v7)) S7)) else (∃ P4 : Int32 → x_M → Prop, x_Ci xs d 26 [.ref (x_rr 9 (Int32.toNatClampNeg a1)), .int a3] S3 P4 ∧ ∀ (v4 : Int32) (S4 : x_M), P4 v4 S4 → ((x_ib a2 40) ∧ (∀ S5 : x_M, S5 = x_up S4 (x_rr (x_rr 9 (Int32.toNatClampNeg a1)) 0) (Int32.toNatClampNeg a2) v4 → ((x_ib a2 40) ∧ (∃ P6 : Int32 → x_M → Prop, x_Ci xs d 46 [.ref 8, .int (S5 (x_rr (x_rr 9 (Int32.toNatClampNeg a1)) 0) (Int32.toNatClampNeg a2))] S5 P6 ∧ ∀ (v6 : Int32) (S6 : x_M), P6 v6 S6 → (Q (some (.int v6)) S6)))))))))))) : x_E xs (d + 1) 47 0 [.ref 8, .int a1, .int a2, .int a3, .null] [] S Q := by
  refine e_iload f_47_0 rfl ?_
  obtain ⟨P1, hP1, hV⟩ := hV
  refine e_si (n := 1) (A := [.int a1]) (R := []) f_47_1 na_44 rfl rfl (Nat.le_of_ble_eq_true rfl) (Nat.le_of_ble_eq_true rfl) (by rw [ml_44]; exact Nat.le_of_ble_eq_true rfl) hP1 (fun v1 S1 hp1 => ?_)
  have hV := hV v1 S1 hp1
  refine e_if f_47_4 (fun hc => ?_) (fun hc => ?_)
  · have hc := x_cct_ne hc
    rw [if_neg hc] at hV
    refine e_aload f_47_10 rfl (by decide) ?_
    refine e_gr (c := 5) (j := 0) (r := 9) f_47_11 (by decide) (by decide) (by decide) (by decide) ?_
    refine e_iload f_47_14 rfl ?_
    obtain ⟨hg, hV⟩ := hV
    refine e_aa (c := 11) (n := 8) f_47_15 (by decide) (by decide) (by decide) hg (fun hq2 => ?_)
    have hq2 : x_tg (x_rr 9 (Int32.toNatClampNeg a1)) = 2 := hq2
    refine e_astore (L' := [.ref 8, .int a1, .int a2, .int a3, .ref (x_rr 9 (Int32.toNatClampNeg a1))]) f_47_16 (Nat.le_of_ble_eq_true rfl) (x_n7 hq2 (by decide)) rfl ?_
    refine e_aload f_47_18 rfl (x_n7 hq2 (by decide)) ?_
    refine e_gf (c := 2) (j := 1) f_47_20 (by decide) (by decide) hq2 ?_
    refine e_if f_47_23 (fun hc => ?_) (fun hc => ?_)
    · have hc := x_cct_ne hc
      rw [if_neg hc] at hV
      refine e_aload f_47_32 rfl (x_n7 hq2 (by decide)) ?_
      refine e_iload f_47_34 rfl ?_
      refine e_iconst (c := 1) f_47_35 (by decide) ?_
      obtain ⟨P3, hP3, hV⟩ := hV
      refine e_vi (n := 3) (A := [.ref (x_rr 9 (Int32.toNatClampNeg a1)), .int a2, .int 1]) (R := []) f_47_36 na_25 rfl rfl (Nat.le_of_ble_eq_true rfl) (Nat.le_of_ble_eq_true rfl) (by rw [ml_25]; exact Nat.le_of_ble_eq_true rfl) rfl (by rw [cy_25]; decide) (by rw [cy_25]; exact hq2) hP3 (fun v3 S3 hp3 => ?_)
      have hV := hV v3 S3 hp3
      refine e_if f_47_39 (fun hc => ?_) (fun hc => ?_)
      · have hc := x_cct_ne hc
        rw [if_neg hc] at hV
        refine e_aload f_47_48 rfl (x_n7 hq2 (by decide)) ?_
        refine e_gr (c := 2) (j := 0) (r := (x_rr (x_rr 9 (Int32.toNatClampNeg a1)) 0)) f_47_50 (by decide) (by decide) hq2 rfl ?_
        refine e_iload f_47_53 rfl ?_
        refine e_aload f_47_54 rfl (x_n7 hq2 (by decide)) ?_
        refine e_iload f_47_56 rfl ?_
        obtain ⟨P4, hP4, hV⟩ := hV
        refine e_vi (n := 2) (A := [.ref (x_rr 9 (Int32.toNatClampNeg a1)), .int a3]) (R := [.int a2, .ref (x_rr (x_rr 9 (Int32.toNatClampNeg a1)) 0)]) f_47_57 na_26 rfl rfl (Nat.le_of_ble_eq_true rfl) (Nat.le_of_ble_eq_true rfl) (by rw [ml_26]; exact Nat.le_of_ble_eq_true rfl) rfl (by rw [cy_26]; decide) (by rw [cy_26]; exact hq2) hP4 (fun v4 S4 hp4 => ?_)
        have hV := hV v4 S4 hp4
        obtain ⟨hg, hV⟩ := hV
        refine e_isn (n := 40) f_47_60 (ht_2_0 hq2) (hn_2_0 hq2) hg (fun S5 hS5 => ?_)
        have hV := hV S5 hS5
        refine e_aload f_47_61 rfl (by decide) ?_
        refine e_aload f_47_62 rfl (x_n7 hq2 (by decide)) ?_
        refine e_gr (c := 2) (j := 0) (r := (x_rr (x_rr 9 (Int32.toNatClampNeg a1)) 0)) f_47_64 (by decide) (by decide) hq2 rfl ?_
        refine e_iload f_47_67 rfl ?_
        obtain ⟨hg, hV⟩ := hV
        refine e_ia (n := 40) f_47_68 (ht_2_0 hq2) (hn_2_0 hq2) hg ?_
        obtain ⟨P6, hP6, hV⟩ := hV
        refine e_vi (n := 2) (A := [.ref 8, .int (S5 (x_rr (x_rr 9 (Int32.toNatClampNeg a1)) 0) (Int32.toNatClampNeg a2))]) (R := []) f_47_69 na_46 rfl rfl (Nat.le_of_ble_eq_true rfl) (Nat.le_of_ble_eq_true rfl) (by rw [ml_46]; exact Nat.le_of_ble_eq_true rfl) rfl (by rw [cy_46]; decide) (by rw [cy_46]; exact (by decide : x_tg 8 = 5)) hP6 (fun v6 S6 hp6 => ?_)
        have hV := hV v6 S6 hp6
        exact e_ireturn f_47_72 rt_47 rfl hV
      · have hc := x_ccf_ne hc
        rw [if_pos hc] at hV
        refine e_aload f_47_42 rfl (by decide) ?_
        refine e_iconst (c := 2) f_47_43 (by decide) ?_
        obtain ⟨P7, hP7, hV⟩ := hV
        refine e_vi (n := 2) (A := [.ref 8, .int 2]) (R := []) f_47_44 na_45 rfl rfl (Nat.le_of_ble_eq_true rfl) (Nat.le_of_ble_eq_true rfl) (by rw [ml_45]; exact Nat.le_of_ble_eq_true rfl) rfl (by rw [cy_45]; decide) (by rw [cy_45]; exact (by decide : x_tg 8 = 5)) hP7 (fun v7 S7 hp7 => ?_)
        have hV := hV v7 S7 hp7
        exact e_ireturn f_47_47 rt_47 rfl hV
    · have hc := x_ccf_ne hc
      rw [if_pos hc] at hV
      refine e_aload f_47_26 rfl (by decide) ?_
      refine e_iconst (c := 1) f_47_27 (by decide) ?_
      obtain ⟨P8, hP8, hV⟩ := hV
      refine e_vi (n := 2) (A := [.ref 8, .int 1]) (R := []) f_47_28 na_45 rfl rfl (Nat.le_of_ble_eq_true rfl) (Nat.le_of_ble_eq_true rfl) (by rw [ml_45]; exact Nat.le_of_ble_eq_true rfl) rfl (by rw [cy_45]; decide) (by rw [cy_45]; exact (by decide : x_tg 8 = 5)) hP8 (fun v8 S8 hp8 => ?_)
      have hV := hV v8 S8 hp8
      exact e_ireturn f_47_31 rt_47 rfl hV
  · have hc := x_ccf_ne hc
    rw [if_pos hc] at hV
    refine e_iconst (c := (-1000001)) f_47_7 (by decide) ?_
    exact e_ireturn f_47_9 rt_47 rfl hV
set_option maxRecDepth 20000 in
theorem T_48_0 {xs : List Int32} {d : Nat} {S : x_M} {Q : Option Value → x_M → Prop} {a1 : Int32} {a2 : Int32} {a3 : Int32} {a4 : Int32} {a5 : Int32}  (hV : ∃ P1 : Int32 → x_M → Prop, x_Ci xs d 44 [.int a1] S P1 ∧ ∀ (v1 : Int32) (S1 : x_M), P1 v1 S1 → (if v1 = 0 then (Q (some (.int (-1000001))) S1) else (∃ P2 : Int32 → x_M → Prop, x_Ci xs d 44 [.int a3] S1 P2 ∧ ∀ (v2 : Int32) (S2 : x_M), P2 v2 S2 → (if v2 = 0 then (Q (some (.int (-1000001))) S2) else ((x_ib a1 8) ∧ ((x_ib a3 8) ∧ (if (S2 (x_rr 9 (Int32.toNatClampNeg a1)) 1) = 0 then (∃ P5 : Int32 → x_M → Prop, x_Ci xs d 45 [.ref 8, .int 1] S2 P5 ∧ ∀ (v5 : Int32) (S5 : x_M), P5 v5 S5 → (Q (some (.int v5)) S5)) else (if (S2 (x_rr 9 (Int32.toNatClampNeg a3)) 1) = 0 then (∃ P13 : Int32 → x_M → Prop, x_Ci xs d 45 [.ref 8, .int 1] S2 P13 ∧ ∀ (v13 : Int32) (S13 : x_M), P13 v13 S13 → (Q (some (.int v13)) S13)) else (if (S2 (x_rr 9 (Int32.toNatClampNeg a1)) 2) = (S2 (x_rr 9 (Int32.toNatClampNeg a3)) 2) then (∃ P6 : Int32 → x_M → Prop, x_Ci xs d 25 [.ref (x_rr 9 (Int32.toNatClampNeg a1)), .int a2, .int a5] S2 P6 ∧ ∀ (v6 : Int32) (S6 : x_M), P6 v6 S6 → (if v6 = 0 then (∃ P7 : Int32 → x_M → Prop, x_Ci xs d 45 [.ref 8, .int 2] S6 P7 ∧ ∀ (v7 : Int32) (S7 : x_M), P7 v7 S7 → (Q (some (.int v7)) S7)) else (∃ P8 : Int32 → x_M → Prop, x_Ci xs d 25 [.ref (x_rr 9 (Int32.toNatClampNeg a3)), .int a4, .int a5] S6 P8 ∧ ∀ (v8 : Int32) (S8 : x_M), P8 v8 S8 → (if v8 = 0 then (∃ P11 : Int32 → x_M → Prop, x_Ci xs d 45 [.ref 8, .int 2] S8 P11 ∧ ∀ (v11 : Int32) (S11 : x_M), P11 v11 S11 → (Q (some (.int v11)) S11)) else ((¬ a2 < 0 ∧ ¬ a4 < 0 ∧ ¬ a5 < 0 ∧ (Int32.toNatClampNeg a2) + (Int32.toNatClampNeg a5) ≤ 40 ∧ (Int32.toNatClampNeg a4) + (Int32.toNatClampNeg a5) ≤ 40) ∧ (∀ S9 : x_M, S9 = x_cp S8 (x_rr (x_rr 9 (Int32.toNatClampNeg a1)) 0) (Int32.toNatClampNeg a2) (x_rr (x_rr 9 (Int32.toNatClampNeg a3)) 0) (Int32.toNatClampNeg a4) (Int32.toNatClampNeg a5) → (∃ P10 : Int32 → x_M → Prop, x_Ci xs d 46 [.ref 8, .int a5] S9 P10 ∧ ∀ (v10 : Int32) (S10 : x_M), P10 v10 S10 → (Q (some (.int v10)) S10)))))))) else (∃ P12 : Int32 → x_M → Prop, x_Ci xs d 45 [.ref 8, .int 5] S2 P12 ∧ ∀ (v12 : Int32) (S12 : x_M), P12 v12 S12 → (Q (some (.int v12)) S12))))))))))) : x_E xs (d + 1) 48 0 [.ref 8, .int a1, .int a2, .int a3, .int a4, .int a5, .null, .null] [] S Q := by
  refine e_iload f_48_0 rfl ?_
  obtain ⟨P1, hP1, hV⟩ := hV
  refine e_si (n := 1) (A := [.int a1]) (R := []) f_48_1 na_44 rfl rfl (Nat.le_of_ble_eq_true rfl) (Nat.le_of_ble_eq_true rfl) (by rw [ml_44]; exact Nat.le_of_ble_eq_true rfl) hP1 (fun v1 S1 hp1 => ?_)
  have hV := hV v1 S1 hp1
  refine e_if f_48_4 (fun hc => ?_) (fun hc => ?_)
  · have hc := x_cct_eq hc
    rw [if_pos hc] at hV
    refine e_iconst (c := (-1000001)) f_48_14 (by decide) ?_
    exact e_ireturn f_48_16 rt_48 rfl hV
  · have hc := x_ccf_eq hc
    rw [if_neg hc] at hV
    refine e_iload f_48_7 rfl ?_
    obtain ⟨P2, hP2, hV⟩ := hV
    refine e_si (n := 1) (A := [.int a3]) (R := []) f_48_8 na_44 rfl rfl (Nat.le_of_ble_eq_true rfl) (Nat.le_of_ble_eq_true rfl) (by rw [ml_44]; exact Nat.le_of_ble_eq_true rfl) hP2 (fun v2 S2 hp2 => ?_)
    have hV := hV v2 S2 hp2
    refine e_if f_48_11 (fun hc => ?_) (fun hc => ?_)
    · have hc := x_cct_ne hc
      rw [if_neg hc] at hV
      refine e_aload f_48_17 rfl (by decide) ?_
      refine e_gr (c := 5) (j := 0) (r := 9) f_48_18 (by decide) (by decide) (by decide) (by decide) ?_
      refine e_iload f_48_21 rfl ?_
      obtain ⟨hg, hV⟩ := hV
      refine e_aa (c := 11) (n := 8) f_48_22 (by decide) (by decide) (by decide) hg (fun hq3 => ?_)
      have hq3 : x_tg (x_rr 9 (Int32.toNatClampNeg a1)) = 2 := hq3
      refine e_astore (L' := [.ref 8, .int a1, .int a2, .int a3, .int a4, .int a5, .ref (x_rr 9 (Int32.toNatClampNeg a1)), .null]) f_48_23 (Nat.le_of_ble_eq_true rfl) (x_n7 hq3 (by decide)) rfl ?_
      refine e_aload f_48_25 rfl (by decide) ?_
      refine e_gr (c := 5) (j := 0) (r := 9) f_48_26 (by decide) (by decide) (by decide) (by decide) ?_
      refine e_iload f_48_29 rfl ?_
      obtain ⟨hg, hV⟩ := hV
      refine e_aa (c := 11) (n := 8) f_48_30 (by decide) (by decide) (by decide) hg (fun hq4 => ?_)
      have hq4 : x_tg (x_rr 9 (Int32.toNatClampNeg a3)) = 2 := hq4
      refine e_astore (L' := [.ref 8, .int a1, .int a2, .int a3, .int a4, .int a5, .ref (x_rr 9 (Int32.toNatClampNeg a1)), .ref (x_rr 9 (Int32.toNatClampNeg a3))]) f_48_31 (Nat.le_of_ble_eq_true rfl) (x_n7 hq4 (by decide)) rfl ?_
      refine e_aload f_48_33 rfl (x_n7 hq3 (by decide)) ?_
      refine e_gf (c := 2) (j := 1) f_48_35 (by decide) (by decide) hq3 ?_
      refine e_if f_48_38 (fun hc => ?_) (fun hc => ?_)
      · have hc := x_cct_eq hc
        rw [if_pos hc] at hV
        refine e_aload f_48_49 rfl (by decide) ?_
        refine e_iconst (c := 1) f_48_50 (by decide) ?_
        obtain ⟨P5, hP5, hV⟩ := hV
        refine e_vi (n := 2) (A := [.ref 8, .int 1]) (R := []) f_48_51 na_45 rfl rfl (Nat.le_of_ble_eq_true rfl) (Nat.le_of_ble_eq_true rfl) (by rw [ml_45]; exact Nat.le_of_ble_eq_true rfl) rfl (by rw [cy_45]; decide) (by rw [cy_45]; exact (by decide : x_tg 8 = 5)) hP5 (fun v5 S5 hp5 => ?_)
        have hV := hV v5 S5 hp5
        exact e_ireturn f_48_54 rt_48 rfl hV
      · have hc := x_ccf_eq hc
        rw [if_neg hc] at hV
        refine e_aload f_48_41 rfl (x_n7 hq4 (by decide)) ?_
        refine e_gf (c := 2) (j := 1) f_48_43 (by decide) (by decide) hq4 ?_
        refine e_if f_48_46 (fun hc => ?_) (fun hc => ?_)
        · have hc := x_cct_ne hc
          rw [if_neg hc] at hV
          refine e_aload f_48_55 rfl (x_n7 hq3 (by decide)) ?_
          refine e_gf (c := 2) (j := 2) f_48_57 (by decide) (by decide) hq3 ?_
          refine e_aload f_48_60 rfl (x_n7 hq4 (by decide)) ?_
          refine e_gf (c := 2) (j := 2) f_48_62 (by decide) (by decide) hq4 ?_
          refine e_icmp f_48_65 (fun hc => ?_) (fun hc => ?_)
          · have hc := x_cct_eq hc
            rw [if_pos hc] at hV
            refine e_aload f_48_74 rfl (x_n7 hq3 (by decide)) ?_
            refine e_iload f_48_76 rfl ?_
            refine e_iload f_48_77 rfl ?_
            obtain ⟨P6, hP6, hV⟩ := hV
            refine e_vi (n := 3) (A := [.ref (x_rr 9 (Int32.toNatClampNeg a1)), .int a2, .int a5]) (R := []) f_48_79 na_25 rfl rfl (Nat.le_of_ble_eq_true rfl) (Nat.le_of_ble_eq_true rfl) (by rw [ml_25]; exact Nat.le_of_ble_eq_true rfl) rfl (by rw [cy_25]; decide) (by rw [cy_25]; exact hq3) hP6 (fun v6 S6 hp6 => ?_)
            have hV := hV v6 S6 hp6
            refine e_if f_48_82 (fun hc => ?_) (fun hc => ?_)
            · have hc := x_cct_eq hc
              rw [if_pos hc] at hV
              refine e_aload f_48_97 rfl (by decide) ?_
              refine e_iconst (c := 2) f_48_98 (by decide) ?_
              obtain ⟨P7, hP7, hV⟩ := hV
              refine e_vi (n := 2) (A := [.ref 8, .int 2]) (R := []) f_48_99 na_45 rfl rfl (Nat.le_of_ble_eq_true rfl) (Nat.le_of_ble_eq_true rfl) (by rw [ml_45]; exact Nat.le_of_ble_eq_true rfl) rfl (by rw [cy_45]; decide) (by rw [cy_45]; exact (by decide : x_tg 8 = 5)) hP7 (fun v7 S7 hp7 => ?_)
              have hV := hV v7 S7 hp7
              exact e_ireturn f_48_102 rt_48 rfl hV
            · have hc := x_ccf_eq hc
              rw [if_neg hc] at hV
              refine e_aload f_48_85 rfl (x_n7 hq4 (by decide)) ?_
              refine e_iload f_48_87 rfl ?_
              refine e_iload f_48_89 rfl ?_
              obtain ⟨P8, hP8, hV⟩ := hV
              refine e_vi (n := 3) (A := [.ref (x_rr 9 (Int32.toNatClampNeg a3)), .int a4, .int a5]) (R := []) f_48_91 na_25 rfl rfl (Nat.le_of_ble_eq_true rfl) (Nat.le_of_ble_eq_true rfl) (by rw [ml_25]; exact Nat.le_of_ble_eq_true rfl) rfl (by rw [cy_25]; decide) (by rw [cy_25]; exact hq4) hP8 (fun v8 S8 hp8 => ?_)
              have hV := hV v8 S8 hp8
              refine e_if f_48_94 (fun hc => ?_) (fun hc => ?_)
              · have hc := x_cct_ne hc
                rw [if_neg hc] at hV
                refine e_aload f_48_103 rfl (x_n7 hq3 (by decide)) ?_
                refine e_gr (c := 2) (j := 0) (r := (x_rr (x_rr 9 (Int32.toNatClampNeg a1)) 0)) f_48_105 (by decide) (by decide) hq3 rfl ?_
                refine e_iload f_48_108 rfl ?_
                refine e_aload f_48_109 rfl (x_n7 hq4 (by decide)) ?_
                refine e_gr (c := 2) (j := 0) (r := (x_rr (x_rr 9 (Int32.toNatClampNeg a3)) 0)) f_48_111 (by decide) (by decide) hq4 rfl ?_
                refine e_iload f_48_114 rfl ?_
                refine e_iload f_48_116 rfl ?_
                obtain ⟨hg, hV⟩ := hV
                refine e_cpn (np := 40) (nq := 40) (a := (Int32.toNatClampNeg a2)) (b := (Int32.toNatClampNeg a4)) (mm := (Int32.toNatClampNeg a5)) f_48_118 (ht_2_0 hq3) (ht_2_0 hq4) (hn_2_0 hq3) (hn_2_0 hq4) (Nat.le_of_ble_eq_true rfl) rfl rfl rfl hg (fun S9 hS9 => ?_)
                have hV := hV S9 hS9
                refine e_aload f_48_121 rfl (by decide) ?_
                refine e_iload f_48_122 rfl ?_
                obtain ⟨P10, hP10, hV⟩ := hV
                refine e_vi (n := 2) (A := [.ref 8, .int a5]) (R := []) f_48_124 na_46 rfl rfl (Nat.le_of_ble_eq_true rfl) (Nat.le_of_ble_eq_true rfl) (by rw [ml_46]; exact Nat.le_of_ble_eq_true rfl) rfl (by rw [cy_46]; decide) (by rw [cy_46]; exact (by decide : x_tg 8 = 5)) hP10 (fun v10 S10 hp10 => ?_)
                have hV := hV v10 S10 hp10
                exact e_ireturn f_48_127 rt_48 rfl hV
              · have hc := x_ccf_ne hc
                rw [if_pos hc] at hV
                refine e_aload f_48_97 rfl (by decide) ?_
                refine e_iconst (c := 2) f_48_98 (by decide) ?_
                obtain ⟨P11, hP11, hV⟩ := hV
                refine e_vi (n := 2) (A := [.ref 8, .int 2]) (R := []) f_48_99 na_45 rfl rfl (Nat.le_of_ble_eq_true rfl) (Nat.le_of_ble_eq_true rfl) (by rw [ml_45]; exact Nat.le_of_ble_eq_true rfl) rfl (by rw [cy_45]; decide) (by rw [cy_45]; exact (by decide : x_tg 8 = 5)) hP11 (fun v11 S11 hp11 => ?_)
                have hV := hV v11 S11 hp11
                exact e_ireturn f_48_102 rt_48 rfl hV
          · have hc := x_ccf_eq hc
            rw [if_neg hc] at hV
            refine e_aload f_48_68 rfl (by decide) ?_
            refine e_iconst (c := 5) f_48_69 (by decide) ?_
            obtain ⟨P12, hP12, hV⟩ := hV
            refine e_vi (n := 2) (A := [.ref 8, .int 5]) (R := []) f_48_70 na_45 rfl rfl (Nat.le_of_ble_eq_true rfl) (Nat.le_of_ble_eq_true rfl) (by rw [ml_45]; exact Nat.le_of_ble_eq_true rfl) rfl (by rw [cy_45]; decide) (by rw [cy_45]; exact (by decide : x_tg 8 = 5)) hP12 (fun v12 S12 hp12 => ?_)
            have hV := hV v12 S12 hp12
            exact e_ireturn f_48_73 rt_48 rfl hV
        · have hc := x_ccf_ne hc
          rw [if_pos hc] at hV
          refine e_aload f_48_49 rfl (by decide) ?_
          refine e_iconst (c := 1) f_48_50 (by decide) ?_
          obtain ⟨P13, hP13, hV⟩ := hV
          refine e_vi (n := 2) (A := [.ref 8, .int 1]) (R := []) f_48_51 na_45 rfl rfl (Nat.le_of_ble_eq_true rfl) (Nat.le_of_ble_eq_true rfl) (by rw [ml_45]; exact Nat.le_of_ble_eq_true rfl) rfl (by rw [cy_45]; decide) (by rw [cy_45]; exact (by decide : x_tg 8 = 5)) hP13 (fun v13 S13 hp13 => ?_)
          have hV := hV v13 S13 hp13
          exact e_ireturn f_48_54 rt_48 rfl hV
    · have hc := x_ccf_ne hc
      rw [if_pos hc] at hV
      refine e_iconst (c := (-1000001)) f_48_14 (by decide) ?_
      exact e_ireturn f_48_16 rt_48 rfl hV
set_option maxRecDepth 20000 in
theorem T_49_0 {xs : List Int32} {d : Nat} {S : x_M} {Q : Option Value → x_M → Prop} {a1 : Int32}  (hV : ∃ P1 : Int32 → x_M → Prop, x_Ci xs d 44 [.int a1] S P1 ∧ ∀ (v1 : Int32) (S1 : x_M), P1 v1 S1 → (if v1 = 0 then (Q (some (.int (-1000001))) S1) else ((x_ib a1 8) ∧ (if (S1 (x_rr 9 (Int32.toNatClampNeg a1)) 1) = 0 then (∃ P5 : Int32 → x_M → Prop, x_Ci xs d 45 [.ref 8, .int 1] S1 P5 ∧ ∀ (v5 : Int32) (S5 : x_M), P5 v5 S5 → (Q (some (.int v5)) S5)) else (∀ S3 : x_M, S3 = x_up S1 (x_rr 9 (Int32.toNatClampNeg a1)) 1 0 → (∃ P4 : Int32 → x_M → Prop, x_Ci xs d 46 [.ref 8, .int (S3 (x_rr 9 (Int32.toNatClampNeg a1)) 3)] S3 P4 ∧ ∀ (v4 : Int32) (S4 : x_M), P4 v4 S4 → (Q (some (.int v4)) S4))))))) : x_E xs (d + 1) 49 0 [.ref 8, .int a1, .null] [] S Q := by
  refine e_iload f_49_0 rfl ?_
  obtain ⟨P1, hP1, hV⟩ := hV
  refine e_si (n := 1) (A := [.int a1]) (R := []) f_49_1 na_44 rfl rfl (Nat.le_of_ble_eq_true rfl) (Nat.le_of_ble_eq_true rfl) (by rw [ml_44]; exact Nat.le_of_ble_eq_true rfl) hP1 (fun v1 S1 hp1 => ?_)
  have hV := hV v1 S1 hp1
  refine e_if f_49_4 (fun hc => ?_) (fun hc => ?_)
  · have hc := x_cct_ne hc
    rw [if_neg hc] at hV
    refine e_aload f_49_10 rfl (by decide) ?_
    refine e_gr (c := 5) (j := 0) (r := 9) f_49_11 (by decide) (by decide) (by decide) (by decide) ?_
    refine e_iload f_49_14 rfl ?_
    obtain ⟨hg, hV⟩ := hV
    refine e_aa (c := 11) (n := 8) f_49_15 (by decide) (by decide) (by decide) hg (fun hq2 => ?_)
    have hq2 : x_tg (x_rr 9 (Int32.toNatClampNeg a1)) = 2 := hq2
    refine e_astore (L' := [.ref 8, .int a1, .ref (x_rr 9 (Int32.toNatClampNeg a1))]) f_49_16 (Nat.le_of_ble_eq_true rfl) (x_n7 hq2 (by decide)) rfl ?_
    refine e_aload f_49_17 rfl (x_n7 hq2 (by decide)) ?_
    refine e_gf (c := 2) (j := 1) f_49_18 (by decide) (by decide) hq2 ?_
    refine e_if f_49_21 (fun hc => ?_) (fun hc => ?_)
    · have hc := x_cct_ne hc
      rw [if_neg hc] at hV
      refine e_aload f_49_30 rfl (x_n7 hq2 (by decide)) ?_
      refine e_iconst (c := 0) f_49_31 (by decide) ?_
      refine e_pfn (c := 2) (j := 1) f_49_32 (by decide) (by decide) hq2 (x_fit_z rfl (by decide)) (fun S3 hS3 => ?_)
      have hV := hV S3 hS3
      refine e_aload f_49_35 rfl (by decide) ?_
      refine e_aload f_49_36 rfl (x_n7 hq2 (by decide)) ?_
      refine e_gf (c := 2) (j := 3) f_49_37 (by decide) (by decide) hq2 ?_
      obtain ⟨P4, hP4, hV⟩ := hV
      refine e_vi (n := 2) (A := [.ref 8, .int (S3 (x_rr 9 (Int32.toNatClampNeg a1)) 3)]) (R := []) f_49_40 na_46 rfl rfl (Nat.le_of_ble_eq_true rfl) (Nat.le_of_ble_eq_true rfl) (by rw [ml_46]; exact Nat.le_of_ble_eq_true rfl) rfl (by rw [cy_46]; decide) (by rw [cy_46]; exact (by decide : x_tg 8 = 5)) hP4 (fun v4 S4 hp4 => ?_)
      have hV := hV v4 S4 hp4
      exact e_ireturn f_49_43 rt_49 rfl hV
    · have hc := x_ccf_ne hc
      rw [if_pos hc] at hV
      refine e_aload f_49_24 rfl (by decide) ?_
      refine e_iconst (c := 1) f_49_25 (by decide) ?_
      obtain ⟨P5, hP5, hV⟩ := hV
      refine e_vi (n := 2) (A := [.ref 8, .int 1]) (R := []) f_49_26 na_45 rfl rfl (Nat.le_of_ble_eq_true rfl) (Nat.le_of_ble_eq_true rfl) (by rw [ml_45]; exact Nat.le_of_ble_eq_true rfl) rfl (by rw [cy_45]; decide) (by rw [cy_45]; exact (by decide : x_tg 8 = 5)) hP5 (fun v5 S5 hp5 => ?_)
      have hV := hV v5 S5 hp5
      exact e_ireturn f_49_29 rt_49 rfl hV
  · have hc := x_ccf_ne hc
    rw [if_pos hc] at hV
    refine e_iconst (c := (-1000001)) f_49_7 (by decide) ?_
    exact e_ireturn f_49_9 rt_49 rfl hV
set_option maxRecDepth 20000 in
theorem T_50_0 {xs : List Int32} {d : Nat} {S : x_M} {Q : Option Value → x_M → Prop} {a1 : Int64} {a3 : Int32}  (hV : if a3 < 1 then (Q (some (.int (-1000001))) S) else (if a3 ≤ 8 then (if (S 10 1) ≤ (400 - a3) then (x_E xs (d + 1) 50 37 [.ref 8, .long a1, .null, .int a3, .int (a3 - 1)] [] S Q) else (Q (some (.int (-1000003))) S)) else (Q (some (.int (-1000001))) S))) : x_E xs (d + 1) 50 0 [.ref 8, .long a1, .null, .int a3, .null] [] S Q := by
  refine e_iload f_50_0 rfl ?_
  refine e_iconst (c := 1) f_50_1 (by decide) ?_
  refine e_icmp f_50_2 (fun hc => ?_) (fun hc => ?_)
  · have hc := x_cct_lt hc
    rw [if_pos hc] at hV
    refine e_iconst (c := (-1000001)) f_50_11 (by decide) ?_
    exact e_ireturn f_50_13 rt_50 rfl hV
  · have hc := x_ccf_lt hc
    rw [if_neg hc] at hV
    refine e_iload f_50_5 rfl ?_
    refine e_iconst (c := 8) f_50_6 (by decide) ?_
    refine e_icmp f_50_8 (fun hc => ?_) (fun hc => ?_)
    · have hc := x_cct_le hc
      rw [if_pos hc] at hV
      refine e_aload f_50_14 rfl (by decide) ?_
      refine e_gr (c := 5) (j := 1) (r := 10) f_50_15 (by decide) (by decide) (by decide) (by decide) ?_
      refine e_gf (c := 3) (j := 1) f_50_18 (by decide) (by decide) (by decide) ?_
      refine e_iconst (c := 400) f_50_21 (by decide) ?_
      refine e_iload f_50_24 rfl ?_
      refine e_isub f_50_25 ?_
      refine e_icmp f_50_26 (fun hc => ?_) (fun hc => ?_)
      · have hc := x_cct_le hc
        rw [if_pos hc] at hV
        refine e_iload f_50_32 rfl ?_
        refine e_iconst (c := 1) f_50_33 (by decide) ?_
        refine e_isub f_50_34 ?_
        refine e_istore (L' := [.ref 8, .long a1, .null, .int a3, .int (a3 - 1)]) f_50_35 (Nat.le_of_ble_eq_true rfl) rfl ?_
        exact hV
      · have hc := x_ccf_le hc
        rw [if_neg hc] at hV
        refine e_iconst (c := (-1000003)) f_50_29 (by decide) ?_
        exact e_ireturn f_50_31 rt_50 rfl hV
    · have hc := x_ccf_le hc
      rw [if_neg hc] at hV
      refine e_iconst (c := (-1000001)) f_50_11 (by decide) ?_
      exact e_ireturn f_50_13 rt_50 rfl hV
set_option maxRecDepth 20000 in
theorem T_50_37 {xs : List Int32} {d : Nat} {S : x_M} {Q : Option Value → x_M → Prop} {a1 : Int64} {a3 : Int32} {a4 : Int32}  (hV : if a4 < 0 then (Q (some (.int (S 10 1))) S) else (∃ P1 : x_M → Prop, x_Cv xs d 29 [.ref 10, .int ((Int64.toInt32 (a1 >>> ((Int32.toInt64 (8 * a4)) &&& 63))) &&& 255)] S P1 ∧ ∀ (S1 : x_M), P1 S1 → (x_E xs (d + 1) 50 37 [.ref 8, .long a1, .null, .int a3, .int (a4 + (-1))] [] S1 Q))) : x_E xs (d + 1) 50 37 [.ref 8, .long a1, .null, .int a3, .int a4] [] S Q := by
  refine e_iload f_50_37 rfl ?_
  refine e_if f_50_39 (fun hc => ?_) (fun hc => ?_)
  · have hc := x_cct_lt hc
    rw [if_pos hc] at hV
    refine e_aload f_50_67 rfl (by decide) ?_
    refine e_gr (c := 5) (j := 1) (r := 10) f_50_68 (by decide) (by decide) (by decide) (by decide) ?_
    refine e_gf (c := 3) (j := 1) f_50_71 (by decide) (by decide) (by decide) ?_
    exact e_ireturn f_50_74 rt_50 rfl hV
  · have hc := x_ccf_lt hc
    rw [if_neg hc] at hV
    refine e_aload f_50_42 rfl (by decide) ?_
    refine e_gr (c := 5) (j := 1) (r := 10) f_50_43 (by decide) (by decide) (by decide) (by decide) ?_
    refine e_lload f_50_46 rfl ?_
    refine e_iconst (c := 8) f_50_47 (by decide) ?_
    refine e_iload f_50_49 rfl ?_
    refine e_imul f_50_51 ?_
    refine e_lshr f_50_52 ?_
    refine e_l2i f_50_53 ?_
    refine e_iconst (c := 255) f_50_54 (by decide) ?_
    refine e_iand f_50_57 ?_
    obtain ⟨P1, hP1, hV⟩ := hV
    refine e_vv (n := 2) (A := [.ref 10, .int ((Int64.toInt32 (a1 >>> ((Int32.toInt64 (8 * a4)) &&& 63))) &&& 255)]) (R := []) f_50_58 na_29 rfl rfl (Nat.le_of_ble_eq_true rfl) (Nat.le_of_ble_eq_true rfl) (by rw [ml_29]; exact Nat.le_of_ble_eq_true rfl) rfl (by rw [cy_29]; decide) (by rw [cy_29]; exact (by decide : x_tg 10 = 3)) hP1 (fun S1 hp1 => ?_)
    have hV := hV S1 hp1
    refine e_inc (c := (-1)) (L' := [.ref 8, .long a1, .null, .int a3, .int (a4 + (-1))]) f_50_61 rfl (by decide) rfl ?_
    refine e_goto f_50_64 ?_
    exact hV
set_option maxRecDepth 20000 in
theorem T_51_0 {xs : List Int32} {d : Nat} {S : x_M} {Q : Option Value → x_M → Prop}   (hV : ∃ P1 : Int32 → x_M → Prop, x_Ci xs d 52 [.ref 10, .ref 17] S P1 ∧ ∀ (v1 : Int32) (S1 : x_M), P1 v1 S1 → (∀ S2 : x_M, S2 = x_up S1 10 1 0 → (if v1 = 0 then (∃ P3 : x_M → Prop, x_Cv xs d 5 [.ref 17] S2 P3 ∧ ∀ (S3 : x_M), P3 S3 → (∃ P4 : x_M → Prop, x_Cv xs d 7 [.ref 12, .ref 17] S3 P4 ∧ ∀ (S4 : x_M), P4 S4 → (Q (some (.int (S4 12 5))) S4))) else (∀ S5 : x_M, S5 = x_up S2 8 8 v1 → (Q (some (.int ((-1000100) - (S1 10 3)))) S5))))) : x_E xs (d + 1) 51 0 [.ref 8, .null, .null] [] S Q := by
  refine e_aload f_51_0 rfl (by decide) ?_
  refine e_gr (c := 5) (j := 1) (r := 10) f_51_1 (by decide) (by decide) (by decide) (by decide) ?_
  refine e_aload f_51_4 rfl (by decide) ?_
  refine e_gr (c := 5) (j := 3) (r := 17) f_51_5 (by decide) (by decide) (by decide) (by decide) ?_
  obtain ⟨P1, hP1, hV⟩ := hV
  refine e_si (n := 2) (A := [.ref 10, .ref 17]) (R := []) f_51_8 na_52 rfl rfl (Nat.le_of_ble_eq_true rfl) (Nat.le_of_ble_eq_true rfl) (by rw [ml_52]; exact Nat.le_of_ble_eq_true rfl) hP1 (fun v1 S1 hp1 => ?_)
  have hV := hV v1 S1 hp1
  refine e_istore (L' := [.ref 8, .int v1, .null]) f_51_11 (Nat.le_of_ble_eq_true rfl) rfl ?_
  refine e_aload f_51_12 rfl (by decide) ?_
  refine e_gr (c := 5) (j := 1) (r := 10) f_51_13 (by decide) (by decide) (by decide) (by decide) ?_
  refine e_gf (c := 3) (j := 3) f_51_16 (by decide) (by decide) (by decide) ?_
  refine e_istore (L' := [.ref 8, .int v1, .int (S1 10 3)]) f_51_19 (Nat.le_of_ble_eq_true rfl) rfl ?_
  refine e_aload f_51_20 rfl (by decide) ?_
  refine e_gr (c := 5) (j := 1) (r := 10) f_51_21 (by decide) (by decide) (by decide) (by decide) ?_
  refine e_iconst (c := 0) f_51_24 (by decide) ?_
  refine e_pfn (c := 3) (j := 1) f_51_25 (by decide) (by decide) (by decide) (x_fit_i rfl) (fun S2 hS2 => ?_)
  have hV := hV S2 hS2
  refine e_iload f_51_28 rfl ?_
  refine e_if f_51_29 (fun hc => ?_) (fun hc => ?_)
  · have hc := x_cct_eq hc
    rw [if_pos hc] at hV
    refine e_aload f_51_42 rfl (by decide) ?_
    refine e_gr (c := 5) (j := 3) (r := 17) f_51_43 (by decide) (by decide) (by decide) (by decide) ?_
    obtain ⟨P3, hP3, hV⟩ := hV
    refine e_vv (n := 1) (A := [.ref 17]) (R := []) f_51_46 na_5 rfl rfl (Nat.le_of_ble_eq_true rfl) (Nat.le_of_ble_eq_true rfl) (by rw [ml_5]; exact Nat.le_of_ble_eq_true rfl) rfl (by rw [cy_5]; decide) (by rw [cy_5]; exact (by decide : x_tg 17 = 0)) hP3 (fun S3 hp3 => ?_)
    have hV := hV S3 hp3
    refine e_aload f_51_49 rfl (by decide) ?_
    refine e_gr (c := 5) (j := 2) (r := 12) f_51_50 (by decide) (by decide) (by decide) (by decide) ?_
    refine e_aload f_51_53 rfl (by decide) ?_
    refine e_gr (c := 5) (j := 3) (r := 17) f_51_54 (by decide) (by decide) (by decide) (by decide) ?_
    obtain ⟨P4, hP4, hV⟩ := hV
    refine e_vv (n := 2) (A := [.ref 12, .ref 17]) (R := []) f_51_57 na_7 rfl rfl (Nat.le_of_ble_eq_true rfl) (Nat.le_of_ble_eq_true rfl) (by rw [ml_7]; exact Nat.le_of_ble_eq_true rfl) rfl (by rw [cy_7]; decide) (by rw [cy_7]; exact (by decide : x_tg 12 = 0)) hP4 (fun S4 hp4 => ?_)
    have hV := hV S4 hp4
    refine e_aload f_51_60 rfl (by decide) ?_
    refine e_gr (c := 5) (j := 2) (r := 12) f_51_61 (by decide) (by decide) (by decide) (by decide) ?_
    refine e_gf (c := 0) (j := 5) f_51_64 (by decide) (by decide) (by decide) ?_
    exact e_ireturn f_51_67 rt_51 rfl hV
  · have hc := x_ccf_eq hc
    rw [if_neg hc] at hV
    refine e_aload f_51_32 rfl (by decide) ?_
    refine e_iload f_51_33 rfl ?_
    refine e_pfn (c := 5) (j := 8) f_51_34 (by decide) (by decide) (by decide) (x_fit_i rfl) (fun S5 hS5 => ?_)
    have hV := hV S5 hS5
    refine e_iconst (c := (-1000100)) f_51_37 (by decide) ?_
    refine e_iload f_51_39 rfl ?_
    refine e_isub f_51_40 ?_
    exact e_ireturn f_51_41 rt_51 rfl hV
set_option maxRecDepth 20000 in
theorem T_52_0 {xs : List Int32} {d : Nat} {S : x_M} {Q : Option Value → x_M → Prop} {a1 : Nat} (ha1 : x_tg a1 = 0) (hV : ∃ P1 : x_M → Prop, x_Cv xs d 1 [.ref a1] S P1 ∧ ∀ (S1 : x_M), P1 S1 → (∃ P2 : x_M → Prop, x_Cv xs d 30 [.ref 10] S1 P2 ∧ ∀ (S2 : x_M), P2 S2 → (∃ P3 : Int32 → x_M → Prop, x_Ci xs d 53 [.ref 10, .ref a1] S2 P3 ∧ ∀ (v3 : Int32) (S3 : x_M), P3 v3 S3 → (x_E xs (d + 1) 52 16 [.ref 10, .ref a1, .int v3, .int 0] [] S3 Q)))) : x_E xs (d + 1) 52 0 [.ref 10, .ref a1, .null, .null] [] S Q := by
  refine e_aload f_52_0 rfl (x_n7 ha1 (by decide)) ?_
  obtain ⟨P1, hP1, hV⟩ := hV
  refine e_vv (n := 1) (A := [.ref a1]) (R := []) f_52_1 na_1 rfl rfl (Nat.le_of_ble_eq_true rfl) (Nat.le_of_ble_eq_true rfl) (by rw [ml_1]; exact Nat.le_of_ble_eq_true rfl) rfl (by rw [cy_1]; decide) (by rw [cy_1]; exact ha1) hP1 (fun S1 hp1 => ?_)
  have hV := hV S1 hp1
  refine e_aload f_52_4 rfl (by decide) ?_
  obtain ⟨P2, hP2, hV⟩ := hV
  refine e_vv (n := 1) (A := [.ref 10]) (R := []) f_52_5 na_30 rfl rfl (Nat.le_of_ble_eq_true rfl) (Nat.le_of_ble_eq_true rfl) (by rw [ml_30]; exact Nat.le_of_ble_eq_true rfl) rfl (by rw [cy_30]; decide) (by rw [cy_30]; exact (by decide : x_tg 10 = 3)) hP2 (fun S2 hp2 => ?_)
  have hV := hV S2 hp2
  refine e_aload f_52_8 rfl (by decide) ?_
  refine e_aload f_52_9 rfl (x_n7 ha1 (by decide)) ?_
  obtain ⟨P3, hP3, hV⟩ := hV
  refine e_si (n := 2) (A := [.ref 10, .ref a1]) (R := []) f_52_10 na_53 rfl rfl (Nat.le_of_ble_eq_true rfl) (Nat.le_of_ble_eq_true rfl) (by rw [ml_53]; exact Nat.le_of_ble_eq_true rfl) hP3 (fun v3 S3 hp3 => ?_)
  have hV := hV v3 S3 hp3
  refine e_istore (L' := [.ref 10, .ref a1, .int v3, .null]) f_52_13 (Nat.le_of_ble_eq_true rfl) rfl ?_
  refine e_iconst (c := 0) f_52_14 (by decide) ?_
  refine e_istore (L' := [.ref 10, .ref a1, .int v3, .int 0]) f_52_15 (Nat.le_of_ble_eq_true rfl) rfl ?_
  exact hV
set_option maxRecDepth 20000 in
theorem T_52_16 {xs : List Int32} {d : Nat} {S : x_M} {Q : Option Value → x_M → Prop} {a1 : Nat} {a2 : Int32} {a3 : Int32} (ha1 : x_tg a1 = 0) (hV : if a2 = 0 then (if (14 : Int32) < a3 then (Q (some (.int a2)) S) else (if a3 ≤ 0 then (∃ P1 : Int32 → x_M → Prop, x_Ci xs d 56 [.ref 10, .ref a1] S P1 ∧ ∀ (v1 : Int32) (S1 : x_M), P1 v1 S1 → (x_E xs (d + 1) 52 16 [.ref 10, .ref a1, .int v1, .int (a3 + 1)] [] S1 Q)) else (if (S 10 2) = 0 then (Q (some (.int 0)) S) else (∃ P2 : Int32 → x_M → Prop, x_Ci xs d 56 [.ref 10, .ref a1] S P2 ∧ ∀ (v2 : Int32) (S2 : x_M), P2 v2 S2 → (x_E xs (d + 1) 52 16 [.ref 10, .ref a1, .int v2, .int (a3 + 1)] [] S2 Q))))) else (Q (some (.int a2)) S)) : x_E xs (d + 1) 52 16 [.ref 10, .ref a1, .int a2, .int a3] [] S Q := by
  refine e_iload f_52_16 rfl ?_
  refine e_if f_52_17 (fun hc => ?_) (fun hc => ?_)
  · have hc := x_cct_ne hc
    rw [if_neg hc] at hV
    refine e_iload f_52_51 rfl ?_
    exact e_ireturn f_52_52 rt_52 rfl hV
  · have hc := x_ccf_ne hc
    rw [if_pos hc] at hV
    refine e_iload f_52_20 rfl ?_
    refine e_iconst (c := 14) f_52_21 (by decide) ?_
    refine e_icmp f_52_23 (fun hc => ?_) (fun hc => ?_)
    · have hc := x_cct_gt hc
      rw [if_pos hc] at hV
      refine e_iload f_52_51 rfl ?_
      exact e_ireturn f_52_52 rt_52 rfl hV
    · have hc := x_ccf_gt hc
      rw [if_neg hc] at hV
      refine e_iload f_52_26 rfl ?_
      refine e_if f_52_27 (fun hc => ?_) (fun hc => ?_)
      · have hc := x_cct_le hc
        rw [if_pos hc] at hV
        refine e_aload f_52_39 rfl (by decide) ?_
        refine e_aload f_52_40 rfl (x_n7 ha1 (by decide)) ?_
        obtain ⟨P1, hP1, hV⟩ := hV
        refine e_si (n := 2) (A := [.ref 10, .ref a1]) (R := []) f_52_41 na_56 rfl rfl (Nat.le_of_ble_eq_true rfl) (Nat.le_of_ble_eq_true rfl) (by rw [ml_56]; exact Nat.le_of_ble_eq_true rfl) hP1 (fun v1 S1 hp1 => ?_)
        have hV := hV v1 S1 hp1
        refine e_istore (L' := [.ref 10, .ref a1, .int v1, .int a3]) f_52_44 (Nat.le_of_ble_eq_true rfl) rfl ?_
        refine e_inc (c := 1) (L' := [.ref 10, .ref a1, .int v1, .int (a3 + 1)]) f_52_45 rfl (by decide) rfl ?_
        refine e_goto f_52_48 ?_
        exact hV
      · have hc := x_ccf_le hc
        rw [if_neg hc] at hV
        refine e_aload f_52_30 rfl (by decide) ?_
        refine e_gf (c := 3) (j := 2) f_52_31 (by decide) (by decide) (by decide) ?_
        refine e_if f_52_34 (fun hc => ?_) (fun hc => ?_)
        · have hc := x_cct_ne hc
          rw [if_neg hc] at hV
          refine e_aload f_52_39 rfl (by decide) ?_
          refine e_aload f_52_40 rfl (x_n7 ha1 (by decide)) ?_
          obtain ⟨P2, hP2, hV⟩ := hV
          refine e_si (n := 2) (A := [.ref 10, .ref a1]) (R := []) f_52_41 na_56 rfl rfl (Nat.le_of_ble_eq_true rfl) (Nat.le_of_ble_eq_true rfl) (by rw [ml_56]; exact Nat.le_of_ble_eq_true rfl) hP2 (fun v2 S2 hp2 => ?_)
          have hV := hV v2 S2 hp2
          refine e_istore (L' := [.ref 10, .ref a1, .int v2, .int a3]) f_52_44 (Nat.le_of_ble_eq_true rfl) rfl ?_
          refine e_inc (c := 1) (L' := [.ref 10, .ref a1, .int v2, .int (a3 + 1)]) f_52_45 rfl (by decide) rfl ?_
          refine e_goto f_52_48 ?_
          exact hV
        · have hc := x_ccf_ne hc
          rw [if_pos hc] at hV
          refine e_iconst (c := 0) f_52_37 (by decide) ?_
          exact e_ireturn f_52_38 rt_52 rfl hV
set_option maxRecDepth 20000 in
theorem T_53_0 {xs : List Int32} {d : Nat} {S : x_M} {Q : Option Value → x_M → Prop} {a1 : Nat} (ha1 : x_tg a1 = 0) (hV : ∃ P1 : Int32 → x_M → Prop, x_Ci xs d 38 [.ref 10, .ref 3] S P1 ∧ ∀ (v1 : Int32) (S1 : x_M), P1 v1 S1 → (if v1 = 0 then (Q (some (.int 1)) S1) else (∃ P2 : x_M → Prop, x_Cv xs d 31 [.ref 10] S1 P2 ∧ ∀ (S2 : x_M), P2 S2 → (x_E xs (d + 1) 53 18 [.ref 10, .ref a1, .int 0, .null] [] S2 Q)))) : x_E xs (d + 1) 53 0 [.ref 10, .ref a1, .null, .null] [] S Q := by
  refine e_aload f_53_0 rfl (by decide) ?_
  refine e_ldc f_53_1 ?_
  obtain ⟨P1, hP1, hV⟩ := hV
  refine e_vi (n := 2) (A := [.ref 10, .ref 3]) (R := []) f_53_4 na_38 rfl rfl (Nat.le_of_ble_eq_true rfl) (Nat.le_of_ble_eq_true rfl) (by rw [ml_38]; exact Nat.le_of_ble_eq_true rfl) rfl (by rw [cy_38]; decide) (by rw [cy_38]; exact (by decide : x_tg 10 = 3)) hP1 (fun v1 S1 hp1 => ?_)
  have hV := hV v1 S1 hp1
  refine e_if f_53_7 (fun hc => ?_) (fun hc => ?_)
  · have hc := x_cct_ne hc
    rw [if_neg hc] at hV
    refine e_aload f_53_12 rfl (by decide) ?_
    obtain ⟨P2, hP2, hV⟩ := hV
    refine e_vv (n := 1) (A := [.ref 10]) (R := []) f_53_13 na_31 rfl rfl (Nat.le_of_ble_eq_true rfl) (Nat.le_of_ble_eq_true rfl) (by rw [ml_31]; exact Nat.le_of_ble_eq_true rfl) rfl (by rw [cy_31]; decide) (by rw [cy_31]; exact (by decide : x_tg 10 = 3)) hP2 (fun S2 hp2 => ?_)
    have hV := hV S2 hp2
    refine e_iconst (c := 0) f_53_16 (by decide) ?_
    refine e_istore (L' := [.ref 10, .ref a1, .int 0, .null]) f_53_17 (Nat.le_of_ble_eq_true rfl) rfl ?_
    exact hV
  · have hc := x_ccf_ne hc
    rw [if_pos hc] at hV
    refine e_iconst (c := 1) f_53_10 (by decide) ?_
    exact e_ireturn f_53_11 rt_53 rfl hV
set_option maxRecDepth 20000 in
theorem T_53_18 {xs : List Int32} {d : Nat} {S : x_M} {Q : Option Value → x_M → Prop} {a1 : Nat} {a2 : Int32} {a3 : Value} (ha1 : x_tg a1 = 0) (hV : if (9 : Int32) ≤ a2 then (∃ P1 : Int32 → x_M → Prop, x_Ci xs d 55 [.ref 10] S P1 ∧ ∀ (v1 : Int32) (S1 : x_M), P1 v1 S1 → (Q (some (.int v1)) S1)) else (∃ P2 : Int32 → x_M → Prop, x_Ci xs d 54 [.ref 10, .int 99] S P2 ∧ ∀ (v2 : Int32) (S2 : x_M), P2 v2 S2 → (if v2 = 0 then ((x_ib a2 9) ∧ (∀ S3 : x_M, S3 = x_up S2 (x_rr a1 0) (Int32.toNatClampNeg a2) (S2 10 5) → (∃ P4 : x_M → Prop, x_Cv xs d 31 [.ref 10] S3 P4 ∧ ∀ (S4 : x_M), P4 S4 → (x_E xs (d + 1) 53 18 [.ref 10, .ref a1, .int (a2 + 1), .int v2] [] S4 Q)))) else (Q (some (.int v2)) S2)))) : x_E xs (d + 1) 53 18 [.ref 10, .ref a1, .int a2, a3] [] S Q := by
  refine e_iload f_53_18 rfl ?_
  refine e_iconst (c := 9) f_53_19 (by decide) ?_
  refine e_icmp f_53_21 (fun hc => ?_) (fun hc => ?_)
  · have hc := x_cct_ge hc
    rw [if_pos hc] at hV
    refine e_aload f_53_57 rfl (by decide) ?_
    obtain ⟨P1, hP1, hV⟩ := hV
    refine e_si (n := 1) (A := [.ref 10]) (R := []) f_53_58 na_55 rfl rfl (Nat.le_of_ble_eq_true rfl) (Nat.le_of_ble_eq_true rfl) (by rw [ml_55]; exact Nat.le_of_ble_eq_true rfl) hP1 (fun v1 S1 hp1 => ?_)
    have hV := hV v1 S1 hp1
    exact e_ireturn f_53_61 rt_53 rfl hV
  · have hc := x_ccf_ge hc
    rw [if_neg hc] at hV
    refine e_aload f_53_24 rfl (by decide) ?_
    refine e_iconst (c := 99) f_53_25 (by decide) ?_
    obtain ⟨P2, hP2, hV⟩ := hV
    refine e_si (n := 2) (A := [.ref 10, .int 99]) (R := []) f_53_27 na_54 rfl rfl (Nat.le_of_ble_eq_true rfl) (Nat.le_of_ble_eq_true rfl) (by rw [ml_54]; exact Nat.le_of_ble_eq_true rfl) hP2 (fun v2 S2 hp2 => ?_)
    have hV := hV v2 S2 hp2
    refine e_istore (L' := [.ref 10, .ref a1, .int a2, .int v2]) f_53_30 (Nat.le_of_ble_eq_true rfl) rfl ?_
    refine e_iload f_53_31 rfl ?_
    refine e_if f_53_32 (fun hc => ?_) (fun hc => ?_)
    · have hc := x_cct_eq hc
      rw [if_pos hc] at hV
      refine e_aload f_53_37 rfl (x_n7 ha1 (by decide)) ?_
      refine e_gr (c := 0) (j := 0) (r := (x_rr a1 0)) f_53_38 (by decide) (by decide) ha1 rfl ?_
      refine e_iload f_53_41 rfl ?_
      refine e_aload f_53_42 rfl (by decide) ?_
      refine e_gf (c := 3) (j := 5) f_53_43 (by decide) (by decide) (by decide) ?_
      obtain ⟨hg, hV⟩ := hV
      refine e_isn (n := 9) f_53_46 (ht_0_0 ha1) (hn_0_0 ha1) hg (fun S3 hS3 => ?_)
      have hV := hV S3 hS3
      refine e_aload f_53_47 rfl (by decide) ?_
      obtain ⟨P4, hP4, hV⟩ := hV
      refine e_vv (n := 1) (A := [.ref 10]) (R := []) f_53_48 na_31 rfl rfl (Nat.le_of_ble_eq_true rfl) (Nat.le_of_ble_eq_true rfl) (by rw [ml_31]; exact Nat.le_of_ble_eq_true rfl) rfl (by rw [cy_31]; decide) (by rw [cy_31]; exact (by decide : x_tg 10 = 3)) hP4 (fun S4 hp4 => ?_)
      have hV := hV S4 hp4
      refine e_inc (c := 1) (L' := [.ref 10, .ref a1, .int (a2 + 1), .int v2]) f_53_51 rfl (by decide) rfl ?_
      refine e_goto f_53_54 ?_
      exact hV
    · have hc := x_ccf_eq hc
      rw [if_neg hc] at hV
      refine e_iload f_53_35 rfl ?_
      exact e_ireturn f_53_36 rt_53 rfl hV
set_option maxRecDepth 20000 in
theorem T_54_0 {xs : List Int32} {d : Nat} {S : x_M} {Q : Option Value → x_M → Prop} {a1 : Int32}  (hV : if (S 10 2) = 2 then (if (S 10 5) ≤ a1 then (Q (some (.int 0)) S) else (Q (some (.int 2)) S)) else (Q (some (.int 1)) S)) : x_E xs (d + 1) 54 0 [.ref 10, .int a1] [] S Q := by
  refine e_aload f_54_0 rfl (by decide) ?_
  refine e_gf (c := 3) (j := 2) f_54_1 (by decide) (by decide) (by decide) ?_
  refine e_iconst (c := 2) f_54_4 (by decide) ?_
  refine e_icmp f_54_5 (fun hc => ?_) (fun hc => ?_)
  · have hc := x_cct_eq hc
    rw [if_pos hc] at hV
    refine e_aload f_54_10 rfl (by decide) ?_
    refine e_gf (c := 3) (j := 5) f_54_11 (by decide) (by decide) (by decide) ?_
    refine e_iload f_54_14 rfl ?_
    refine e_icmp f_54_15 (fun hc => ?_) (fun hc => ?_)
    · have hc := x_cct_le hc
      rw [if_pos hc] at hV
      refine e_iconst (c := 0) f_54_22 (by decide) ?_
      exact e_ireturn f_54_23 rt_54 rfl hV
    · have hc := x_ccf_le hc
      rw [if_neg hc] at hV
      refine e_iconst (c := 2) f_54_18 (by decide) ?_
      refine e_goto f_54_19 ?_
      exact e_ireturn f_54_23 rt_54 rfl hV
  · have hc := x_ccf_eq hc
    rw [if_neg hc] at hV
    refine e_iconst (c := 1) f_54_8 (by decide) ?_
    exact e_ireturn f_54_9 rt_54 rfl hV
set_option maxRecDepth 20000 in
theorem T_55_0 {xs : List Int32} {d : Nat} {S : x_M} {Q : Option Value → x_M → Prop}   (hV : if (S 10 2) = 3 then (∃ P1 : x_M → Prop, x_Cv xs d 31 [.ref 10] S P1 ∧ ∀ (S1 : x_M), P1 S1 → (Q (some (.int 0)) S1)) else (Q (some (.int 1)) S)) : x_E xs (d + 1) 55 0 [.ref 10] [] S Q := by
  refine e_aload f_55_0 rfl (by decide) ?_
  refine e_gf (c := 3) (j := 2) f_55_1 (by decide) (by decide) (by decide) ?_
  refine e_iconst (c := 3) f_55_4 (by decide) ?_
  refine e_icmp f_55_5 (fun hc => ?_) (fun hc => ?_)
  · have hc := x_cct_eq hc
    rw [if_pos hc] at hV
    refine e_aload f_55_10 rfl (by decide) ?_
    obtain ⟨P1, hP1, hV⟩ := hV
    refine e_vv (n := 1) (A := [.ref 10]) (R := []) f_55_11 na_31 rfl rfl (Nat.le_of_ble_eq_true rfl) (Nat.le_of_ble_eq_true rfl) (by rw [ml_31]; exact Nat.le_of_ble_eq_true rfl) rfl (by rw [cy_31]; decide) (by rw [cy_31]; exact (by decide : x_tg 10 = 3)) hP1 (fun S1 hp1 => ?_)
    have hV := hV S1 hp1
    refine e_iconst (c := 0) f_55_14 (by decide) ?_
    exact e_ireturn f_55_15 rt_55 rfl hV
  · have hc := x_ccf_eq hc
    rw [if_neg hc] at hV
    refine e_iconst (c := 1) f_55_8 (by decide) ?_
    exact e_ireturn f_55_9 rt_55 rfl hV
set_option maxRecDepth 20000 in
theorem T_56_0 {xs : List Int32} {d : Nat} {S : x_M} {Q : Option Value → x_M → Prop} {a1 : Nat} (ha1 : x_tg a1 = 0) (hV : ∃ P1 : Int32 → x_M → Prop, x_Ci xs d 38 [.ref 10, .ref 4] S P1 ∧ ∀ (v1 : Int32) (S1 : x_M), P1 v1 S1 → (if v1 = 0 then (Q (some (.int 1)) S1) else (if (S1 a1 5) < 14 then (∃ P2 : x_M → Prop, x_Cv xs d 31 [.ref 10] S1 P2 ∧ ∀ (S2 : x_M), P2 S2 → (∃ P3 : Int32 → x_M → Prop, x_Ci xs d 39 [.ref 10] S2 P3 ∧ ∀ (v3 : Int32) (S3 : x_M), P3 v3 S3 → (if v3 = (-1000000) then (Q (some (.int 1)) S3) else (∃ P4 : x_M → Prop, x_Cv xs d 31 [.ref 10] S3 P4 ∧ ∀ (S4 : x_M), P4 S4 → (∃ P5 : Int32 → x_M → Prop, x_Ci xs d 54 [.ref 10, .int 1] S4 P5 ∧ ∀ (v5 : Int32) (S5 : x_M), P5 v5 S5 → (if v5 = 0 then (∃ P6 : x_M → Prop, x_Cv xs d 2 [.ref a1, .int v3, .int (S5 10 5)] S5 P6 ∧ ∀ (S6 : x_M), P6 S6 → (∃ P7 : x_M → Prop, x_Cv xs d 31 [.ref 10] S6 P7 ∧ ∀ (S7 : x_M), P7 S7 → (∃ P8 : Int32 → x_M → Prop, x_Ci xs d 55 [.ref 10] S7 P8 ∧ ∀ (v8 : Int32) (S8 : x_M), P8 v8 S8 → (Q (some (.int v8)) S8)))) else (Q (some (.int v5)) S5))))))) else (Q (some (.int 3)) S1)))) : x_E xs (d + 1) 56 0 [.ref 10, .ref a1, .null, .null] [] S Q := by
  refine e_aload f_56_0 rfl (by decide) ?_
  refine e_ldc f_56_1 ?_
  obtain ⟨P1, hP1, hV⟩ := hV
  refine e_vi (n := 2) (A := [.ref 10, .ref 4]) (R := []) f_56_4 na_38 rfl rfl (Nat.le_of_ble_eq_true rfl) (Nat.le_of_ble_eq_true rfl) (by rw [ml_38]; exact Nat.le_of_ble_eq_true rfl) rfl (by rw [cy_38]; decide) (by rw [cy_38]; exact (by decide : x_tg 10 = 3)) hP1 (fun v1 S1 hp1 => ?_)
  have hV := hV v1 S1 hp1
  refine e_if f_56_7 (fun hc => ?_) (fun hc => ?_)
  · have hc := x_cct_ne hc
    rw [if_neg hc] at hV
    refine e_aload f_56_12 rfl (x_n7 ha1 (by decide)) ?_
    refine e_gf (c := 0) (j := 5) f_56_13 (by decide) (by decide) ha1 ?_
    refine e_iconst (c := 14) f_56_16 (by decide) ?_
    refine e_icmp f_56_18 (fun hc => ?_) (fun hc => ?_)
    · have hc := x_cct_lt hc
      rw [if_pos hc] at hV
      refine e_aload f_56_23 rfl (by decide) ?_
      obtain ⟨P2, hP2, hV⟩ := hV
      refine e_vv (n := 1) (A := [.ref 10]) (R := []) f_56_24 na_31 rfl rfl (Nat.le_of_ble_eq_true rfl) (Nat.le_of_ble_eq_true rfl) (by rw [ml_31]; exact Nat.le_of_ble_eq_true rfl) rfl (by rw [cy_31]; decide) (by rw [cy_31]; exact (by decide : x_tg 10 = 3)) hP2 (fun S2 hp2 => ?_)
      have hV := hV S2 hp2
      refine e_aload f_56_27 rfl (by decide) ?_
      obtain ⟨P3, hP3, hV⟩ := hV
      refine e_vi (n := 1) (A := [.ref 10]) (R := []) f_56_28 na_39 rfl rfl (Nat.le_of_ble_eq_true rfl) (Nat.le_of_ble_eq_true rfl) (by rw [ml_39]; exact Nat.le_of_ble_eq_true rfl) rfl (by rw [cy_39]; decide) (by rw [cy_39]; exact (by decide : x_tg 10 = 3)) hP3 (fun v3 S3 hp3 => ?_)
      have hV := hV v3 S3 hp3
      refine e_istore (L' := [.ref 10, .ref a1, .int v3, .null]) f_56_31 (Nat.le_of_ble_eq_true rfl) rfl ?_
      refine e_iload f_56_32 rfl ?_
      refine e_iconst (c := (-1000000)) f_56_33 (by decide) ?_
      refine e_icmp f_56_35 (fun hc => ?_) (fun hc => ?_)
      · have hc := x_cct_ne hc
        rw [if_neg hc] at hV
        refine e_aload f_56_40 rfl (by decide) ?_
        obtain ⟨P4, hP4, hV⟩ := hV
        refine e_vv (n := 1) (A := [.ref 10]) (R := []) f_56_41 na_31 rfl rfl (Nat.le_of_ble_eq_true rfl) (Nat.le_of_ble_eq_true rfl) (by rw [ml_31]; exact Nat.le_of_ble_eq_true rfl) rfl (by rw [cy_31]; decide) (by rw [cy_31]; exact (by decide : x_tg 10 = 3)) hP4 (fun S4 hp4 => ?_)
        have hV := hV S4 hp4
        refine e_aload f_56_44 rfl (by decide) ?_
        refine e_iconst (c := 1) f_56_45 (by decide) ?_
        obtain ⟨P5, hP5, hV⟩ := hV
        refine e_si (n := 2) (A := [.ref 10, .int 1]) (R := []) f_56_46 na_54 rfl rfl (Nat.le_of_ble_eq_true rfl) (Nat.le_of_ble_eq_true rfl) (by rw [ml_54]; exact Nat.le_of_ble_eq_true rfl) hP5 (fun v5 S5 hp5 => ?_)
        have hV := hV v5 S5 hp5
        refine e_istore (L' := [.ref 10, .ref a1, .int v3, .int v5]) f_56_49 (Nat.le_of_ble_eq_true rfl) rfl ?_
        refine e_iload f_56_50 rfl ?_
        refine e_if f_56_51 (fun hc => ?_) (fun hc => ?_)
        · have hc := x_cct_eq hc
          rw [if_pos hc] at hV
          refine e_aload f_56_56 rfl (x_n7 ha1 (by decide)) ?_
          refine e_iload f_56_57 rfl ?_
          refine e_aload f_56_58 rfl (by decide) ?_
          refine e_gf (c := 3) (j := 5) f_56_59 (by decide) (by decide) (by decide) ?_
          obtain ⟨P6, hP6, hV⟩ := hV
          refine e_vv (n := 3) (A := [.ref a1, .int v3, .int (S5 10 5)]) (R := []) f_56_62 na_2 rfl rfl (Nat.le_of_ble_eq_true rfl) (Nat.le_of_ble_eq_true rfl) (by rw [ml_2]; exact Nat.le_of_ble_eq_true rfl) rfl (by rw [cy_2]; decide) (by rw [cy_2]; exact ha1) hP6 (fun S6 hp6 => ?_)
          have hV := hV S6 hp6
          refine e_aload f_56_65 rfl (by decide) ?_
          obtain ⟨P7, hP7, hV⟩ := hV
          refine e_vv (n := 1) (A := [.ref 10]) (R := []) f_56_66 na_31 rfl rfl (Nat.le_of_ble_eq_true rfl) (Nat.le_of_ble_eq_true rfl) (by rw [ml_31]; exact Nat.le_of_ble_eq_true rfl) rfl (by rw [cy_31]; decide) (by rw [cy_31]; exact (by decide : x_tg 10 = 3)) hP7 (fun S7 hp7 => ?_)
          have hV := hV S7 hp7
          refine e_aload f_56_69 rfl (by decide) ?_
          obtain ⟨P8, hP8, hV⟩ := hV
          refine e_si (n := 1) (A := [.ref 10]) (R := []) f_56_70 na_55 rfl rfl (Nat.le_of_ble_eq_true rfl) (Nat.le_of_ble_eq_true rfl) (by rw [ml_55]; exact Nat.le_of_ble_eq_true rfl) hP8 (fun v8 S8 hp8 => ?_)
          have hV := hV v8 S8 hp8
          exact e_ireturn f_56_73 rt_56 rfl hV
        · have hc := x_ccf_eq hc
          rw [if_neg hc] at hV
          refine e_iload f_56_54 rfl ?_
          exact e_ireturn f_56_55 rt_56 rfl hV
      · have hc := x_ccf_ne hc
        rw [if_pos hc] at hV
        refine e_iconst (c := 1) f_56_38 (by decide) ?_
        exact e_ireturn f_56_39 rt_56 rfl hV
    · have hc := x_ccf_lt hc
      rw [if_neg hc] at hV
      refine e_iconst (c := 3) f_56_21 (by decide) ?_
      exact e_ireturn f_56_22 rt_56 rfl hV
  · have hc := x_ccf_ne hc
    rw [if_pos hc] at hV
    refine e_iconst (c := 1) f_56_10 (by decide) ?_
    exact e_ireturn f_56_11 rt_56 rfl hV
set_option maxRecDepth 20000 in
theorem T_57_0 {xs : List Int32} {d : Nat} {S : x_M} {Q : Option Value → x_M → Prop}   (hV : Q (some (.int (S 8 8))) S) : x_E xs (d + 1) 57 0 [.ref 8] [] S Q := by
  refine e_aload f_57_0 rfl (by decide) ?_
  refine e_gf (c := 5) (j := 8) f_57_1 (by decide) (by decide) (by decide) ?_
  exact e_ireturn f_57_4 rt_57 rfl hV
set_option maxRecDepth 20000 in
theorem T_58_0 {xs : List Int32} {d : Nat} {S : x_M} {Q : Option Value → x_M → Prop} {a1 : Int32} {a2 : Int32}  (hV : ∃ P1 : Int32 → x_M → Prop, x_Ci xs d 59 [.ref 8, .int a1, .int a2] S P1 ∧ ∀ (v1 : Int32) (S1 : x_M), P1 v1 S1 → (if v1 = 0 then (Q (some (.int (-1000001))) S1) else (∃ P2 : Int32 → x_M → Prop, x_Ci xs d 8 [.ref 12, .int a1, .int a2] S1 P2 ∧ ∀ (v2 : Int32) (S2 : x_M), P2 v2 S2 → (Q (some (.int v2)) S2)))) : x_E xs (d + 1) 58 0 [.ref 8, .int a1, .int a2] [] S Q := by
  refine e_aload f_58_0 rfl (by decide) ?_
  refine e_iload f_58_1 rfl ?_
  refine e_iload f_58_2 rfl ?_
  obtain ⟨P1, hP1, hV⟩ := hV
  refine e_vi (n := 3) (A := [.ref 8, .int a1, .int a2]) (R := []) f_58_3 na_59 rfl rfl (Nat.le_of_ble_eq_true rfl) (Nat.le_of_ble_eq_true rfl) (by rw [ml_59]; exact Nat.le_of_ble_eq_true rfl) rfl (by rw [cy_59]; decide) (by rw [cy_59]; exact (by decide : x_tg 8 = 5)) hP1 (fun v1 S1 hp1 => ?_)
  have hV := hV v1 S1 hp1
  refine e_if f_58_6 (fun hc => ?_) (fun hc => ?_)
  · have hc := x_cct_eq hc
    rw [if_pos hc] at hV
    refine e_iconst (c := (-1000001)) f_58_21 (by decide) ?_
    exact e_ireturn f_58_23 rt_58 rfl hV
  · have hc := x_ccf_eq hc
    rw [if_neg hc] at hV
    refine e_aload f_58_9 rfl (by decide) ?_
    refine e_gr (c := 5) (j := 2) (r := 12) f_58_10 (by decide) (by decide) (by decide) (by decide) ?_
    refine e_iload f_58_13 rfl ?_
    refine e_iload f_58_14 rfl ?_
    obtain ⟨P2, hP2, hV⟩ := hV
    refine e_vi (n := 3) (A := [.ref 12, .int a1, .int a2]) (R := []) f_58_15 na_8 rfl rfl (Nat.le_of_ble_eq_true rfl) (Nat.le_of_ble_eq_true rfl) (by rw [ml_8]; exact Nat.le_of_ble_eq_true rfl) rfl (by rw [cy_8]; decide) (by rw [cy_8]; exact (by decide : x_tg 12 = 0)) hP2 (fun v2 S2 hp2 => ?_)
    have hV := hV v2 S2 hp2
    refine e_goto f_58_18 ?_
    exact e_ireturn f_58_23 rt_58 rfl hV
set_option maxRecDepth 20000 in
theorem T_59_0 {xs : List Int32} {d : Nat} {S : x_M} {Q : Option Value → x_M → Prop} {a1 : Int32} {a2 : Int32}  (hV : ∃ P1 : Int32 → x_M → Prop, x_Ci xs d 60 [.ref 8, .int a1] S P1 ∧ ∀ (v1 : Int32) (S1 : x_M), P1 v1 S1 → (if v1 = 0 then (Q (some (.int 0)) S1) else (if a2 < 0 then (Q (some (.int 0)) S1) else (if (8 : Int32) ≤ a2 then (Q (some (.int 0)) S1) else (Q (some (.int 1)) S1))))) : x_E xs (d + 1) 59 0 [.ref 8, .int a1, .int a2] [] S Q := by
  refine e_aload f_59_0 rfl (by decide) ?_
  refine e_iload f_59_1 rfl ?_
  obtain ⟨P1, hP1, hV⟩ := hV
  refine e_vi (n := 2) (A := [.ref 8, .int a1]) (R := []) f_59_2 na_60 rfl rfl (Nat.le_of_ble_eq_true rfl) (Nat.le_of_ble_eq_true rfl) (by rw [ml_60]; exact Nat.le_of_ble_eq_true rfl) rfl (by rw [cy_60]; decide) (by rw [cy_60]; exact (by decide : x_tg 8 = 5)) hP1 (fun v1 S1 hp1 => ?_)
  have hV := hV v1 S1 hp1
  refine e_if f_59_5 (fun hc => ?_) (fun hc => ?_)
  · have hc := x_cct_eq hc
    rw [if_pos hc] at hV
    refine e_iconst (c := 0) f_59_22 (by decide) ?_
    exact e_ireturn f_59_23 rt_59 (by decide) hV
  · have hc := x_ccf_eq hc
    rw [if_neg hc] at hV
    refine e_iload f_59_8 rfl ?_
    refine e_if f_59_9 (fun hc => ?_) (fun hc => ?_)
    · have hc := x_cct_lt hc
      rw [if_pos hc] at hV
      refine e_iconst (c := 0) f_59_22 (by decide) ?_
      exact e_ireturn f_59_23 rt_59 (by decide) hV
    · have hc := x_ccf_lt hc
      rw [if_neg hc] at hV
      refine e_iload f_59_12 rfl ?_
      refine e_iconst (c := 8) f_59_13 (by decide) ?_
      refine e_icmp f_59_15 (fun hc => ?_) (fun hc => ?_)
      · have hc := x_cct_ge hc
        rw [if_pos hc] at hV
        refine e_iconst (c := 0) f_59_22 (by decide) ?_
        exact e_ireturn f_59_23 rt_59 (by decide) hV
      · have hc := x_ccf_ge hc
        rw [if_neg hc] at hV
        refine e_iconst (c := 1) f_59_18 (by decide) ?_
        refine e_goto f_59_19 ?_
        exact e_ireturn f_59_23 rt_59 (by decide) hV
set_option maxRecDepth 20000 in
theorem T_60_0 {xs : List Int32} {d : Nat} {S : x_M} {Q : Option Value → x_M → Prop} {a1 : Int32}  (hV : if a1 < 0 then (Q (some (.int 0)) S) else (if (S 12 5) ≤ a1 then (Q (some (.int 0)) S) else (Q (some (.int 1)) S))) : x_E xs (d + 1) 60 0 [.ref 8, .int a1] [] S Q := by
  refine e_iload f_60_0 rfl ?_
  refine e_if f_60_1 (fun hc => ?_) (fun hc => ?_)
  · have hc := x_cct_lt hc
    rw [if_pos hc] at hV
    refine e_iconst (c := 0) f_60_19 (by decide) ?_
    exact e_ireturn f_60_20 rt_60 (by decide) hV
  · have hc := x_ccf_lt hc
    rw [if_neg hc] at hV
    refine e_iload f_60_4 rfl ?_
    refine e_aload f_60_5 rfl (by decide) ?_
    refine e_gr (c := 5) (j := 2) (r := 12) f_60_6 (by decide) (by decide) (by decide) (by decide) ?_
    refine e_gf (c := 0) (j := 5) f_60_9 (by decide) (by decide) (by decide) ?_
    refine e_icmp f_60_12 (fun hc => ?_) (fun hc => ?_)
    · have hc := x_cct_ge hc
      rw [if_pos hc] at hV
      refine e_iconst (c := 0) f_60_19 (by decide) ?_
      exact e_ireturn f_60_20 rt_60 (by decide) hV
    · have hc := x_ccf_ge hc
      rw [if_neg hc] at hV
      refine e_iconst (c := 1) f_60_15 (by decide) ?_
      refine e_goto f_60_16 ?_
      exact e_ireturn f_60_20 rt_60 (by decide) hV
set_option maxRecDepth 20000 in
theorem T_61_0 {xs : List Int32} {d : Nat} {S : x_M} {Q : Option Value → x_M → Prop} {a1 : Int32}  (hV : if (S 12 4) = 0 then (Q (some (.int (-1000002))) S) else (∃ P1 : Int32 → x_M → Prop, x_Ci xs d 62 [.int a1] S P1 ∧ ∀ (v1 : Int32) (S1 : x_M), P1 v1 S1 → (if v1 = 0 then (Q (some (.int (-1000001))) S1) else (∃ P2 : Int32 → x_M → Prop, x_Ci xs d 9 [.ref 12, .int a1] S1 P2 ∧ ∀ (v2 : Int32) (S2 : x_M), P2 v2 S2 → (Q (some (.int v2)) S2))))) : x_E xs (d + 1) 61 0 [.ref 8, .int a1] [] S Q := by
  refine e_aload f_61_0 rfl (by decide) ?_
  refine e_gr (c := 5) (j := 2) (r := 12) f_61_1 (by decide) (by decide) (by decide) (by decide) ?_
  refine e_gf (c := 0) (j := 4) f_61_4 (by decide) (by decide) (by decide) ?_
  refine e_if f_61_7 (fun hc => ?_) (fun hc => ?_)
  · have hc := x_cct_ne hc
    rw [if_neg hc] at hV
    refine e_iload f_61_13 rfl ?_
    obtain ⟨P1, hP1, hV⟩ := hV
    refine e_si (n := 1) (A := [.int a1]) (R := []) f_61_14 na_62 rfl rfl (Nat.le_of_ble_eq_true rfl) (Nat.le_of_ble_eq_true rfl) (by rw [ml_62]; exact Nat.le_of_ble_eq_true rfl) hP1 (fun v1 S1 hp1 => ?_)
    have hV := hV v1 S1 hp1
    refine e_if f_61_17 (fun hc => ?_) (fun hc => ?_)
    · have hc := x_cct_eq hc
      rw [if_pos hc] at hV
      refine e_iconst (c := (-1000001)) f_61_31 (by decide) ?_
      exact e_ireturn f_61_33 rt_61 rfl hV
    · have hc := x_ccf_eq hc
      rw [if_neg hc] at hV
      refine e_aload f_61_20 rfl (by decide) ?_
      refine e_gr (c := 5) (j := 2) (r := 12) f_61_21 (by decide) (by decide) (by decide) (by decide) ?_
      refine e_iload f_61_24 rfl ?_
      obtain ⟨P2, hP2, hV⟩ := hV
      refine e_vi (n := 2) (A := [.ref 12, .int a1]) (R := []) f_61_25 na_9 rfl rfl (Nat.le_of_ble_eq_true rfl) (Nat.le_of_ble_eq_true rfl) (by rw [ml_9]; exact Nat.le_of_ble_eq_true rfl) rfl (by rw [cy_9]; decide) (by rw [cy_9]; exact (by decide : x_tg 12 = 0)) hP2 (fun v2 S2 hp2 => ?_)
      have hV := hV v2 S2 hp2
      refine e_goto f_61_28 ?_
      exact e_ireturn f_61_33 rt_61 rfl hV
  · have hc := x_ccf_ne hc
    rw [if_pos hc] at hV
    refine e_iconst (c := (-1000002)) f_61_10 (by decide) ?_
    exact e_ireturn f_61_12 rt_61 rfl hV
set_option maxRecDepth 20000 in
theorem T_62_0 {xs : List Int32} {d : Nat} {S : x_M} {Q : Option Value → x_M → Prop} {a0 : Int32}  (hV : if a0 < 0 then (Q (some (.int 0)) S) else (if (511 : Int32) < a0 then (Q (some (.int 0)) S) else (Q (some (.int 1)) S))) : x_E xs (d + 1) 62 0 [.int a0] [] S Q := by
  refine e_iload f_62_0 rfl ?_
  refine e_if f_62_1 (fun hc => ?_) (fun hc => ?_)
  · have hc := x_cct_lt hc
    rw [if_pos hc] at hV
    refine e_iconst (c := 0) f_62_15 (by decide) ?_
    exact e_ireturn f_62_16 rt_62 (by decide) hV
  · have hc := x_ccf_lt hc
    rw [if_neg hc] at hV
    refine e_iload f_62_4 rfl ?_
    refine e_iconst (c := 511) f_62_5 (by decide) ?_
    refine e_icmp f_62_8 (fun hc => ?_) (fun hc => ?_)
    · have hc := x_cct_gt hc
      rw [if_pos hc] at hV
      refine e_iconst (c := 0) f_62_15 (by decide) ?_
      exact e_ireturn f_62_16 rt_62 (by decide) hV
    · have hc := x_ccf_gt hc
      rw [if_neg hc] at hV
      refine e_iconst (c := 1) f_62_11 (by decide) ?_
      refine e_goto f_62_12 ?_
      exact e_ireturn f_62_16 rt_62 (by decide) hV
set_option maxRecDepth 20000 in
theorem T_63_0 {xs : List Int32} {d : Nat} {S : x_M} {Q : Option Value → x_M → Prop} {a1 : Int32} {a2 : Int32}  (hV : ∃ P1 : Int32 → x_M → Prop, x_Ci xs d 59 [.ref 8, .int a1, .int a2] S P1 ∧ ∀ (v1 : Int32) (S1 : x_M), P1 v1 S1 → (if v1 = 0 then (Q (some (.int (-1000001))) S1) else (∃ P2 : Int32 → x_M → Prop, x_Ci xs d 10 [.ref 12, .int a1] S1 P2 ∧ ∀ (v2 : Int32) (S2 : x_M), P2 v2 S2 → (if v2 = 0 then (Q (some (.int (-1000002))) S2) else (∃ P3 : Int32 → x_M → Prop, x_Ci xs d 12 [.ref 12, .int a1, .int a2] S2 P3 ∧ ∀ (v3 : Int32) (S3 : x_M), P3 v3 S3 → (Q (some (.int v3)) S3)))))) : x_E xs (d + 1) 63 0 [.ref 8, .int a1, .int a2] [] S Q := by
  refine e_aload f_63_0 rfl (by decide) ?_
  refine e_iload f_63_1 rfl ?_
  refine e_iload f_63_2 rfl ?_
  obtain ⟨P1, hP1, hV⟩ := hV
  refine e_vi (n := 3) (A := [.ref 8, .int a1, .int a2]) (R := []) f_63_3 na_59 rfl rfl (Nat.le_of_ble_eq_true rfl) (Nat.le_of_ble_eq_true rfl) (by rw [ml_59]; exact Nat.le_of_ble_eq_true rfl) rfl (by rw [cy_59]; decide) (by rw [cy_59]; exact (by decide : x_tg 8 = 5)) hP1 (fun v1 S1 hp1 => ?_)
  have hV := hV v1 S1 hp1
  refine e_if f_63_6 (fun hc => ?_) (fun hc => ?_)
  · have hc := x_cct_ne hc
    rw [if_neg hc] at hV
    refine e_aload f_63_12 rfl (by decide) ?_
    refine e_gr (c := 5) (j := 2) (r := 12) f_63_13 (by decide) (by decide) (by decide) (by decide) ?_
    refine e_iload f_63_16 rfl ?_
    obtain ⟨P2, hP2, hV⟩ := hV
    refine e_vi (n := 2) (A := [.ref 12, .int a1]) (R := []) f_63_17 na_10 rfl rfl (Nat.le_of_ble_eq_true rfl) (Nat.le_of_ble_eq_true rfl) (by rw [ml_10]; exact Nat.le_of_ble_eq_true rfl) rfl (by rw [cy_10]; decide) (by rw [cy_10]; exact (by decide : x_tg 12 = 0)) hP2 (fun v2 S2 hp2 => ?_)
    have hV := hV v2 S2 hp2
    refine e_if f_63_20 (fun hc => ?_) (fun hc => ?_)
    · have hc := x_cct_eq hc
      rw [if_pos hc] at hV
      refine e_iconst (c := (-1000002)) f_63_35 (by decide) ?_
      exact e_ireturn f_63_37 rt_63 rfl hV
    · have hc := x_ccf_eq hc
      rw [if_neg hc] at hV
      refine e_aload f_63_23 rfl (by decide) ?_
      refine e_gr (c := 5) (j := 2) (r := 12) f_63_24 (by decide) (by decide) (by decide) (by decide) ?_
      refine e_iload f_63_27 rfl ?_
      refine e_iload f_63_28 rfl ?_
      obtain ⟨P3, hP3, hV⟩ := hV
      refine e_vi (n := 3) (A := [.ref 12, .int a1, .int a2]) (R := []) f_63_29 na_12 rfl rfl (Nat.le_of_ble_eq_true rfl) (Nat.le_of_ble_eq_true rfl) (by rw [ml_12]; exact Nat.le_of_ble_eq_true rfl) rfl (by rw [cy_12]; decide) (by rw [cy_12]; exact (by decide : x_tg 12 = 0)) hP3 (fun v3 S3 hp3 => ?_)
      have hV := hV v3 S3 hp3
      refine e_goto f_63_32 ?_
      exact e_ireturn f_63_37 rt_63 rfl hV
  · have hc := x_ccf_ne hc
    rw [if_pos hc] at hV
    refine e_iconst (c := (-1000001)) f_63_9 (by decide) ?_
    exact e_ireturn f_63_11 rt_63 rfl hV
set_option maxRecDepth 20000 in
theorem T_64_0 {xs : List Int32} {d : Nat} {S : x_M} {Q : Option Value → x_M → Prop} {a1 : Int32} {a2 : Int32} {a3 : Int32}  (hV : if (S 12 4) = 0 then (Q (some (.int (-1000002))) S) else (∃ P1 : Int32 → x_M → Prop, x_Ci xs d 44 [.int a1] S P1 ∧ ∀ (v1 : Int32) (S1 : x_M), P1 v1 S1 → (if v1 = 0 then (Q (some (.int (-1000001))) S1) else (if a3 < 1 then (Q (some (.int (-1000001))) S1) else (if a3 ≤ 14 then ((x_ib a1 8) ∧ (if (S1 (x_rr 9 (Int32.toNatClampNeg a1)) 1) = 0 then (∃ P10 : Int32 → x_M → Prop, x_Ci xs d 45 [.ref 8, .int 1] S1 P10 ∧ ∀ (v10 : Int32) (S10 : x_M), P10 v10 S10 → (Q (some (.int v10)) S10)) else (∃ P3 : Int32 → x_M → Prop, x_Ci xs d 25 [.ref (x_rr 9 (Int32.toNatClampNeg a1)), .int a2, .int a3] S1 P3 ∧ ∀ (v3 : Int32) (S3 : x_M), P3 v3 S3 → (if v3 = 0 then (∃ P9 : Int32 → x_M → Prop, x_Ci xs d 45 [.ref 8, .int 2] S3 P9 ∧ ∀ (v9 : Int32) (S9 : x_M), P9 v9 S9 → (Q (some (.int v9)) S9)) else (∃ P4 : Int32 → x_M → Prop, x_Ci xs d 65 [.ref 8, .ref (x_rr 9 (Int32.toNatClampNeg a1)), .int a2, .int a3] S3 P4 ∧ ∀ (v4 : Int32) (S4 : x_M), P4 v4 S4 → (if v4 = 0 then (Q (some (.int (-1000001))) S4) else (∃ P5 : x_M → Prop, x_Cv xs d 7 [.ref 17, .ref 12] S4 P5 ∧ ∀ (S5 : x_M), P5 S5 → (∃ P6 : Int32 → x_M → Prop, x_Ci xs d 66 [.ref 17, .ref (x_rr 9 (Int32.toNatClampNeg a1)), .int a2, .int a3] S5 P6 ∧ ∀ (v6 : Int32) (S6 : x_M), P6 v6 S6 → (if v6 = 0 then (Q (some (.int (-1000002))) S6) else (∃ P7 : x_M → Prop, x_Cv xs d 7 [.ref 12, .ref 17] S6 P7 ∧ ∀ (S7 : x_M), P7 S7 → (∃ P8 : Int32 → x_M → Prop, x_Ci xs d 46 [.ref 8, .int (((S7 16 0) - (S7 16 1)) - ((S6 16 0) - (S6 16 1)))] S7 P8 ∧ ∀ (v8 : Int32) (S8 : x_M), P8 v8 S8 → (Q (some (.int v8)) S8)))))))))))) else (Q (some (.int (-1000001))) S1)))))) : x_E xs (d + 1) 64 0 [.ref 8, .int a1, .int a2, .int a3, .null, .null] [] S Q := by
  refine e_aload f_64_0 rfl (by decide) ?_
  refine e_gr (c := 5) (j := 2) (r := 12) f_64_1 (by decide) (by decide) (by decide) (by decide) ?_
  refine e_gf (c := 0) (j := 4) f_64_4 (by decide) (by decide) (by decide) ?_
  refine e_if f_64_7 (fun hc => ?_) (fun hc => ?_)
  · have hc := x_cct_ne hc
    rw [if_neg hc] at hV
    refine e_iload f_64_13 rfl ?_
    obtain ⟨P1, hP1, hV⟩ := hV
    refine e_si (n := 1) (A := [.int a1]) (R := []) f_64_14 na_44 rfl rfl (Nat.le_of_ble_eq_true rfl) (Nat.le_of_ble_eq_true rfl) (by rw [ml_44]; exact Nat.le_of_ble_eq_true rfl) hP1 (fun v1 S1 hp1 => ?_)
    have hV := hV v1 S1 hp1
    refine e_if f_64_17 (fun hc => ?_) (fun hc => ?_)
    · have hc := x_cct_eq hc
      rw [if_pos hc] at hV
      refine e_iconst (c := (-1000001)) f_64_31 (by decide) ?_
      exact e_ireturn f_64_33 rt_64 rfl hV
    · have hc := x_ccf_eq hc
      rw [if_neg hc] at hV
      refine e_iload f_64_20 rfl ?_
      refine e_iconst (c := 1) f_64_21 (by decide) ?_
      refine e_icmp f_64_22 (fun hc => ?_) (fun hc => ?_)
      · have hc := x_cct_lt hc
        rw [if_pos hc] at hV
        refine e_iconst (c := (-1000001)) f_64_31 (by decide) ?_
        exact e_ireturn f_64_33 rt_64 rfl hV
      · have hc := x_ccf_lt hc
        rw [if_neg hc] at hV
        refine e_iload f_64_25 rfl ?_
        refine e_iconst (c := 14) f_64_26 (by decide) ?_
        refine e_icmp f_64_28 (fun hc => ?_) (fun hc => ?_)
        · have hc := x_cct_le hc
          rw [if_pos hc] at hV
          refine e_aload f_64_34 rfl (by decide) ?_
          refine e_gr (c := 5) (j := 0) (r := 9) f_64_35 (by decide) (by decide) (by decide) (by decide) ?_
          refine e_iload f_64_38 rfl ?_
          obtain ⟨hg, hV⟩ := hV
          refine e_aa (c := 11) (n := 8) f_64_39 (by decide) (by decide) (by decide) hg (fun hq2 => ?_)
          have hq2 : x_tg (x_rr 9 (Int32.toNatClampNeg a1)) = 2 := hq2
          refine e_astore (L' := [.ref 8, .int a1, .int a2, .int a3, .ref (x_rr 9 (Int32.toNatClampNeg a1)), .null]) f_64_40 (Nat.le_of_ble_eq_true rfl) (x_n7 hq2 (by decide)) rfl ?_
          refine e_aload f_64_42 rfl (x_n7 hq2 (by decide)) ?_
          refine e_gf (c := 2) (j := 1) f_64_44 (by decide) (by decide) hq2 ?_
          refine e_if f_64_47 (fun hc => ?_) (fun hc => ?_)
          · have hc := x_cct_ne hc
            rw [if_neg hc] at hV
            refine e_aload f_64_56 rfl (x_n7 hq2 (by decide)) ?_
            refine e_iload f_64_58 rfl ?_
            refine e_iload f_64_59 rfl ?_
            obtain ⟨P3, hP3, hV⟩ := hV
            refine e_vi (n := 3) (A := [.ref (x_rr 9 (Int32.toNatClampNeg a1)), .int a2, .int a3]) (R := []) f_64_60 na_25 rfl rfl (Nat.le_of_ble_eq_true rfl) (Nat.le_of_ble_eq_true rfl) (by rw [ml_25]; exact Nat.le_of_ble_eq_true rfl) rfl (by rw [cy_25]; decide) (by rw [cy_25]; exact hq2) hP3 (fun v3 S3 hp3 => ?_)
            have hV := hV v3 S3 hp3
            refine e_if f_64_63 (fun hc => ?_) (fun hc => ?_)
            · have hc := x_cct_ne hc
              rw [if_neg hc] at hV
              refine e_aload f_64_72 rfl (by decide) ?_
              refine e_aload f_64_73 rfl (x_n7 hq2 (by decide)) ?_
              refine e_iload f_64_75 rfl ?_
              refine e_iload f_64_76 rfl ?_
              obtain ⟨P4, hP4, hV⟩ := hV
              refine e_vi (n := 4) (A := [.ref 8, .ref (x_rr 9 (Int32.toNatClampNeg a1)), .int a2, .int a3]) (R := []) f_64_77 na_65 rfl rfl (Nat.le_of_ble_eq_true rfl) (Nat.le_of_ble_eq_true rfl) (by rw [ml_65]; exact Nat.le_of_ble_eq_true rfl) rfl (by rw [cy_65]; decide) (by rw [cy_65]; exact (by decide : x_tg 8 = 5)) hP4 (fun v4 S4 hp4 => ?_)
              have hV := hV v4 S4 hp4
              refine e_if f_64_80 (fun hc => ?_) (fun hc => ?_)
              · have hc := x_cct_ne hc
                rw [if_neg hc] at hV
                refine e_aload f_64_86 rfl (by decide) ?_
                refine e_gr (c := 5) (j := 3) (r := 17) f_64_87 (by decide) (by decide) (by decide) (by decide) ?_
                refine e_aload f_64_90 rfl (by decide) ?_
                refine e_gr (c := 5) (j := 2) (r := 12) f_64_91 (by decide) (by decide) (by decide) (by decide) ?_
                obtain ⟨P5, hP5, hV⟩ := hV
                refine e_vv (n := 2) (A := [.ref 17, .ref 12]) (R := []) f_64_94 na_7 rfl rfl (Nat.le_of_ble_eq_true rfl) (Nat.le_of_ble_eq_true rfl) (by rw [ml_7]; exact Nat.le_of_ble_eq_true rfl) rfl (by rw [cy_7]; decide) (by rw [cy_7]; exact (by decide : x_tg 17 = 0)) hP5 (fun S5 hp5 => ?_)
                have hV := hV S5 hp5
                refine e_aload f_64_97 rfl (by decide) ?_
                refine e_gr (c := 5) (j := 3) (r := 17) f_64_98 (by decide) (by decide) (by decide) (by decide) ?_
                refine e_aload f_64_101 rfl (x_n7 hq2 (by decide)) ?_
                refine e_iload f_64_103 rfl ?_
                refine e_iload f_64_104 rfl ?_
                obtain ⟨P6, hP6, hV⟩ := hV
                refine e_si (n := 4) (A := [.ref 17, .ref (x_rr 9 (Int32.toNatClampNeg a1)), .int a2, .int a3]) (R := []) f_64_105 na_66 rfl rfl (Nat.le_of_ble_eq_true rfl) (Nat.le_of_ble_eq_true rfl) (by rw [ml_66]; exact Nat.le_of_ble_eq_true rfl) hP6 (fun v6 S6 hp6 => ?_)
                have hV := hV v6 S6 hp6
                refine e_if f_64_108 (fun hc => ?_) (fun hc => ?_)
                · have hc := x_cct_ne hc
                  rw [if_neg hc] at hV
                  refine e_aload f_64_114 rfl (by decide) ?_
                  refine e_gr (c := 5) (j := 2) (r := 12) f_64_115 (by decide) (by decide) (by decide) (by decide) ?_
                  refine e_gr (c := 0) (j := 3) (r := 16) f_64_118 (by decide) (by decide) (by decide) (by decide) ?_
                  refine e_iconst (c := 0) f_64_121 (by decide) ?_
                  refine e_iak (n := 2) (kk := 0) f_64_122 (by decide) (by decide) (by decide) ?_
                  refine e_aload f_64_123 rfl (by decide) ?_
                  refine e_gr (c := 5) (j := 2) (r := 12) f_64_124 (by decide) (by decide) (by decide) (by decide) ?_
                  refine e_gr (c := 0) (j := 3) (r := 16) f_64_127 (by decide) (by decide) (by decide) (by decide) ?_
                  refine e_iconst (c := 1) f_64_130 (by decide) ?_
                  refine e_iak (n := 2) (kk := 1) f_64_131 (by decide) (by decide) (by decide) ?_
                  refine e_isub f_64_132 ?_
                  refine e_istore (L' := [.ref 8, .int a1, .int a2, .int a3, .ref (x_rr 9 (Int32.toNatClampNeg a1)), .int ((S6 16 0) - (S6 16 1))]) f_64_133 (Nat.le_of_ble_eq_true rfl) rfl ?_
                  refine e_aload f_64_135 rfl (by decide) ?_
                  refine e_gr (c := 5) (j := 2) (r := 12) f_64_136 (by decide) (by decide) (by decide) (by decide) ?_
                  refine e_aload f_64_139 rfl (by decide) ?_
                  refine e_gr (c := 5) (j := 3) (r := 17) f_64_140 (by decide) (by decide) (by decide) (by decide) ?_
                  obtain ⟨P7, hP7, hV⟩ := hV
                  refine e_vv (n := 2) (A := [.ref 12, .ref 17]) (R := []) f_64_143 na_7 rfl rfl (Nat.le_of_ble_eq_true rfl) (Nat.le_of_ble_eq_true rfl) (by rw [ml_7]; exact Nat.le_of_ble_eq_true rfl) rfl (by rw [cy_7]; decide) (by rw [cy_7]; exact (by decide : x_tg 12 = 0)) hP7 (fun S7 hp7 => ?_)
                  have hV := hV S7 hp7
                  refine e_aload f_64_146 rfl (by decide) ?_
                  refine e_aload f_64_147 rfl (by decide) ?_
                  refine e_gr (c := 5) (j := 2) (r := 12) f_64_148 (by decide) (by decide) (by decide) (by decide) ?_
                  refine e_gr (c := 0) (j := 3) (r := 16) f_64_151 (by decide) (by decide) (by decide) (by decide) ?_
                  refine e_iconst (c := 0) f_64_154 (by decide) ?_
                  refine e_iak (n := 2) (kk := 0) f_64_155 (by decide) (by decide) (by decide) ?_
                  refine e_aload f_64_156 rfl (by decide) ?_
                  refine e_gr (c := 5) (j := 2) (r := 12) f_64_157 (by decide) (by decide) (by decide) (by decide) ?_
                  refine e_gr (c := 0) (j := 3) (r := 16) f_64_160 (by decide) (by decide) (by decide) (by decide) ?_
                  refine e_iconst (c := 1) f_64_163 (by decide) ?_
                  refine e_iak (n := 2) (kk := 1) f_64_164 (by decide) (by decide) (by decide) ?_
                  refine e_isub f_64_165 ?_
                  refine e_iload f_64_166 rfl ?_
                  refine e_isub f_64_168 ?_
                  obtain ⟨P8, hP8, hV⟩ := hV
                  refine e_vi (n := 2) (A := [.ref 8, .int (((S7 16 0) - (S7 16 1)) - ((S6 16 0) - (S6 16 1)))]) (R := []) f_64_169 na_46 rfl rfl (Nat.le_of_ble_eq_true rfl) (Nat.le_of_ble_eq_true rfl) (by rw [ml_46]; exact Nat.le_of_ble_eq_true rfl) rfl (by rw [cy_46]; decide) (by rw [cy_46]; exact (by decide : x_tg 8 = 5)) hP8 (fun v8 S8 hp8 => ?_)
                  have hV := hV v8 S8 hp8
                  exact e_ireturn f_64_172 rt_64 rfl hV
                · have hc := x_ccf_ne hc
                  rw [if_pos hc] at hV
                  refine e_iconst (c := (-1000002)) f_64_111 (by decide) ?_
                  exact e_ireturn f_64_113 rt_64 rfl hV
              · have hc := x_ccf_ne hc
                rw [if_pos hc] at hV
                refine e_iconst (c := (-1000001)) f_64_83 (by decide) ?_
                exact e_ireturn f_64_85 rt_64 rfl hV
            · have hc := x_ccf_ne hc
              rw [if_pos hc] at hV
              refine e_aload f_64_66 rfl (by decide) ?_
              refine e_iconst (c := 2) f_64_67 (by decide) ?_
              obtain ⟨P9, hP9, hV⟩ := hV
              refine e_vi (n := 2) (A := [.ref 8, .int 2]) (R := []) f_64_68 na_45 rfl rfl (Nat.le_of_ble_eq_true rfl) (Nat.le_of_ble_eq_true rfl) (by rw [ml_45]; exact Nat.le_of_ble_eq_true rfl) rfl (by rw [cy_45]; decide) (by rw [cy_45]; exact (by decide : x_tg 8 = 5)) hP9 (fun v9 S9 hp9 => ?_)
              have hV := hV v9 S9 hp9
              exact e_ireturn f_64_71 rt_64 rfl hV
          · have hc := x_ccf_ne hc
            rw [if_pos hc] at hV
            refine e_aload f_64_50 rfl (by decide) ?_
            refine e_iconst (c := 1) f_64_51 (by decide) ?_
            obtain ⟨P10, hP10, hV⟩ := hV
            refine e_vi (n := 2) (A := [.ref 8, .int 1]) (R := []) f_64_52 na_45 rfl rfl (Nat.le_of_ble_eq_true rfl) (Nat.le_of_ble_eq_true rfl) (by rw [ml_45]; exact Nat.le_of_ble_eq_true rfl) rfl (by rw [cy_45]; decide) (by rw [cy_45]; exact (by decide : x_tg 8 = 5)) hP10 (fun v10 S10 hp10 => ?_)
            have hV := hV v10 S10 hp10
            exact e_ireturn f_64_55 rt_64 rfl hV
        · have hc := x_ccf_le hc
          rw [if_neg hc] at hV
          refine e_iconst (c := (-1000001)) f_64_31 (by decide) ?_
          exact e_ireturn f_64_33 rt_64 rfl hV
  · have hc := x_ccf_ne hc
    rw [if_pos hc] at hV
    refine e_iconst (c := (-1000002)) f_64_10 (by decide) ?_
    exact e_ireturn f_64_12 rt_64 rfl hV
