set_option maxRecDepth 20000 in
theorem T_20_0 {xs : List Int32} {d : Nat} {S : x_M} {Q : Option Value → x_M → Prop} {a1 : Int32}  (hV : Q (some (.int ((a1 >>> (9 &&& 31)) &&& 1))) S) : x_E xs (d + 1) 20 0 [.ref 23, .int a1] [] S Q := by
  refine e_iload f_20_0 rfl ?_
  refine e_iconst (c := 9) f_20_1 (by decide) ?_
  refine e_ishr f_20_3 ?_
  refine e_iconst (c := 1) f_20_4 (by decide) ?_
  refine e_iand f_20_5 ?_
  exact e_ireturn f_20_6 rt_20 rfl hV
set_option maxRecDepth 20000 in
theorem T_21_0 {xs : List Int32} {d : Nat} {S : x_M} {Q : Option Value → x_M → Prop} {a1 : Int32} {a2 : Int32} {a3 : Int32}  (hV : (x_ib a2 2) ∧ (if (((a1 >>> (10 &&& 31)) &&& (S 25 (Int32.toNatClampNeg a2))) &&& (1 <<< (a3 &&& 31))) = 0 then (Q (some (.int 0)) S) else (Q (some (.int 1)) S))) : x_E xs (d + 1) 21 0 [.ref 23, .int a1, .int a2, .int a3] [] S Q := by
  refine e_iload f_21_0 rfl ?_
  refine e_iconst (c := 10) f_21_1 (by decide) ?_
  refine e_ishr f_21_3 ?_
  refine e_aload f_21_4 rfl (by decide) ?_
  refine e_gr (c := 1) (j := 1) (r := 25) f_21_5 (by decide) (by decide) (by decide) (by decide) ?_
  refine e_iload f_21_8 rfl ?_
  obtain ⟨hg, hV⟩ := hV
  refine e_ia (n := 2) f_21_9 (by decide) (by decide) hg ?_
  refine e_iand f_21_10 ?_
  refine e_iconst (c := 1) f_21_11 (by decide) ?_
  refine e_iload f_21_12 rfl ?_
  refine e_ishl f_21_13 ?_
  refine e_iand f_21_14 ?_
  refine e_if f_21_15 (fun hc => ?_) (fun hc => ?_)
  · have hc := x_cct_eq hc
    rw [if_pos hc] at hV
    refine e_iconst (c := 0) f_21_22 (by decide) ?_
    exact e_ireturn f_21_23 rt_21 (by decide) hV
  · have hc := x_ccf_eq hc
    rw [if_neg hc] at hV
    refine e_iconst (c := 1) f_21_18 (by decide) ?_
    refine e_goto f_21_19 ?_
    exact e_ireturn f_21_23 rt_21 (by decide) hV
set_option maxRecDepth 20000 in
theorem T_22_0 {xs : List Int32} {d : Nat} {S : x_M} {Q : Option Value → x_M → Prop} {a1 : Int32} {a2 : Int32} {a3 : Int32}  (hV : ∃ P1 : Int32 → x_M → Prop, x_Ci xs d 20 [.ref 23, .int a1] S P1 ∧ ∀ (v1 : Int32) (S1 : x_M), P1 v1 S1 → ((x_ib (1 - v1) 2) ∧ (if (((a1 >>> (10 &&& 31)) &&& ((1 <<< (a2 &&& 31)) ^^^ (-1))) &&& (S1 25 (Int32.toNatClampNeg (1 - v1)))) = 0 then (if a3 = 0 then (∃ P3 : Int32 → x_M → Prop, x_Ci xs d 19 [.int ((a1 >>> (10 &&& 31)) &&& ((1 <<< (a2 &&& 31)) ^^^ (-1))), .int v1, .int 511] S1 P3 ∧ ∀ (v3 : Int32) (S3 : x_M), P3 v3 S3 → (Q (some (.int v3)) S3)) else (∃ P2 : Int32 → x_M → Prop, x_Ci xs d 19 [.int ((a1 >>> (10 &&& 31)) &&& ((1 <<< (a2 &&& 31)) ^^^ (-1))), .int v1, .int a3] S1 P2 ∧ ∀ (v2 : Int32) (S2 : x_M), P2 v2 S2 → (Q (some (.int v2)) S2))) else (if a3 = 0 then (∃ P5 : Int32 → x_M → Prop, x_Ci xs d 19 [.int ((a1 >>> (10 &&& 31)) &&& ((1 <<< (a2 &&& 31)) ^^^ (-1))), .int (1 - v1), .int 511] S1 P5 ∧ ∀ (v5 : Int32) (S5 : x_M), P5 v5 S5 → (Q (some (.int v5)) S5)) else (∃ P4 : Int32 → x_M → Prop, x_Ci xs d 19 [.int ((a1 >>> (10 &&& 31)) &&& ((1 <<< (a2 &&& 31)) ^^^ (-1))), .int (1 - v1), .int a3] S1 P4 ∧ ∀ (v4 : Int32) (S4 : x_M), P4 v4 S4 → (Q (some (.int v4)) S4)))))) : x_E xs (d + 1) 22 0 [.ref 23, .int a1, .int a2, .int a3, .null, .null, .null] [] S Q := by
  refine e_iload f_22_0 rfl ?_
  refine e_iconst (c := 10) f_22_1 (by decide) ?_
  refine e_ishr f_22_3 ?_
  refine e_iconst (c := 1) f_22_4 (by decide) ?_
  refine e_iload f_22_5 rfl ?_
  refine e_ishl f_22_6 ?_
  refine e_iconst (c := (-1)) f_22_7 (by decide) ?_
  refine e_ixor f_22_8 ?_
  refine e_iand f_22_9 ?_
  refine e_istore (L' := [.ref 23, .int a1, .int a2, .int a3, .int ((a1 >>> (10 &&& 31)) &&& ((1 <<< (a2 &&& 31)) ^^^ (-1))), .null, .null]) f_22_10 (Nat.le_of_ble_eq_true rfl) rfl ?_
  refine e_aload f_22_12 rfl (by decide) ?_
  refine e_iload f_22_13 rfl ?_
  obtain ⟨P1, hP1, hV⟩ := hV
  refine e_vi (n := 2) (A := [.ref 23, .int a1]) (R := []) f_22_14 na_20 rfl rfl (Nat.le_of_ble_eq_true rfl) (Nat.le_of_ble_eq_true rfl) (by rw [ml_20]; exact Nat.le_of_ble_eq_true rfl) rfl (by rw [cy_20]; decide) (by rw [cy_20]; exact (by decide : x_tg 23 = 1)) hP1 (fun v1 S1 hp1 => ?_)
  have hV := hV v1 S1 hp1
  refine e_istore (L' := [.ref 23, .int a1, .int a2, .int a3, .int ((a1 >>> (10 &&& 31)) &&& ((1 <<< (a2 &&& 31)) ^^^ (-1))), .int v1, .null]) f_22_17 (Nat.le_of_ble_eq_true rfl) rfl ?_
  refine e_iload f_22_19 rfl ?_
  refine e_aload f_22_21 rfl (by decide) ?_
  refine e_gr (c := 1) (j := 1) (r := 25) f_22_22 (by decide) (by decide) (by decide) (by decide) ?_
  refine e_iconst (c := 1) f_22_25 (by decide) ?_
  refine e_iload f_22_26 rfl ?_
  refine e_isub f_22_28 ?_
  obtain ⟨hg, hV⟩ := hV
  refine e_ia (n := 2) f_22_29 (by decide) (by decide) hg ?_
  refine e_iand f_22_30 ?_
  refine e_if f_22_31 (fun hc => ?_) (fun hc => ?_)
  · have hc := x_cct_eq hc
    rw [if_pos hc] at hV
    refine e_iload f_22_41 rfl ?_
    refine e_istore (L' := [.ref 23, .int a1, .int a2, .int a3, .int ((a1 >>> (10 &&& 31)) &&& ((1 <<< (a2 &&& 31)) ^^^ (-1))), .int v1, .int v1]) f_22_43 (Nat.le_of_ble_eq_true rfl) rfl ?_
    refine e_iload f_22_45 rfl ?_
    refine e_iload f_22_47 rfl ?_
    refine e_iload f_22_49 rfl ?_
    refine e_if f_22_50 (fun hc => ?_) (fun hc => ?_)
    · have hc := x_cct_ne hc
      rw [if_neg hc] at hV
      refine e_iload f_22_59 rfl ?_
      obtain ⟨P2, hP2, hV⟩ := hV
      refine e_si (n := 3) (A := [.int ((a1 >>> (10 &&& 31)) &&& ((1 <<< (a2 &&& 31)) ^^^ (-1))), .int v1, .int a3]) (R := []) f_22_60 na_19 rfl rfl (Nat.le_of_ble_eq_true rfl) (Nat.le_of_ble_eq_true rfl) (by rw [ml_19]; exact Nat.le_of_ble_eq_true rfl) hP2 (fun v2 S2 hp2 => ?_)
      have hV := hV v2 S2 hp2
      exact e_ireturn f_22_63 rt_22 rfl hV
    · have hc := x_ccf_ne hc
      rw [if_pos hc] at hV
      refine e_iconst (c := 511) f_22_53 (by decide) ?_
      refine e_goto f_22_56 ?_
      obtain ⟨P3, hP3, hV⟩ := hV
      refine e_si (n := 3) (A := [.int ((a1 >>> (10 &&& 31)) &&& ((1 <<< (a2 &&& 31)) ^^^ (-1))), .int v1, .int 511]) (R := []) f_22_60 na_19 rfl rfl (Nat.le_of_ble_eq_true rfl) (Nat.le_of_ble_eq_true rfl) (by rw [ml_19]; exact Nat.le_of_ble_eq_true rfl) hP3 (fun v3 S3 hp3 => ?_)
      have hV := hV v3 S3 hp3
      exact e_ireturn f_22_63 rt_22 rfl hV
  · have hc := x_ccf_eq hc
    rw [if_neg hc] at hV
    refine e_iconst (c := 1) f_22_34 (by decide) ?_
    refine e_iload f_22_35 rfl ?_
    refine e_isub f_22_37 ?_
    refine e_goto f_22_38 ?_
    refine e_istore (L' := [.ref 23, .int a1, .int a2, .int a3, .int ((a1 >>> (10 &&& 31)) &&& ((1 <<< (a2 &&& 31)) ^^^ (-1))), .int v1, .int (1 - v1)]) f_22_43 (Nat.le_of_ble_eq_true rfl) rfl ?_
    refine e_iload f_22_45 rfl ?_
    refine e_iload f_22_47 rfl ?_
    refine e_iload f_22_49 rfl ?_
    refine e_if f_22_50 (fun hc => ?_) (fun hc => ?_)
    · have hc := x_cct_ne hc
      rw [if_neg hc] at hV
      refine e_iload f_22_59 rfl ?_
      obtain ⟨P4, hP4, hV⟩ := hV
      refine e_si (n := 3) (A := [.int ((a1 >>> (10 &&& 31)) &&& ((1 <<< (a2 &&& 31)) ^^^ (-1))), .int (1 - v1), .int a3]) (R := []) f_22_60 na_19 rfl rfl (Nat.le_of_ble_eq_true rfl) (Nat.le_of_ble_eq_true rfl) (by rw [ml_19]; exact Nat.le_of_ble_eq_true rfl) hP4 (fun v4 S4 hp4 => ?_)
      have hV := hV v4 S4 hp4
      exact e_ireturn f_22_63 rt_22 rfl hV
    · have hc := x_ccf_ne hc
      rw [if_pos hc] at hV
      refine e_iconst (c := 511) f_22_53 (by decide) ?_
      refine e_goto f_22_56 ?_
      obtain ⟨P5, hP5, hV⟩ := hV
      refine e_si (n := 3) (A := [.int ((a1 >>> (10 &&& 31)) &&& ((1 <<< (a2 &&& 31)) ^^^ (-1))), .int (1 - v1), .int 511]) (R := []) f_22_60 na_19 rfl rfl (Nat.le_of_ble_eq_true rfl) (Nat.le_of_ble_eq_true rfl) (by rw [ml_19]; exact Nat.le_of_ble_eq_true rfl) hP5 (fun v5 S5 hp5 => ?_)
      have hV := hV v5 S5 hp5
      exact e_ireturn f_22_63 rt_22 rfl hV
set_option maxRecDepth 20000 in
theorem T_24_0 {xs : List Int32} {d : Nat} {S : x_M} {Q : Option Value → x_M → Prop} {a0 : Nat} {a1 : Int32} {a2 : Int32} (ha0 : x_tg a0 = 2) (hV : ∀ S1 : x_M, S1 = x_up S a0 1 1 → (∀ S2 : x_M, S2 = x_up S1 a0 2 a1 → (∀ S3 : x_M, S3 = x_up S2 a0 3 a2 → (∃ P4 : x_M → Prop, x_Cv xs d 182 [.ref (x_rr a0 0), .int 0] S3 P4 ∧ ∀ (S4 : x_M), P4 S4 → (Q none S4))))) : x_E xs (d + 1) 24 0 [.ref a0, .int a1, .int a2] [] S Q := by
  refine e_aload f_24_0 rfl (x_n7 ha0 (by decide)) ?_
  refine e_iconst (c := 1) f_24_1 (by decide) ?_
  refine e_pfn (c := 2) (j := 1) f_24_2 (by decide) (by decide) ha0 (x_fit_z rfl (by decide)) (fun S1 hS1 => ?_)
  have hV := hV S1 hS1
  refine e_aload f_24_5 rfl (x_n7 ha0 (by decide)) ?_
  refine e_iload f_24_6 rfl ?_
  refine e_pfn (c := 2) (j := 2) f_24_7 (by decide) (by decide) ha0 (x_fit_i rfl) (fun S2 hS2 => ?_)
  have hV := hV S2 hS2
  refine e_aload f_24_10 rfl (x_n7 ha0 (by decide)) ?_
  refine e_iload f_24_11 rfl ?_
  refine e_pfn (c := 2) (j := 3) f_24_12 (by decide) (by decide) ha0 (x_fit_i rfl) (fun S3 hS3 => ?_)
  have hV := hV S3 hS3
  refine e_aload f_24_15 rfl (x_n7 ha0 (by decide)) ?_
  refine e_gr (c := 2) (j := 0) (r := (x_rr a0 0)) f_24_16 (by decide) (by decide) ha0 rfl ?_
  refine e_iconst (c := 0) f_24_19 (by decide) ?_
  obtain ⟨P4, hP4, hV⟩ := hV
  refine e_sv (n := 2) (A := [.ref (x_rr a0 0), .int 0]) (R := []) f_24_20 na_182 rfl rfl (Nat.le_of_ble_eq_true rfl) (Nat.le_of_ble_eq_true rfl) (by rw [ml_182]; exact Nat.le_of_ble_eq_true rfl) hP4 (fun S4 hp4 => ?_)
  have hV := hV S4 hp4
  exact e_return f_24_23 rt_24 hV
set_option maxRecDepth 20000 in
theorem T_25_0 {xs : List Int32} {d : Nat} {S : x_M} {Q : Option Value → x_M → Prop} {a0 : Nat} {a1 : Int32} {a2 : Int32} (ha0 : x_tg a0 = 2) (hV : if a1 < 0 then (Q (some (.int 0)) S) else (if a2 < 0 then (Q (some (.int 0)) S) else (if ((S a0 3) - a2) < a1 then (Q (some (.int 0)) S) else (Q (some (.int 1)) S)))) : x_E xs (d + 1) 25 0 [.ref a0, .int a1, .int a2] [] S Q := by
  refine e_iload f_25_0 rfl ?_
  refine e_if f_25_1 (fun hc => ?_) (fun hc => ?_)
  · have hc := x_cct_lt hc
    rw [if_pos hc] at hV
    refine e_iconst (c := 0) f_25_22 (by decide) ?_
    exact e_ireturn f_25_23 rt_25 (by decide) hV
  · have hc := x_ccf_lt hc
    rw [if_neg hc] at hV
    refine e_iload f_25_4 rfl ?_
    refine e_if f_25_5 (fun hc => ?_) (fun hc => ?_)
    · have hc := x_cct_lt hc
      rw [if_pos hc] at hV
      refine e_iconst (c := 0) f_25_22 (by decide) ?_
      exact e_ireturn f_25_23 rt_25 (by decide) hV
    · have hc := x_ccf_lt hc
      rw [if_neg hc] at hV
      refine e_iload f_25_8 rfl ?_
      refine e_aload f_25_9 rfl (x_n7 ha0 (by decide)) ?_
      refine e_gf (c := 2) (j := 3) f_25_10 (by decide) (by decide) ha0 ?_
      refine e_iload f_25_13 rfl ?_
      refine e_isub f_25_14 ?_
      refine e_icmp f_25_15 (fun hc => ?_) (fun hc => ?_)
      · have hc := x_cct_gt hc
        rw [if_pos hc] at hV
        refine e_iconst (c := 0) f_25_22 (by decide) ?_
        exact e_ireturn f_25_23 rt_25 (by decide) hV
      · have hc := x_ccf_gt hc
        rw [if_neg hc] at hV
        refine e_iconst (c := 1) f_25_18 (by decide) ?_
        refine e_goto f_25_19 ?_
        exact e_ireturn f_25_23 rt_25 (by decide) hV
set_option maxRecDepth 20000 in
theorem T_26_0 {xs : List Int32} {d : Nat} {S : x_M} {Q : Option Value → x_M → Prop} {a0 : Nat} {a1 : Int32} (ha0 : x_tg a0 = 2) (hV : if (S a0 2) = 0 then (Q (some (.int (Int8.toInt32 (Int32.toInt8 a1)))) S) else (if (S a0 2) = 1 then (Q (some (.int (Int16.toInt32 (Int32.toInt16 a1)))) S) else (Q (some (.int a1)) S))) : x_E xs (d + 1) 26 0 [.ref a0, .int a1] [] S Q := by
  refine e_aload f_26_0 rfl (x_n7 ha0 (by decide)) ?_
  refine e_gf (c := 2) (j := 2) f_26_1 (by decide) (by decide) ha0 ?_
  by_cases hx0 : (S a0 2) = 0
  · rw [if_pos hx0] at hV
    refine e_lk f_26_4 hx0 (t := 32) (by decide) ?_
    refine e_iload f_26_32 rfl ?_
    refine e_i2b f_26_33 ?_
    exact e_ireturn f_26_34 rt_26 rfl hV
  rw [if_neg hx0] at hV
  by_cases hx1 : (S a0 2) = 1
  · rw [if_pos hx1] at hV
    refine e_lk f_26_4 hx1 (t := 35) (by decide) ?_
    refine e_iload f_26_35 rfl ?_
    refine e_i2s f_26_36 ?_
    exact e_ireturn f_26_37 rt_26 rfl hV
  rw [if_neg hx1] at hV
  have hy0 := lv_neT (a := 0) hx0 (by decide)
  have hy1 := lv_neT (a := 1) hx1 (by decide)
  refine e_lkd f_26_4 (by decide) (t := 38) (by simp only [Op.lookupswitch.offset_cons, if_neg (Ne.symm hy0), if_neg (Ne.symm hy1)]; rfl) ?_
  refine e_iload f_26_38 rfl ?_
  exact e_ireturn f_26_39 rt_26 rfl hV
set_option maxRecDepth 20000 in
theorem T_27_0 {xs : List Int32} {d : Nat} {S : x_M} {Q : Option Value → x_M → Prop} {a0 : Nat} {a1 : Int32} (ha0 : x_tg a0 = 2) (hV : if a1 < 0 then (Q (some (.int (-1000000))) S) else (if (S a0 3) ≤ a1 then (Q (some (.int (-1000000))) S) else (if (40 : Int32) ≤ a1 then (Q (some (.int (-1000000))) S) else ((x_ib a1 40) ∧ (Q (some (.int (S (x_rr a0 0) (Int32.toNatClampNeg a1)))) S))))) : x_E xs (d + 1) 27 0 [.ref a0, .int a1] [] S Q := by
  refine e_iload f_27_0 rfl ?_
  refine e_if f_27_1 (fun hc => ?_) (fun hc => ?_)
  · have hc := x_cct_lt hc
    rw [if_pos hc] at hV
    refine e_iconst (c := (-1000000)) f_27_30 (by decide) ?_
    exact e_ireturn f_27_32 rt_27 rfl hV
  · have hc := x_ccf_lt hc
    rw [if_neg hc] at hV
    refine e_iload f_27_4 rfl ?_
    refine e_aload f_27_5 rfl (x_n7 ha0 (by decide)) ?_
    refine e_gf (c := 2) (j := 3) f_27_6 (by decide) (by decide) ha0 ?_
    refine e_icmp f_27_9 (fun hc => ?_) (fun hc => ?_)
    · have hc := x_cct_ge hc
      rw [if_pos hc] at hV
      refine e_iconst (c := (-1000000)) f_27_30 (by decide) ?_
      exact e_ireturn f_27_32 rt_27 rfl hV
    · have hc := x_ccf_ge hc
      rw [if_neg hc] at hV
      refine e_iload f_27_12 rfl ?_
      refine e_aload f_27_13 rfl (x_n7 ha0 (by decide)) ?_
      refine e_gr (c := 2) (j := 0) (r := (x_rr a0 0)) f_27_14 (by decide) (by decide) ha0 rfl ?_
      refine e_al (c := 10) (n := 40) (v := 40) f_27_17 (ht_2_0 ha0) (by decide) (hn_2_0 ha0) (by decide) ?_
      refine e_icmp f_27_18 (fun hc => ?_) (fun hc => ?_)
      · have hc := x_cct_ge hc
        rw [if_pos hc] at hV
        refine e_iconst (c := (-1000000)) f_27_30 (by decide) ?_
        exact e_ireturn f_27_32 rt_27 rfl hV
      · have hc := x_ccf_ge hc
        rw [if_neg hc] at hV
        refine e_aload f_27_21 rfl (x_n7 ha0 (by decide)) ?_
        refine e_gr (c := 2) (j := 0) (r := (x_rr a0 0)) f_27_22 (by decide) (by decide) ha0 rfl ?_
        refine e_iload f_27_25 rfl ?_
        obtain ⟨hg, hV⟩ := hV
        refine e_ia (n := 40) f_27_26 (ht_2_0 ha0) (hn_2_0 ha0) hg ?_
        refine e_goto f_27_27 ?_
        exact e_ireturn f_27_32 rt_27 rfl hV
set_option maxRecDepth 20000 in
theorem T_29_0 {xs : List Int32} {d : Nat} {S : x_M} {Q : Option Value → x_M → Prop} {a1 : Int32}  (hV : if (400 : Int32) ≤ (S 10 1) then (Q none S) else ((x_ib (S 10 1) 400) ∧ (∀ S1 : x_M, S1 = x_up S 11 (Int32.toNatClampNeg (S 10 1)) a1 → (∀ S2 : x_M, S2 = x_up S1 10 1 ((S1 10 1) + 1) → (Q none S2))))) : x_E xs (d + 1) 29 0 [.ref 10, .int a1] [] S Q := by
  refine e_aload f_29_0 rfl (by decide) ?_
  refine e_gf (c := 3) (j := 1) f_29_1 (by decide) (by decide) (by decide) ?_
  refine e_aload f_29_4 rfl (by decide) ?_
  refine e_gr (c := 3) (j := 0) (r := 11) f_29_5 (by decide) (by decide) (by decide) (by decide) ?_
  refine e_al (c := 10) (n := 400) (v := 400) f_29_8 (by decide) (by decide) (by decide) (by decide) ?_
  refine e_icmp f_29_9 (fun hc => ?_) (fun hc => ?_)
  · have hc := x_cct_ge hc
    rw [if_pos hc] at hV
    exact e_return f_29_32 rt_29 hV
  · have hc := x_ccf_ge hc
    rw [if_neg hc] at hV
    refine e_aload f_29_12 rfl (by decide) ?_
    refine e_gr (c := 3) (j := 0) (r := 11) f_29_13 (by decide) (by decide) (by decide) (by decide) ?_
    refine e_aload f_29_16 rfl (by decide) ?_
    refine e_gf (c := 3) (j := 1) f_29_17 (by decide) (by decide) (by decide) ?_
    refine e_iload f_29_20 rfl ?_
    obtain ⟨hg, hV⟩ := hV
    refine e_isn (n := 400) f_29_21 (by decide) (by decide) hg (fun S1 hS1 => ?_)
    have hV := hV S1 hS1
    refine e_aload f_29_22 rfl (by decide) ?_
    refine e_dup f_29_23 rfl ?_
    refine e_gf (c := 3) (j := 1) f_29_24 (by decide) (by decide) (by decide) ?_
    refine e_iconst (c := 1) f_29_27 (by decide) ?_
    refine e_iadd f_29_28 ?_
    refine e_pfn (c := 3) (j := 1) f_29_29 (by decide) (by decide) (by decide) (x_fit_i rfl) (fun S2 hS2 => ?_)
    have hV := hV S2 hS2
    exact e_return f_29_32 rt_29 hV
set_option maxRecDepth 20000 in
theorem T_30_0 {xs : List Int32} {d : Nat} {S : x_M} {Q : Option Value → x_M → Prop}   (hV : ∀ S1 : x_M, S1 = x_up S 10 4 0 → (∃ P2 : x_M → Prop, x_Cv xs d 31 [.ref 10] S1 P2 ∧ ∀ (S2 : x_M), P2 S2 → (Q none S2))) : x_E xs (d + 1) 30 0 [.ref 10] [] S Q := by
  refine e_aload f_30_0 rfl (by decide) ?_
  refine e_iconst (c := 0) f_30_1 (by decide) ?_
  refine e_pfn (c := 3) (j := 4) f_30_2 (by decide) (by decide) (by decide) (x_fit_i rfl) (fun S1 hS1 => ?_)
  have hV := hV S1 hS1
  refine e_aload f_30_5 rfl (by decide) ?_
  obtain ⟨P2, hP2, hV⟩ := hV
  refine e_vv (n := 1) (A := [.ref 10]) (R := []) f_30_6 na_31 rfl rfl (Nat.le_of_ble_eq_true rfl) (Nat.le_of_ble_eq_true rfl) (by rw [ml_31]; exact Nat.le_of_ble_eq_true rfl) rfl (by rw [cy_31]; decide) (by rw [cy_31]; exact (by decide : x_tg 10 = 3)) hP2 (fun S2 hp2 => ?_)
  have hV := hV S2 hp2
  exact e_return f_30_9 rt_30 hV
set_option maxRecDepth 20000 in
theorem T_31_0 {xs : List Int32} {d : Nat} {S : x_M} {Q : Option Value → x_M → Prop}   (hV : ∀ S1 : x_M, S1 = x_up S 10 3 (S 10 4) → (x_E xs (d + 1) 31 8 [.ref 10] [] S1 Q)) : x_E xs (d + 1) 31 0 [.ref 10] [] S Q := by
  refine e_aload f_31_0 rfl (by decide) ?_
  refine e_aload f_31_1 rfl (by decide) ?_
  refine e_gf (c := 3) (j := 4) f_31_2 (by decide) (by decide) (by decide) ?_
  refine e_pfn (c := 3) (j := 3) f_31_5 (by decide) (by decide) (by decide) (x_fit_i rfl) (fun S1 hS1 => ?_)
  have hV := hV S1 hS1
  exact hV
set_option maxRecDepth 20000 in
theorem T_31_8 {xs : List Int32} {d : Nat} {S : x_M} {Q : Option Value → x_M → Prop}   (hV : if (S 10 1) ≤ (S 10 3) then (x_E xs (d + 1) 31 46 [.ref 10] [] S Q) else (∃ P1 : Int32 → x_M → Prop, x_Ci xs d 32 [.ref 10, .int (S 10 3)] S P1 ∧ ∀ (v1 : Int32) (S1 : x_M), P1 v1 S1 → (∃ P2 : Int32 → x_M → Prop, x_Ci xs d 33 [.int v1] S1 P2 ∧ ∀ (v2 : Int32) (S2 : x_M), P2 v2 S2 → (if v2 = 0 then (x_E xs (d + 1) 31 46 [.ref 10] [] S2 Q) else (∀ S3 : x_M, S3 = x_up S2 10 3 ((S2 10 3) + 1) → (x_E xs (d + 1) 31 8 [.ref 10] [] S3 Q)))))) : x_E xs (d + 1) 31 8 [.ref 10] [] S Q := by
  refine e_aload f_31_8 rfl (by decide) ?_
  refine e_gf (c := 3) (j := 3) f_31_9 (by decide) (by decide) (by decide) ?_
  refine e_aload f_31_12 rfl (by decide) ?_
  refine e_gf (c := 3) (j := 1) f_31_13 (by decide) (by decide) (by decide) ?_
  refine e_icmp f_31_16 (fun hc => ?_) (fun hc => ?_)
  · have hc := x_cct_ge hc
    rw [if_pos hc] at hV
    exact hV
  · have hc := x_ccf_ge hc
    rw [if_neg hc] at hV
    refine e_aload f_31_19 rfl (by decide) ?_
    refine e_aload f_31_20 rfl (by decide) ?_
    refine e_gf (c := 3) (j := 3) f_31_21 (by decide) (by decide) (by decide) ?_
    obtain ⟨P1, hP1, hV⟩ := hV
    refine e_vi (n := 2) (A := [.ref 10, .int (S 10 3)]) (R := []) f_31_24 na_32 rfl rfl (Nat.le_of_ble_eq_true rfl) (Nat.le_of_ble_eq_true rfl) (by rw [ml_32]; exact Nat.le_of_ble_eq_true rfl) rfl (by rw [cy_32]; decide) (by rw [cy_32]; exact (by decide : x_tg 10 = 3)) hP1 (fun v1 S1 hp1 => ?_)
    have hV := hV v1 S1 hp1
    obtain ⟨P2, hP2, hV⟩ := hV
    refine e_si (n := 1) (A := [.int v1]) (R := []) f_31_27 na_33 rfl rfl (Nat.le_of_ble_eq_true rfl) (Nat.le_of_ble_eq_true rfl) (by rw [ml_33]; exact Nat.le_of_ble_eq_true rfl) hP2 (fun v2 S2 hp2 => ?_)
    have hV := hV v2 S2 hp2
    refine e_if f_31_30 (fun hc => ?_) (fun hc => ?_)
    · have hc := x_cct_eq hc
      rw [if_pos hc] at hV
      exact hV
    · have hc := x_ccf_eq hc
      rw [if_neg hc] at hV
      refine e_aload f_31_33 rfl (by decide) ?_
      refine e_dup f_31_34 rfl ?_
      refine e_gf (c := 3) (j := 3) f_31_35 (by decide) (by decide) (by decide) ?_
      refine e_iconst (c := 1) f_31_38 (by decide) ?_
      refine e_iadd f_31_39 ?_
      refine e_pfn (c := 3) (j := 3) f_31_40 (by decide) (by decide) (by decide) (x_fit_i rfl) (fun S3 hS3 => ?_)
      have hV := hV S3 hS3
      refine e_goto f_31_43 ?_
      exact hV
set_option maxRecDepth 20000 in
theorem T_31_46 {xs : List Int32} {d : Nat} {S : x_M} {Q : Option Value → x_M → Prop}   (hV : ∀ S1 : x_M, S1 = x_up S 10 4 (S 10 3) → (if (S1 10 3) < (S1 10 1) then (∃ P2 : Int32 → x_M → Prop, x_Ci xs d 32 [.ref 10, .int (S1 10 3)] S1 P2 ∧ ∀ (v2 : Int32) (S2 : x_M), P2 v2 S2 → (∃ P3 : Int32 → x_M → Prop, x_Ci xs d 34 [.int v2] S2 P3 ∧ ∀ (v3 : Int32) (S3 : x_M), P3 v3 S3 → (if v3 = 0 then (∃ P4 : Int32 → x_M → Prop, x_Ci xs d 32 [.ref 10, .int (S3 10 3)] S3 P4 ∧ ∀ (v4 : Int32) (S4 : x_M), P4 v4 S4 → (∃ P5 : Int32 → x_M → Prop, x_Ci xs d 36 [.int v4] S4 P5 ∧ ∀ (v5 : Int32) (S5 : x_M), P5 v5 S5 → (if v5 = 0 then (∃ P6 : Int32 → x_M → Prop, x_Ci xs d 32 [.ref 10, .int (S5 10 3)] S5 P6 ∧ ∀ (v6 : Int32) (S6 : x_M), P6 v6 S6 → (if v6 = 59 then (∀ S9 : x_M, S9 = x_up S6 10 2 3 → (∀ S10 : x_M, S10 = x_up S9 10 4 ((S9 10 3) + 1) → (Q none S10))) else (∀ S7 : x_M, S7 = x_up S6 10 2 4 → (∀ S8 : x_M, S8 = x_up S7 10 4 ((S7 10 3) + 1) → (Q none S8))))) else (∃ P11 : x_M → Prop, x_Cv xs d 37 [.ref 10] S5 P11 ∧ ∀ (S11 : x_M), P11 S11 → (Q none S11))))) else (∃ P12 : x_M → Prop, x_Cv xs d 35 [.ref 10] S3 P12 ∧ ∀ (S12 : x_M), P12 S12 → (Q none S12))))) else (∀ S13 : x_M, S13 = x_up S1 10 2 0 → (Q none S13)))) : x_E xs (d + 1) 31 46 [.ref 10] [] S Q := by
  refine e_aload f_31_46 rfl (by decide) ?_
  refine e_aload f_31_47 rfl (by decide) ?_
  refine e_gf (c := 3) (j := 3) f_31_48 (by decide) (by decide) (by decide) ?_
  refine e_pfn (c := 3) (j := 4) f_31_51 (by decide) (by decide) (by decide) (x_fit_i rfl) (fun S1 hS1 => ?_)
  have hV := hV S1 hS1
  refine e_aload f_31_54 rfl (by decide) ?_
  refine e_gf (c := 3) (j := 3) f_31_55 (by decide) (by decide) (by decide) ?_
  refine e_aload f_31_58 rfl (by decide) ?_
  refine e_gf (c := 3) (j := 1) f_31_59 (by decide) (by decide) (by decide) ?_
  refine e_icmp f_31_62 (fun hc => ?_) (fun hc => ?_)
  · have hc := x_cct_lt hc
    rw [if_pos hc] at hV
    refine e_aload f_31_73 rfl (by decide) ?_
    refine e_aload f_31_74 rfl (by decide) ?_
    refine e_gf (c := 3) (j := 3) f_31_75 (by decide) (by decide) (by decide) ?_
    obtain ⟨P2, hP2, hV⟩ := hV
    refine e_vi (n := 2) (A := [.ref 10, .int (S1 10 3)]) (R := []) f_31_78 na_32 rfl rfl (Nat.le_of_ble_eq_true rfl) (Nat.le_of_ble_eq_true rfl) (by rw [ml_32]; exact Nat.le_of_ble_eq_true rfl) rfl (by rw [cy_32]; decide) (by rw [cy_32]; exact (by decide : x_tg 10 = 3)) hP2 (fun v2 S2 hp2 => ?_)
    have hV := hV v2 S2 hp2
    obtain ⟨P3, hP3, hV⟩ := hV
    refine e_si (n := 1) (A := [.int v2]) (R := []) f_31_81 na_34 rfl rfl (Nat.le_of_ble_eq_true rfl) (Nat.le_of_ble_eq_true rfl) (by rw [ml_34]; exact Nat.le_of_ble_eq_true rfl) hP3 (fun v3 S3 hp3 => ?_)
    have hV := hV v3 S3 hp3
    refine e_if f_31_84 (fun hc => ?_) (fun hc => ?_)
    · have hc := x_cct_eq hc
      rw [if_pos hc] at hV
      refine e_aload f_31_94 rfl (by decide) ?_
      refine e_aload f_31_95 rfl (by decide) ?_
      refine e_gf (c := 3) (j := 3) f_31_96 (by decide) (by decide) (by decide) ?_
      obtain ⟨P4, hP4, hV⟩ := hV
      refine e_vi (n := 2) (A := [.ref 10, .int (S3 10 3)]) (R := []) f_31_99 na_32 rfl rfl (Nat.le_of_ble_eq_true rfl) (Nat.le_of_ble_eq_true rfl) (by rw [ml_32]; exact Nat.le_of_ble_eq_true rfl) rfl (by rw [cy_32]; decide) (by rw [cy_32]; exact (by decide : x_tg 10 = 3)) hP4 (fun v4 S4 hp4 => ?_)
      have hV := hV v4 S4 hp4
      obtain ⟨P5, hP5, hV⟩ := hV
      refine e_si (n := 1) (A := [.int v4]) (R := []) f_31_102 na_36 rfl rfl (Nat.le_of_ble_eq_true rfl) (Nat.le_of_ble_eq_true rfl) (by rw [ml_36]; exact Nat.le_of_ble_eq_true rfl) hP5 (fun v5 S5 hp5 => ?_)
      have hV := hV v5 S5 hp5
      refine e_if f_31_105 (fun hc => ?_) (fun hc => ?_)
      · have hc := x_cct_eq hc
        rw [if_pos hc] at hV
        refine e_aload f_31_115 rfl (by decide) ?_
        refine e_aload f_31_116 rfl (by decide) ?_
        refine e_aload f_31_117 rfl (by decide) ?_
        refine e_gf (c := 3) (j := 3) f_31_118 (by decide) (by decide) (by decide) ?_
        obtain ⟨P6, hP6, hV⟩ := hV
        refine e_vi (n := 2) (A := [.ref 10, .int (S5 10 3)]) (R := [.ref 10]) f_31_121 na_32 rfl rfl (Nat.le_of_ble_eq_true rfl) (Nat.le_of_ble_eq_true rfl) (by rw [ml_32]; exact Nat.le_of_ble_eq_true rfl) rfl (by rw [cy_32]; decide) (by rw [cy_32]; exact (by decide : x_tg 10 = 3)) hP6 (fun v6 S6 hp6 => ?_)
        have hV := hV v6 S6 hp6
        refine e_iconst (c := 59) f_31_124 (by decide) ?_
        refine e_icmp f_31_126 (fun hc => ?_) (fun hc => ?_)
        · have hc := x_cct_ne hc
          rw [if_neg hc] at hV
          refine e_iconst (c := 4) f_31_133 (by decide) ?_
          refine e_pfn (c := 3) (j := 2) f_31_134 (by decide) (by decide) (by decide) (x_fit_i rfl) (fun S7 hS7 => ?_)
          have hV := hV S7 hS7
          refine e_aload f_31_137 rfl (by decide) ?_
          refine e_aload f_31_138 rfl (by decide) ?_
          refine e_gf (c := 3) (j := 3) f_31_139 (by decide) (by decide) (by decide) ?_
          refine e_iconst (c := 1) f_31_142 (by decide) ?_
          refine e_iadd f_31_143 ?_
          refine e_pfn (c := 3) (j := 4) f_31_144 (by decide) (by decide) (by decide) (x_fit_i rfl) (fun S8 hS8 => ?_)
          have hV := hV S8 hS8
          exact e_return f_31_147 rt_31 hV
        · have hc := x_ccf_ne hc
          rw [if_pos hc] at hV
          refine e_iconst (c := 3) f_31_129 (by decide) ?_
          refine e_goto f_31_130 ?_
          refine e_pfn (c := 3) (j := 2) f_31_134 (by decide) (by decide) (by decide) (x_fit_i rfl) (fun S9 hS9 => ?_)
          have hV := hV S9 hS9
          refine e_aload f_31_137 rfl (by decide) ?_
          refine e_aload f_31_138 rfl (by decide) ?_
          refine e_gf (c := 3) (j := 3) f_31_139 (by decide) (by decide) (by decide) ?_
          refine e_iconst (c := 1) f_31_142 (by decide) ?_
          refine e_iadd f_31_143 ?_
          refine e_pfn (c := 3) (j := 4) f_31_144 (by decide) (by decide) (by decide) (x_fit_i rfl) (fun S10 hS10 => ?_)
          have hV := hV S10 hS10
          exact e_return f_31_147 rt_31 hV
      · have hc := x_ccf_eq hc
        rw [if_neg hc] at hV
        refine e_aload f_31_108 rfl (by decide) ?_
        obtain ⟨P11, hP11, hV⟩ := hV
        refine e_vv (n := 1) (A := [.ref 10]) (R := []) f_31_109 na_37 rfl rfl (Nat.le_of_ble_eq_true rfl) (Nat.le_of_ble_eq_true rfl) (by rw [ml_37]; exact Nat.le_of_ble_eq_true rfl) rfl (by rw [cy_37]; decide) (by rw [cy_37]; exact (by decide : x_tg 10 = 3)) hP11 (fun S11 hp11 => ?_)
        have hV := hV S11 hp11
        refine e_goto f_31_112 ?_
        exact e_return f_31_147 rt_31 hV
    · have hc := x_ccf_eq hc
      rw [if_neg hc] at hV
      refine e_aload f_31_87 rfl (by decide) ?_
      obtain ⟨P12, hP12, hV⟩ := hV
      refine e_vv (n := 1) (A := [.ref 10]) (R := []) f_31_88 na_35 rfl rfl (Nat.le_of_ble_eq_true rfl) (Nat.le_of_ble_eq_true rfl) (by rw [ml_35]; exact Nat.le_of_ble_eq_true rfl) rfl (by rw [cy_35]; decide) (by rw [cy_35]; exact (by decide : x_tg 10 = 3)) hP12 (fun S12 hp12 => ?_)
      have hV := hV S12 hp12
      refine e_goto f_31_91 ?_
      exact e_return f_31_147 rt_31 hV
  · have hc := x_ccf_lt hc
    rw [if_neg hc] at hV
    refine e_aload f_31_65 rfl (by decide) ?_
    refine e_iconst (c := 0) f_31_66 (by decide) ?_
    refine e_pfn (c := 3) (j := 2) f_31_67 (by decide) (by decide) (by decide) (x_fit_i rfl) (fun S13 hS13 => ?_)
    have hV := hV S13 hS13
    refine e_goto f_31_70 ?_
    exact e_return f_31_147 rt_31 hV
set_option maxRecDepth 20000 in
theorem T_32_0 {xs : List Int32} {d : Nat} {S : x_M} {Q : Option Value → x_M → Prop} {a1 : Int32}  (hV : if a1 < 0 then (Q (some (.int (-1))) S) else (if (S 10 1) ≤ a1 then (Q (some (.int (-1))) S) else (if (400 : Int32) ≤ a1 then (Q (some (.int (-1))) S) else ((x_ib a1 400) ∧ (Q (some (.int (S 11 (Int32.toNatClampNeg a1)))) S))))) : x_E xs (d + 1) 32 0 [.ref 10, .int a1] [] S Q := by
  refine e_iload f_32_0 rfl ?_
  refine e_if f_32_1 (fun hc => ?_) (fun hc => ?_)
  · have hc := x_cct_lt hc
    rw [if_pos hc] at hV
    refine e_iconst (c := (-1)) f_32_30 (by decide) ?_
    exact e_ireturn f_32_31 rt_32 rfl hV
  · have hc := x_ccf_lt hc
    rw [if_neg hc] at hV
    refine e_iload f_32_4 rfl ?_
    refine e_aload f_32_5 rfl (by decide) ?_
    refine e_gf (c := 3) (j := 1) f_32_6 (by decide) (by decide) (by decide) ?_
    refine e_icmp f_32_9 (fun hc => ?_) (fun hc => ?_)
    · have hc := x_cct_ge hc
      rw [if_pos hc] at hV
      refine e_iconst (c := (-1)) f_32_30 (by decide) ?_
      exact e_ireturn f_32_31 rt_32 rfl hV
    · have hc := x_ccf_ge hc
      rw [if_neg hc] at hV
      refine e_iload f_32_12 rfl ?_
      refine e_aload f_32_13 rfl (by decide) ?_
      refine e_gr (c := 3) (j := 0) (r := 11) f_32_14 (by decide) (by decide) (by decide) (by decide) ?_
      refine e_al (c := 10) (n := 400) (v := 400) f_32_17 (by decide) (by decide) (by decide) (by decide) ?_
      refine e_icmp f_32_18 (fun hc => ?_) (fun hc => ?_)
      · have hc := x_cct_ge hc
        rw [if_pos hc] at hV
        refine e_iconst (c := (-1)) f_32_30 (by decide) ?_
        exact e_ireturn f_32_31 rt_32 rfl hV
      · have hc := x_ccf_ge hc
        rw [if_neg hc] at hV
        refine e_aload f_32_21 rfl (by decide) ?_
        refine e_gr (c := 3) (j := 0) (r := 11) f_32_22 (by decide) (by decide) (by decide) (by decide) ?_
        refine e_iload f_32_25 rfl ?_
        obtain ⟨hg, hV⟩ := hV
        refine e_ia (n := 400) f_32_26 (by decide) (by decide) hg ?_
        refine e_goto f_32_27 ?_
        exact e_ireturn f_32_31 rt_32 rfl hV
set_option maxRecDepth 20000 in
theorem T_33_0 {xs : List Int32} {d : Nat} {S : x_M} {Q : Option Value → x_M → Prop} {a0 : Int32}  (hV : if a0 = 32 then (Q (some (.int 1)) S) else (if a0 = 10 then (Q (some (.int 1)) S) else (Q (some (.int 0)) S))) : x_E xs (d + 1) 33 0 [.int a0] [] S Q := by
  refine e_iload f_33_0 rfl ?_
  refine e_iconst (c := 32) f_33_1 (by decide) ?_
  refine e_icmp f_33_3 (fun hc => ?_) (fun hc => ?_)
  · have hc := x_cct_eq hc
    rw [if_pos hc] at hV
    refine e_iconst (c := 1) f_33_12 (by decide) ?_
    refine e_goto f_33_13 ?_
    exact e_ireturn f_33_17 rt_33 (by decide) hV
  · have hc := x_ccf_eq hc
    rw [if_neg hc] at hV
    refine e_iload f_33_6 rfl ?_
    refine e_iconst (c := 10) f_33_7 (by decide) ?_
    refine e_icmp f_33_9 (fun hc => ?_) (fun hc => ?_)
    · have hc := x_cct_ne hc
      rw [if_neg hc] at hV
      refine e_iconst (c := 0) f_33_16 (by decide) ?_
      exact e_ireturn f_33_17 rt_33 (by decide) hV
    · have hc := x_ccf_ne hc
      rw [if_pos hc] at hV
      refine e_iconst (c := 1) f_33_12 (by decide) ?_
      refine e_goto f_33_13 ?_
      exact e_ireturn f_33_17 rt_33 (by decide) hV
set_option maxRecDepth 20000 in
theorem T_34_0 {xs : List Int32} {d : Nat} {S : x_M} {Q : Option Value → x_M → Prop} {a0 : Int32}  (hV : if a0 < 97 then (Q (some (.int 0)) S) else (if (122 : Int32) < a0 then (Q (some (.int 0)) S) else (Q (some (.int 1)) S))) : x_E xs (d + 1) 34 0 [.int a0] [] S Q := by
  refine e_iload f_34_0 rfl ?_
  refine e_iconst (c := 97) f_34_1 (by decide) ?_
  refine e_icmp f_34_3 (fun hc => ?_) (fun hc => ?_)
  · have hc := x_cct_lt hc
    rw [if_pos hc] at hV
    refine e_iconst (c := 0) f_34_16 (by decide) ?_
    exact e_ireturn f_34_17 rt_34 (by decide) hV
  · have hc := x_ccf_lt hc
    rw [if_neg hc] at hV
    refine e_iload f_34_6 rfl ?_
    refine e_iconst (c := 122) f_34_7 (by decide) ?_
    refine e_icmp f_34_9 (fun hc => ?_) (fun hc => ?_)
    · have hc := x_cct_gt hc
      rw [if_pos hc] at hV
      refine e_iconst (c := 0) f_34_16 (by decide) ?_
      exact e_ireturn f_34_17 rt_34 (by decide) hV
    · have hc := x_ccf_gt hc
      rw [if_neg hc] at hV
      refine e_iconst (c := 1) f_34_12 (by decide) ?_
      refine e_goto f_34_13 ?_
      exact e_ireturn f_34_17 rt_34 (by decide) hV
set_option maxRecDepth 20000 in
theorem T_35_0 {xs : List Int32} {d : Nat} {S : x_M} {Q : Option Value → x_M → Prop}   (hV : ∀ S1 : x_M, S1 = x_up S 10 2 1 → (x_E xs (d + 1) 35 5 [.ref 10] [] S1 Q)) : x_E xs (d + 1) 35 0 [.ref 10] [] S Q := by
  refine e_aload f_35_0 rfl (by decide) ?_
  refine e_iconst (c := 1) f_35_1 (by decide) ?_
  refine e_pfn (c := 3) (j := 2) f_35_2 (by decide) (by decide) (by decide) (x_fit_i rfl) (fun S1 hS1 => ?_)
  have hV := hV S1 hS1
  exact hV
set_option maxRecDepth 20000 in
theorem T_35_5 {xs : List Int32} {d : Nat} {S : x_M} {Q : Option Value → x_M → Prop}   (hV : if (S 10 1) ≤ (S 10 4) then (Q none S) else (∃ P1 : Int32 → x_M → Prop, x_Ci xs d 32 [.ref 10, .int (S 10 4)] S P1 ∧ ∀ (v1 : Int32) (S1 : x_M), P1 v1 S1 → (∃ P2 : Int32 → x_M → Prop, x_Ci xs d 34 [.int v1] S1 P2 ∧ ∀ (v2 : Int32) (S2 : x_M), P2 v2 S2 → (if v2 = 0 then (Q none S2) else (∀ S3 : x_M, S3 = x_up S2 10 4 ((S2 10 4) + 1) → (x_E xs (d + 1) 35 5 [.ref 10] [] S3 Q)))))) : x_E xs (d + 1) 35 5 [.ref 10] [] S Q := by
  refine e_aload f_35_5 rfl (by decide) ?_
  refine e_gf (c := 3) (j := 4) f_35_6 (by decide) (by decide) (by decide) ?_
  refine e_aload f_35_9 rfl (by decide) ?_
  refine e_gf (c := 3) (j := 1) f_35_10 (by decide) (by decide) (by decide) ?_
  refine e_icmp f_35_13 (fun hc => ?_) (fun hc => ?_)
  · have hc := x_cct_ge hc
    rw [if_pos hc] at hV
    exact e_return f_35_43 rt_35 hV
  · have hc := x_ccf_ge hc
    rw [if_neg hc] at hV
    refine e_aload f_35_16 rfl (by decide) ?_
    refine e_aload f_35_17 rfl (by decide) ?_
    refine e_gf (c := 3) (j := 4) f_35_18 (by decide) (by decide) (by decide) ?_
    obtain ⟨P1, hP1, hV⟩ := hV
    refine e_vi (n := 2) (A := [.ref 10, .int (S 10 4)]) (R := []) f_35_21 na_32 rfl rfl (Nat.le_of_ble_eq_true rfl) (Nat.le_of_ble_eq_true rfl) (by rw [ml_32]; exact Nat.le_of_ble_eq_true rfl) rfl (by rw [cy_32]; decide) (by rw [cy_32]; exact (by decide : x_tg 10 = 3)) hP1 (fun v1 S1 hp1 => ?_)
    have hV := hV v1 S1 hp1
    obtain ⟨P2, hP2, hV⟩ := hV
    refine e_si (n := 1) (A := [.int v1]) (R := []) f_35_24 na_34 rfl rfl (Nat.le_of_ble_eq_true rfl) (Nat.le_of_ble_eq_true rfl) (by rw [ml_34]; exact Nat.le_of_ble_eq_true rfl) hP2 (fun v2 S2 hp2 => ?_)
    have hV := hV v2 S2 hp2
    refine e_if f_35_27 (fun hc => ?_) (fun hc => ?_)
    · have hc := x_cct_eq hc
      rw [if_pos hc] at hV
      exact e_return f_35_43 rt_35 hV
    · have hc := x_ccf_eq hc
      rw [if_neg hc] at hV
      refine e_aload f_35_30 rfl (by decide) ?_
      refine e_dup f_35_31 rfl ?_
      refine e_gf (c := 3) (j := 4) f_35_32 (by decide) (by decide) (by decide) ?_
      refine e_iconst (c := 1) f_35_35 (by decide) ?_
      refine e_iadd f_35_36 ?_
      refine e_pfn (c := 3) (j := 4) f_35_37 (by decide) (by decide) (by decide) (x_fit_i rfl) (fun S3 hS3 => ?_)
      have hV := hV S3 hS3
      refine e_goto f_35_40 ?_
      exact hV
set_option maxRecDepth 20000 in
theorem T_36_0 {xs : List Int32} {d : Nat} {S : x_M} {Q : Option Value → x_M → Prop} {a0 : Int32}  (hV : if a0 < 48 then (Q (some (.int 0)) S) else (if (57 : Int32) < a0 then (Q (some (.int 0)) S) else (Q (some (.int 1)) S))) : x_E xs (d + 1) 36 0 [.int a0] [] S Q := by
  refine e_iload f_36_0 rfl ?_
  refine e_iconst (c := 48) f_36_1 (by decide) ?_
  refine e_icmp f_36_3 (fun hc => ?_) (fun hc => ?_)
  · have hc := x_cct_lt hc
    rw [if_pos hc] at hV
    refine e_iconst (c := 0) f_36_16 (by decide) ?_
    exact e_ireturn f_36_17 rt_36 (by decide) hV
  · have hc := x_ccf_lt hc
    rw [if_neg hc] at hV
    refine e_iload f_36_6 rfl ?_
    refine e_iconst (c := 57) f_36_7 (by decide) ?_
    refine e_icmp f_36_9 (fun hc => ?_) (fun hc => ?_)
    · have hc := x_cct_gt hc
      rw [if_pos hc] at hV
      refine e_iconst (c := 0) f_36_16 (by decide) ?_
      exact e_ireturn f_36_17 rt_36 (by decide) hV
    · have hc := x_ccf_gt hc
      rw [if_neg hc] at hV
      refine e_iconst (c := 1) f_36_12 (by decide) ?_
      refine e_goto f_36_13 ?_
      exact e_ireturn f_36_17 rt_36 (by decide) hV
set_option maxRecDepth 20000 in
theorem T_37_0 {xs : List Int32} {d : Nat} {S : x_M} {Q : Option Value → x_M → Prop}   (hV : ∀ S1 : x_M, S1 = x_up S 10 5 0 → (x_E xs (d + 1) 37 5 [.ref 10] [] S1 Q)) : x_E xs (d + 1) 37 0 [.ref 10] [] S Q := by
  refine e_aload f_37_0 rfl (by decide) ?_
  refine e_iconst (c := 0) f_37_1 (by decide) ?_
  refine e_pfn (c := 3) (j := 5) f_37_2 (by decide) (by decide) (by decide) (x_fit_i rfl) (fun S1 hS1 => ?_)
  have hV := hV S1 hS1
  exact hV
set_option maxRecDepth 20000 in
theorem T_37_5 {xs : List Int32} {d : Nat} {S : x_M} {Q : Option Value → x_M → Prop}   (hV : if (S 10 1) ≤ (S 10 4) then (if (3 : Int32) < ((S 10 4) - (S 10 3)) then (∀ S1 : x_M, S1 = x_up S 10 2 4 → (Q none S1)) else (∀ S2 : x_M, S2 = x_up S 10 2 2 → (Q none S2))) else (∃ P3 : Int32 → x_M → Prop, x_Ci xs d 32 [.ref 10, .int (S 10 4)] S P3 ∧ ∀ (v3 : Int32) (S3 : x_M), P3 v3 S3 → (∃ P4 : Int32 → x_M → Prop, x_Ci xs d 36 [.int v3] S3 P4 ∧ ∀ (v4 : Int32) (S4 : x_M), P4 v4 S4 → (if v4 = 0 then (if (3 : Int32) < ((S4 10 4) - (S4 10 3)) then (∀ S5 : x_M, S5 = x_up S4 10 2 4 → (Q none S5)) else (∀ S6 : x_M, S6 = x_up S4 10 2 2 → (Q none S6))) else (if (3 : Int32) ≤ ((S4 10 4) - (S4 10 3)) then (∀ S7 : x_M, S7 = x_up S4 10 4 ((S4 10 4) + 1) → (x_E xs (d + 1) 37 5 [.ref 10] [] S7 Q)) else (∃ P8 : Int32 → x_M → Prop, x_Ci xs d 32 [.ref 10, .int (S4 10 4)] S4 P8 ∧ ∀ (v8 : Int32) (S8 : x_M), P8 v8 S8 → (∀ S9 : x_M, S9 = x_up S8 10 5 (((10 * (S4 10 5)) + v8) - 48) → (∀ S10 : x_M, S10 = x_up S9 10 4 ((S9 10 4) + 1) → (x_E xs (d + 1) 37 5 [.ref 10] [] S10 Q))))))))) : x_E xs (d + 1) 37 5 [.ref 10] [] S Q := by
  refine e_aload f_37_5 rfl (by decide) ?_
  refine e_gf (c := 3) (j := 4) f_37_6 (by decide) (by decide) (by decide) ?_
  refine e_aload f_37_9 rfl (by decide) ?_
  refine e_gf (c := 3) (j := 1) f_37_10 (by decide) (by decide) (by decide) ?_
  refine e_icmp f_37_13 (fun hc => ?_) (fun hc => ?_)
  · have hc := x_cct_ge hc
    rw [if_pos hc] at hV
    refine e_aload f_37_79 rfl (by decide) ?_
    refine e_aload f_37_80 rfl (by decide) ?_
    refine e_gf (c := 3) (j := 4) f_37_81 (by decide) (by decide) (by decide) ?_
    refine e_aload f_37_84 rfl (by decide) ?_
    refine e_gf (c := 3) (j := 3) f_37_85 (by decide) (by decide) (by decide) ?_
    refine e_isub f_37_88 ?_
    refine e_iconst (c := 3) f_37_89 (by decide) ?_
    refine e_icmp f_37_90 (fun hc => ?_) (fun hc => ?_)
    · have hc := x_cct_gt hc
      rw [if_pos hc] at hV
      refine e_iconst (c := 4) f_37_97 (by decide) ?_
      refine e_pfn (c := 3) (j := 2) f_37_98 (by decide) (by decide) (by decide) (x_fit_i rfl) (fun S1 hS1 => ?_)
      have hV := hV S1 hS1
      exact e_return f_37_101 rt_37 hV
    · have hc := x_ccf_gt hc
      rw [if_neg hc] at hV
      refine e_iconst (c := 2) f_37_93 (by decide) ?_
      refine e_goto f_37_94 ?_
      refine e_pfn (c := 3) (j := 2) f_37_98 (by decide) (by decide) (by decide) (x_fit_i rfl) (fun S2 hS2 => ?_)
      have hV := hV S2 hS2
      exact e_return f_37_101 rt_37 hV
  · have hc := x_ccf_ge hc
    rw [if_neg hc] at hV
    refine e_aload f_37_16 rfl (by decide) ?_
    refine e_aload f_37_17 rfl (by decide) ?_
    refine e_gf (c := 3) (j := 4) f_37_18 (by decide) (by decide) (by decide) ?_
    obtain ⟨P3, hP3, hV⟩ := hV
    refine e_vi (n := 2) (A := [.ref 10, .int (S 10 4)]) (R := []) f_37_21 na_32 rfl rfl (Nat.le_of_ble_eq_true rfl) (Nat.le_of_ble_eq_true rfl) (by rw [ml_32]; exact Nat.le_of_ble_eq_true rfl) rfl (by rw [cy_32]; decide) (by rw [cy_32]; exact (by decide : x_tg 10 = 3)) hP3 (fun v3 S3 hp3 => ?_)
    have hV := hV v3 S3 hp3
    obtain ⟨P4, hP4, hV⟩ := hV
    refine e_si (n := 1) (A := [.int v3]) (R := []) f_37_24 na_36 rfl rfl (Nat.le_of_ble_eq_true rfl) (Nat.le_of_ble_eq_true rfl) (by rw [ml_36]; exact Nat.le_of_ble_eq_true rfl) hP4 (fun v4 S4 hp4 => ?_)
    have hV := hV v4 S4 hp4
    refine e_if f_37_27 (fun hc => ?_) (fun hc => ?_)
    · have hc := x_cct_eq hc
      rw [if_pos hc] at hV
      refine e_aload f_37_79 rfl (by decide) ?_
      refine e_aload f_37_80 rfl (by decide) ?_
      refine e_gf (c := 3) (j := 4) f_37_81 (by decide) (by decide) (by decide) ?_
      refine e_aload f_37_84 rfl (by decide) ?_
      refine e_gf (c := 3) (j := 3) f_37_85 (by decide) (by decide) (by decide) ?_
      refine e_isub f_37_88 ?_
      refine e_iconst (c := 3) f_37_89 (by decide) ?_
      refine e_icmp f_37_90 (fun hc => ?_) (fun hc => ?_)
      · have hc := x_cct_gt hc
        rw [if_pos hc] at hV
        refine e_iconst (c := 4) f_37_97 (by decide) ?_
        refine e_pfn (c := 3) (j := 2) f_37_98 (by decide) (by decide) (by decide) (x_fit_i rfl) (fun S5 hS5 => ?_)
        have hV := hV S5 hS5
        exact e_return f_37_101 rt_37 hV
      · have hc := x_ccf_gt hc
        rw [if_neg hc] at hV
        refine e_iconst (c := 2) f_37_93 (by decide) ?_
        refine e_goto f_37_94 ?_
        refine e_pfn (c := 3) (j := 2) f_37_98 (by decide) (by decide) (by decide) (x_fit_i rfl) (fun S6 hS6 => ?_)
        have hV := hV S6 hS6
        exact e_return f_37_101 rt_37 hV
    · have hc := x_ccf_eq hc
      rw [if_neg hc] at hV
      refine e_aload f_37_30 rfl (by decide) ?_
      refine e_gf (c := 3) (j := 4) f_37_31 (by decide) (by decide) (by decide) ?_
      refine e_aload f_37_34 rfl (by decide) ?_
      refine e_gf (c := 3) (j := 3) f_37_35 (by decide) (by decide) (by decide) ?_
      refine e_isub f_37_38 ?_
      refine e_iconst (c := 3) f_37_39 (by decide) ?_
      refine e_icmp f_37_40 (fun hc => ?_) (fun hc => ?_)
      · have hc := x_cct_ge hc
        rw [if_pos hc] at hV
        refine e_aload f_37_66 rfl (by decide) ?_
        refine e_dup f_37_67 rfl ?_
        refine e_gf (c := 3) (j := 4) f_37_68 (by decide) (by decide) (by decide) ?_
        refine e_iconst (c := 1) f_37_71 (by decide) ?_
        refine e_iadd f_37_72 ?_
        refine e_pfn (c := 3) (j := 4) f_37_73 (by decide) (by decide) (by decide) (x_fit_i rfl) (fun S7 hS7 => ?_)
        have hV := hV S7 hS7
        refine e_goto f_37_76 ?_
        exact hV
      · have hc := x_ccf_ge hc
        rw [if_neg hc] at hV
        refine e_aload f_37_43 rfl (by decide) ?_
        refine e_iconst (c := 10) f_37_44 (by decide) ?_
        refine e_aload f_37_46 rfl (by decide) ?_
        refine e_gf (c := 3) (j := 5) f_37_47 (by decide) (by decide) (by decide) ?_
        refine e_imul f_37_50 ?_
        refine e_aload f_37_51 rfl (by decide) ?_
        refine e_aload f_37_52 rfl (by decide) ?_
        refine e_gf (c := 3) (j := 4) f_37_53 (by decide) (by decide) (by decide) ?_
        obtain ⟨P8, hP8, hV⟩ := hV
        refine e_vi (n := 2) (A := [.ref 10, .int (S4 10 4)]) (R := [.int (10 * (S4 10 5)), .ref 10]) f_37_56 na_32 rfl rfl (Nat.le_of_ble_eq_true rfl) (Nat.le_of_ble_eq_true rfl) (by rw [ml_32]; exact Nat.le_of_ble_eq_true rfl) rfl (by rw [cy_32]; decide) (by rw [cy_32]; exact (by decide : x_tg 10 = 3)) hP8 (fun v8 S8 hp8 => ?_)
        have hV := hV v8 S8 hp8
        refine e_iadd f_37_59 ?_
        refine e_iconst (c := 48) f_37_60 (by decide) ?_
        refine e_isub f_37_62 ?_
        refine e_pfn (c := 3) (j := 5) f_37_63 (by decide) (by decide) (by decide) (x_fit_i rfl) (fun S9 hS9 => ?_)
        have hV := hV S9 hS9
        refine e_aload f_37_66 rfl (by decide) ?_
        refine e_dup f_37_67 rfl ?_
        refine e_gf (c := 3) (j := 4) f_37_68 (by decide) (by decide) (by decide) ?_
        refine e_iconst (c := 1) f_37_71 (by decide) ?_
        refine e_iadd f_37_72 ?_
        refine e_pfn (c := 3) (j := 4) f_37_73 (by decide) (by decide) (by decide) (x_fit_i rfl) (fun S10 hS10 => ?_)
        have hV := hV S10 hS10
        refine e_goto f_37_76 ?_
        exact hV
set_option maxRecDepth 20000 in
theorem T_38_0 {xs : List Int32} {d : Nat} {S : x_M} {Q : Option Value → x_M → Prop} {a1 : Nat} (ha1 : a1 = 3 ∨ a1 = 4) (hV : if (S 10 2) = 1 then (∃ P1 : Int32 → x_M → Prop, x_Ci xs d 173 [.ref a1] S P1 ∧ ∀ (v1 : Int32) (S1 : x_M), P1 v1 S1 → (if ((S 10 4) - (S 10 3)) = v1 then (x_E xs (d + 1) 38 28 [.ref 10, .ref a1, .int 0] [] S1 Q) else (Q (some (.int 0)) S1))) else (Q (some (.int 0)) S)) : x_E xs (d + 1) 38 0 [.ref 10, .ref a1, .null] [] S Q := by
  refine e_aload f_38_0 rfl (by decide) ?_
  refine e_gf (c := 3) (j := 2) f_38_1 (by decide) (by decide) (by decide) ?_
  refine e_iconst (c := 1) f_38_4 (by decide) ?_
  refine e_icmp f_38_5 (fun hc => ?_) (fun hc => ?_)
  · have hc := x_cct_ne hc
    rw [if_neg hc] at hV
    refine e_iconst (c := 0) f_38_24 (by decide) ?_
    exact e_ireturn f_38_25 rt_38 (by decide) hV
  · have hc := x_ccf_ne hc
    rw [if_pos hc] at hV
    refine e_aload f_38_8 rfl (by decide) ?_
    refine e_gf (c := 3) (j := 4) f_38_9 (by decide) (by decide) (by decide) ?_
    refine e_aload f_38_12 rfl (by decide) ?_
    refine e_gf (c := 3) (j := 3) f_38_13 (by decide) (by decide) (by decide) ?_
    refine e_isub f_38_16 ?_
    refine e_aload f_38_17 rfl (by omega) ?_
    obtain ⟨P1, hP1, hV⟩ := hV
    refine e_wi (n := 1) (A := [.ref a1]) (R := [.int ((S 10 4) - (S 10 3))]) f_38_18 na_173 rfl rfl (Nat.le_of_ble_eq_true rfl) (Nat.le_of_ble_eq_true rfl) (by rw [ml_173]; exact Nat.le_of_ble_eq_true rfl) rfl ha1 (by rw [cy_173]) hP1 (fun v1 S1 hp1 => ?_)
    have hV := hV v1 S1 hp1
    refine e_icmp f_38_21 (fun hc => ?_) (fun hc => ?_)
    · have hc := x_cct_eq hc
      rw [if_pos hc] at hV
      refine e_iconst (c := 0) f_38_26 (by decide) ?_
      refine e_istore (L' := [.ref 10, .ref a1, .int 0]) f_38_27 (Nat.le_of_ble_eq_true rfl) rfl ?_
      exact hV
    · have hc := x_ccf_eq hc
      rw [if_neg hc] at hV
      refine e_iconst (c := 0) f_38_24 (by decide) ?_
      exact e_ireturn f_38_25 rt_38 (by decide) hV
set_option maxRecDepth 20000 in
theorem T_38_28 {xs : List Int32} {d : Nat} {S : x_M} {Q : Option Value → x_M → Prop} {a1 : Nat} {a2 : Int32} (ha1 : a1 = 3 ∨ a1 = 4) (hV : ∃ P1 : Int32 → x_M → Prop, x_Ci xs d 173 [.ref a1] S P1 ∧ ∀ (v1 : Int32) (S1 : x_M), P1 v1 S1 → (if v1 ≤ a2 then (Q (some (.int 1)) S1) else (∃ P2 : Int32 → x_M → Prop, x_Ci xs d 32 [.ref 10, .int ((S1 10 3) + a2)] S1 P2 ∧ ∀ (v2 : Int32) (S2 : x_M), P2 v2 S2 → (∃ P3 : Int32 → x_M → Prop, x_Ci xs d 175 [.ref a1, .int a2] S2 P3 ∧ ∀ (v3 : Int32) (S3 : x_M), P3 v3 S3 → (if v2 = v3 then (x_E xs (d + 1) 38 28 [.ref 10, .ref a1, .int (a2 + 1)] [] S3 Q) else (Q (some (.int 0)) S3)))))) : x_E xs (d + 1) 38 28 [.ref 10, .ref a1, .int a2] [] S Q := by
  refine e_iload f_38_28 rfl ?_
  refine e_aload f_38_29 rfl (by omega) ?_
  obtain ⟨P1, hP1, hV⟩ := hV
  refine e_wi (n := 1) (A := [.ref a1]) (R := [.int a2]) f_38_30 na_173 rfl rfl (Nat.le_of_ble_eq_true rfl) (Nat.le_of_ble_eq_true rfl) (by rw [ml_173]; exact Nat.le_of_ble_eq_true rfl) rfl ha1 (by rw [cy_173]) hP1 (fun v1 S1 hp1 => ?_)
  have hV := hV v1 S1 hp1
  refine e_icmp f_38_33 (fun hc => ?_) (fun hc => ?_)
  · have hc := x_cct_ge hc
    rw [if_pos hc] at hV
    refine e_iconst (c := 1) f_38_62 (by decide) ?_
    exact e_ireturn f_38_63 rt_38 (by decide) hV
  · have hc := x_ccf_ge hc
    rw [if_neg hc] at hV
    refine e_aload f_38_36 rfl (by decide) ?_
    refine e_aload f_38_37 rfl (by decide) ?_
    refine e_gf (c := 3) (j := 3) f_38_38 (by decide) (by decide) (by decide) ?_
    refine e_iload f_38_41 rfl ?_
    refine e_iadd f_38_42 ?_
    obtain ⟨P2, hP2, hV⟩ := hV
    refine e_vi (n := 2) (A := [.ref 10, .int ((S1 10 3) + a2)]) (R := []) f_38_43 na_32 rfl rfl (Nat.le_of_ble_eq_true rfl) (Nat.le_of_ble_eq_true rfl) (by rw [ml_32]; exact Nat.le_of_ble_eq_true rfl) rfl (by rw [cy_32]; decide) (by rw [cy_32]; exact (by decide : x_tg 10 = 3)) hP2 (fun v2 S2 hp2 => ?_)
    have hV := hV v2 S2 hp2
    refine e_aload f_38_46 rfl (by omega) ?_
    refine e_iload f_38_47 rfl ?_
    obtain ⟨P3, hP3, hV⟩ := hV
    refine e_wi (n := 2) (A := [.ref a1, .int a2]) (R := [.int v2]) f_38_48 na_175 rfl rfl (Nat.le_of_ble_eq_true rfl) (Nat.le_of_ble_eq_true rfl) (by rw [ml_175]; exact Nat.le_of_ble_eq_true rfl) rfl ha1 (by rw [cy_175]) hP3 (fun v3 S3 hp3 => ?_)
    have hV := hV v3 S3 hp3
    refine e_icmp f_38_51 (fun hc => ?_) (fun hc => ?_)
    · have hc := x_cct_eq hc
      rw [if_pos hc] at hV
      refine e_inc (c := 1) (L' := [.ref 10, .ref a1, .int (a2 + 1)]) f_38_56 rfl (by decide) rfl ?_
      refine e_goto f_38_59 ?_
      exact hV
    · have hc := x_ccf_eq hc
      rw [if_neg hc] at hV
      refine e_iconst (c := 0) f_38_54 (by decide) ?_
      exact e_ireturn f_38_55 rt_38 (by decide) hV
set_option maxRecDepth 20000 in
theorem T_39_0 {xs : List Int32} {d : Nat} {S : x_M} {Q : Option Value → x_M → Prop}   (hV : if (S 10 2) = 1 then (if ((S 10 4) - (S 10 3)) = 9 then (x_E xs (d + 1) 39 29 [.ref 10, .int 0, .int 0, .null] [] S Q) else (Q (some (.int (-1000000))) S)) else (Q (some (.int (-1000000))) S)) : x_E xs (d + 1) 39 0 [.ref 10, .null, .null, .null] [] S Q := by
  refine e_aload f_39_0 rfl (by decide) ?_
  refine e_gf (c := 3) (j := 2) f_39_1 (by decide) (by decide) (by decide) ?_
  refine e_iconst (c := 1) f_39_4 (by decide) ?_
  refine e_icmp f_39_5 (fun hc => ?_) (fun hc => ?_)
  · have hc := x_cct_ne hc
    rw [if_neg hc] at hV
    refine e_iconst (c := (-1000000)) f_39_22 (by decide) ?_
    exact e_ireturn f_39_24 rt_39 rfl hV
  · have hc := x_ccf_ne hc
    rw [if_pos hc] at hV
    refine e_aload f_39_8 rfl (by decide) ?_
    refine e_gf (c := 3) (j := 4) f_39_9 (by decide) (by decide) (by decide) ?_
    refine e_aload f_39_12 rfl (by decide) ?_
    refine e_gf (c := 3) (j := 3) f_39_13 (by decide) (by decide) (by decide) ?_
    refine e_isub f_39_16 ?_
    refine e_iconst (c := 9) f_39_17 (by decide) ?_
    refine e_icmp f_39_19 (fun hc => ?_) (fun hc => ?_)
    · have hc := x_cct_eq hc
      rw [if_pos hc] at hV
      refine e_iconst (c := 0) f_39_25 (by decide) ?_
      refine e_istore (L' := [.ref 10, .int 0, .null, .null]) f_39_26 (Nat.le_of_ble_eq_true rfl) rfl ?_
      refine e_iconst (c := 0) f_39_27 (by decide) ?_
      refine e_istore (L' := [.ref 10, .int 0, .int 0, .null]) f_39_28 (Nat.le_of_ble_eq_true rfl) rfl ?_
      exact hV
    · have hc := x_ccf_eq hc
      rw [if_neg hc] at hV
      refine e_iconst (c := (-1000000)) f_39_22 (by decide) ?_
      exact e_ireturn f_39_24 rt_39 rfl hV
set_option maxRecDepth 20000 in
theorem T_39_29 {xs : List Int32} {d : Nat} {S : x_M} {Q : Option Value → x_M → Prop} {a1 : Int32} {a2 : Int32} {a3 : Value}  (hV : if (9 : Int32) ≤ a2 then (Q (some (.int a1)) S) else (∃ P1 : Int32 → x_M → Prop, x_Ci xs d 32 [.ref 10, .int ((S 10 3) + a2)] S P1 ∧ ∀ (v1 : Int32) (S1 : x_M), P1 v1 S1 → (if v1 = 111 then (if v1 = 111 then (x_E xs (d + 1) 39 29 [.ref 10, .int (a1 ||| (1 <<< (a2 &&& 31))), .int (a2 + 1), .int v1] [] S1 Q) else (x_E xs (d + 1) 39 29 [.ref 10, .int a1, .int (a2 + 1), .int v1] [] S1 Q)) else (if v1 = 120 then (if v1 = 111 then (x_E xs (d + 1) 39 29 [.ref 10, .int (a1 ||| (1 <<< (a2 &&& 31))), .int (a2 + 1), .int v1] [] S1 Q) else (x_E xs (d + 1) 39 29 [.ref 10, .int a1, .int (a2 + 1), .int v1] [] S1 Q)) else (Q (some (.int (-1000000))) S1))))) : x_E xs (d + 1) 39 29 [.ref 10, .int a1, .int a2, a3] [] S Q := by
  refine e_iload f_39_29 rfl ?_
  refine e_iconst (c := 9) f_39_30 (by decide) ?_
  refine e_icmp f_39_32 (fun hc => ?_) (fun hc => ?_)
  · have hc := x_cct_ge hc
    rw [if_pos hc] at hV
    refine e_iload f_39_79 rfl ?_
    exact e_ireturn f_39_80 rt_39 rfl hV
  · have hc := x_ccf_ge hc
    rw [if_neg hc] at hV
    refine e_aload f_39_35 rfl (by decide) ?_
    refine e_aload f_39_36 rfl (by decide) ?_
    refine e_gf (c := 3) (j := 3) f_39_37 (by decide) (by decide) (by decide) ?_
    refine e_iload f_39_40 rfl ?_
    refine e_iadd f_39_41 ?_
    obtain ⟨P1, hP1, hV⟩ := hV
    refine e_vi (n := 2) (A := [.ref 10, .int ((S 10 3) + a2)]) (R := []) f_39_42 na_32 rfl rfl (Nat.le_of_ble_eq_true rfl) (Nat.le_of_ble_eq_true rfl) (by rw [ml_32]; exact Nat.le_of_ble_eq_true rfl) rfl (by rw [cy_32]; decide) (by rw [cy_32]; exact (by decide : x_tg 10 = 3)) hP1 (fun v1 S1 hp1 => ?_)
    have hV := hV v1 S1 hp1
    refine e_istore (L' := [.ref 10, .int a1, .int a2, .int v1]) f_39_45 (Nat.le_of_ble_eq_true rfl) rfl ?_
    refine e_iload f_39_46 rfl ?_
    refine e_iconst (c := 111) f_39_47 (by decide) ?_
    refine e_icmp f_39_49 (fun hc => ?_) (fun hc => ?_)
    · have hc := x_cct_eq hc
      rw [if_pos hc] at hV
      refine e_iload f_39_61 rfl ?_
      refine e_iconst (c := 111) f_39_62 (by decide) ?_
      refine e_icmp f_39_64 (fun hc => ?_) (fun hc => ?_)
      · have hc := x_cct_ne hc
        rw [if_neg hc] at hV
        refine e_inc (c := 1) (L' := [.ref 10, .int a1, .int (a2 + 1), .int v1]) f_39_73 rfl (by decide) rfl ?_
        refine e_goto f_39_76 ?_
        exact hV
      · have hc := x_ccf_ne hc
        rw [if_pos hc] at hV
        refine e_iload f_39_67 rfl ?_
        refine e_iconst (c := 1) f_39_68 (by decide) ?_
        refine e_iload f_39_69 rfl ?_
        refine e_ishl f_39_70 ?_
        refine e_ior f_39_71 ?_
        refine e_istore (L' := [.ref 10, .int (a1 ||| (1 <<< (a2 &&& 31))), .int a2, .int v1]) f_39_72 (Nat.le_of_ble_eq_true rfl) rfl ?_
        refine e_inc (c := 1) (L' := [.ref 10, .int (a1 ||| (1 <<< (a2 &&& 31))), .int (a2 + 1), .int v1]) f_39_73 rfl (by decide) rfl ?_
        refine e_goto f_39_76 ?_
        exact hV
    · have hc := x_ccf_eq hc
      rw [if_neg hc] at hV
      refine e_iload f_39_52 rfl ?_
      refine e_iconst (c := 120) f_39_53 (by decide) ?_
      refine e_icmp f_39_55 (fun hc => ?_) (fun hc => ?_)
      · have hc := x_cct_eq hc
        rw [if_pos hc] at hV
        refine e_iload f_39_61 rfl ?_
        refine e_iconst (c := 111) f_39_62 (by decide) ?_
        refine e_icmp f_39_64 (fun hc => ?_) (fun hc => ?_)
        · have hc := x_cct_ne hc
          rw [if_neg hc] at hV
          refine e_inc (c := 1) (L' := [.ref 10, .int a1, .int (a2 + 1), .int v1]) f_39_73 rfl (by decide) rfl ?_
          refine e_goto f_39_76 ?_
          exact hV
        · have hc := x_ccf_ne hc
          rw [if_pos hc] at hV
          refine e_iload f_39_67 rfl ?_
          refine e_iconst (c := 1) f_39_68 (by decide) ?_
          refine e_iload f_39_69 rfl ?_
          refine e_ishl f_39_70 ?_
          refine e_ior f_39_71 ?_
          refine e_istore (L' := [.ref 10, .int (a1 ||| (1 <<< (a2 &&& 31))), .int a2, .int v1]) f_39_72 (Nat.le_of_ble_eq_true rfl) rfl ?_
          refine e_inc (c := 1) (L' := [.ref 10, .int (a1 ||| (1 <<< (a2 &&& 31))), .int (a2 + 1), .int v1]) f_39_73 rfl (by decide) rfl ?_
          refine e_goto f_39_76 ?_
          exact hV
      · have hc := x_ccf_eq hc
        rw [if_neg hc] at hV
        refine e_iconst (c := (-1000000)) f_39_58 (by decide) ?_
        exact e_ireturn f_39_60 rt_39 rfl hV
set_option maxRecDepth 20000 in
theorem T_41_0 {xs : List Int32} {d : Nat} {S : x_M} {Q : Option Value → x_M → Prop} {a1 : Int32}  (hV : if (16 : Int32) ≤ (S 28 1) then (Q none S) else ((x_ib (S 28 1) 16) ∧ (∀ S1 : x_M, S1 = x_up S 29 (Int32.toNatClampNeg (S 28 1)) a1 → (∀ S2 : x_M, S2 = x_up S1 28 1 ((S1 28 1) + 1) → (Q none S2))))) : x_E xs (d + 1) 41 0 [.ref 28, .int a1] [] S Q := by
  refine e_aload f_41_0 rfl (by decide) ?_
  refine e_gf (c := 4) (j := 1) f_41_1 (by decide) (by decide) (by decide) ?_
  refine e_aload f_41_4 rfl (by decide) ?_
  refine e_gr (c := 4) (j := 0) (r := 29) f_41_5 (by decide) (by decide) (by decide) (by decide) ?_
  refine e_al (c := 10) (n := 16) (v := 16) f_41_8 (by decide) (by decide) (by decide) (by decide) ?_
  refine e_icmp f_41_9 (fun hc => ?_) (fun hc => ?_)
  · have hc := x_cct_ge hc
    rw [if_pos hc] at hV
    exact e_return f_41_32 rt_41 hV
  · have hc := x_ccf_ge hc
    rw [if_neg hc] at hV
    refine e_aload f_41_12 rfl (by decide) ?_
    refine e_gr (c := 4) (j := 0) (r := 29) f_41_13 (by decide) (by decide) (by decide) (by decide) ?_
    refine e_aload f_41_16 rfl (by decide) ?_
    refine e_gf (c := 4) (j := 1) f_41_17 (by decide) (by decide) (by decide) ?_
    refine e_iload f_41_20 rfl ?_
    obtain ⟨hg, hV⟩ := hV
    refine e_isn (n := 16) f_41_21 (by decide) (by decide) hg (fun S1 hS1 => ?_)
    have hV := hV S1 hS1
    refine e_aload f_41_22 rfl (by decide) ?_
    refine e_dup f_41_23 rfl ?_
    refine e_gf (c := 4) (j := 1) f_41_24 (by decide) (by decide) (by decide) ?_
    refine e_iconst (c := 1) f_41_27 (by decide) ?_
    refine e_iadd f_41_28 ?_
    refine e_pfn (c := 4) (j := 1) f_41_29 (by decide) (by decide) (by decide) (x_fit_i rfl) (fun S2 hS2 => ?_)
    have hV := hV S2 hS2
    exact e_return f_41_32 rt_41 hV
set_option maxRecDepth 20000 in
theorem T_43_0 {xs : List Int32} {d : Nat} {S : x_M} {Q : Option Value → x_M → Prop} {a1 : Int32} {a2 : Int32} {a3 : Int32}  (hV : ∃ P1 : Int32 → x_M → Prop, x_Ci xs d 44 [.int a1] S P1 ∧ ∀ (v1 : Int32) (S1 : x_M), P1 v1 S1 → (if v1 = 0 then (Q (some (.int (-1000001))) S1) else (if a2 < 0 then (Q (some (.int (-1000001))) S1) else (if (3 : Int32) ≤ a2 then (Q (some (.int (-1000001))) S1) else (if a3 ≤ 40 then (if (0 : Int32) ≤ a3 then ((x_ib a1 8) ∧ (∃ P3 : x_M → Prop, x_Cv xs d 24 [.ref (x_rr 9 (Int32.toNatClampNeg a1)), .int a2, .int a3] S1 P3 ∧ ∀ (S3 : x_M), P3 S3 → (∃ P4 : Int32 → x_M → Prop, x_Ci xs d 46 [.ref 8, .int a3] S3 P4 ∧ ∀ (v4 : Int32) (S4 : x_M), P4 v4 S4 → (Q (some (.int v4)) S4)))) else (∃ P5 : Int32 → x_M → Prop, x_Ci xs d 45 [.ref 8, .int 4] S1 P5 ∧ ∀ (v5 : Int32) (S5 : x_M), P5 v5 S5 → (Q (some (.int v5)) S5))) else (Q (some (.int (-1000001))) S1)))))) : x_E xs (d + 1) 43 0 [.ref 8, .int a1, .int a2, .int a3] [] S Q := by
  refine e_iload f_43_0 rfl ?_
  obtain ⟨P1, hP1, hV⟩ := hV
  refine e_si (n := 1) (A := [.int a1]) (R := []) f_43_1 na_44 rfl rfl (Nat.le_of_ble_eq_true rfl) (Nat.le_of_ble_eq_true rfl) (by rw [ml_44]; exact Nat.le_of_ble_eq_true rfl) hP1 (fun v1 S1 hp1 => ?_)
  have hV := hV v1 S1 hp1
  refine e_if f_43_4 (fun hc => ?_) (fun hc => ?_)
  · have hc := x_cct_eq hc
    rw [if_pos hc] at hV
    refine e_iconst (c := (-1000001)) f_43_22 (by decide) ?_
    exact e_ireturn f_43_24 rt_43 rfl hV
  · have hc := x_ccf_eq hc
    rw [if_neg hc] at hV
    refine e_iload f_43_7 rfl ?_
    refine e_if f_43_8 (fun hc => ?_) (fun hc => ?_)
    · have hc := x_cct_lt hc
      rw [if_pos hc] at hV
      refine e_iconst (c := (-1000001)) f_43_22 (by decide) ?_
      exact e_ireturn f_43_24 rt_43 rfl hV
    · have hc := x_ccf_lt hc
      rw [if_neg hc] at hV
      refine e_iload f_43_11 rfl ?_
      refine e_iconst (c := 3) f_43_12 (by decide) ?_
      refine e_icmp f_43_13 (fun hc => ?_) (fun hc => ?_)
      · have hc := x_cct_ge hc
        rw [if_pos hc] at hV
        refine e_iconst (c := (-1000001)) f_43_22 (by decide) ?_
        exact e_ireturn f_43_24 rt_43 rfl hV
      · have hc := x_ccf_ge hc
        rw [if_neg hc] at hV
        refine e_iload f_43_16 rfl ?_
        refine e_iconst (c := 40) f_43_17 (by decide) ?_
        refine e_icmp f_43_19 (fun hc => ?_) (fun hc => ?_)
        · have hc := x_cct_le hc
          rw [if_pos hc] at hV
          refine e_iload f_43_25 rfl ?_
          refine e_if f_43_26 (fun hc => ?_) (fun hc => ?_)
          · have hc := x_cct_ge hc
            rw [if_pos hc] at hV
            refine e_aload f_43_35 rfl (by decide) ?_
            refine e_gr (c := 5) (j := 0) (r := 9) f_43_36 (by decide) (by decide) (by decide) (by decide) ?_
            refine e_iload f_43_39 rfl ?_
            obtain ⟨hg, hV⟩ := hV
            refine e_aa (c := 11) (n := 8) f_43_40 (by decide) (by decide) (by decide) hg (fun hq2 => ?_)
            have hq2 : x_tg (x_rr 9 (Int32.toNatClampNeg a1)) = 2 := hq2
            refine e_iload f_43_41 rfl ?_
            refine e_iload f_43_42 rfl ?_
            obtain ⟨P3, hP3, hV⟩ := hV
            refine e_vv (n := 3) (A := [.ref (x_rr 9 (Int32.toNatClampNeg a1)), .int a2, .int a3]) (R := []) f_43_43 na_24 rfl rfl (Nat.le_of_ble_eq_true rfl) (Nat.le_of_ble_eq_true rfl) (by rw [ml_24]; exact Nat.le_of_ble_eq_true rfl) rfl (by rw [cy_24]; decide) (by rw [cy_24]; exact hq2) hP3 (fun S3 hp3 => ?_)
            have hV := hV S3 hp3
            refine e_aload f_43_46 rfl (by decide) ?_
            refine e_iload f_43_47 rfl ?_
            obtain ⟨P4, hP4, hV⟩ := hV
            refine e_vi (n := 2) (A := [.ref 8, .int a3]) (R := []) f_43_48 na_46 rfl rfl (Nat.le_of_ble_eq_true rfl) (Nat.le_of_ble_eq_true rfl) (by rw [ml_46]; exact Nat.le_of_ble_eq_true rfl) rfl (by rw [cy_46]; decide) (by rw [cy_46]; exact (by decide : x_tg 8 = 5)) hP4 (fun v4 S4 hp4 => ?_)
            have hV := hV v4 S4 hp4
            exact e_ireturn f_43_51 rt_43 rfl hV
          · have hc := x_ccf_ge hc
            rw [if_neg hc] at hV
            refine e_aload f_43_29 rfl (by decide) ?_
            refine e_iconst (c := 4) f_43_30 (by decide) ?_
            obtain ⟨P5, hP5, hV⟩ := hV
            refine e_vi (n := 2) (A := [.ref 8, .int 4]) (R := []) f_43_31 na_45 rfl rfl (Nat.le_of_ble_eq_true rfl) (Nat.le_of_ble_eq_true rfl) (by rw [ml_45]; exact Nat.le_of_ble_eq_true rfl) rfl (by rw [cy_45]; decide) (by rw [cy_45]; exact (by decide : x_tg 8 = 5)) hP5 (fun v5 S5 hp5 => ?_)
            have hV := hV v5 S5 hp5
            exact e_ireturn f_43_34 rt_43 rfl hV
        · have hc := x_ccf_le hc
          rw [if_neg hc] at hV
          refine e_iconst (c := (-1000001)) f_43_22 (by decide) ?_
          exact e_ireturn f_43_24 rt_43 rfl hV
set_option maxRecDepth 20000 in
theorem T_44_0 {xs : List Int32} {d : Nat} {S : x_M} {Q : Option Value → x_M → Prop} {a0 : Int32}  (hV : if a0 < 0 then (Q (some (.int 0)) S) else (if (8 : Int32) ≤ a0 then (Q (some (.int 0)) S) else (Q (some (.int 1)) S))) : x_E xs (d + 1) 44 0 [.int a0] [] S Q := by
  refine e_iload f_44_0 rfl ?_
  refine e_if f_44_1 (fun hc => ?_) (fun hc => ?_)
  · have hc := x_cct_lt hc
    rw [if_pos hc] at hV
    refine e_iconst (c := 0) f_44_14 (by decide) ?_
    exact e_ireturn f_44_15 rt_44 (by decide) hV
  · have hc := x_ccf_lt hc
    rw [if_neg hc] at hV
    refine e_iload f_44_4 rfl ?_
    refine e_iconst (c := 8) f_44_5 (by decide) ?_
    refine e_icmp f_44_7 (fun hc => ?_) (fun hc => ?_)
    · have hc := x_cct_ge hc
      rw [if_pos hc] at hV
      refine e_iconst (c := 0) f_44_14 (by decide) ?_
      exact e_ireturn f_44_15 rt_44 (by decide) hV
    · have hc := x_ccf_ge hc
      rw [if_neg hc] at hV
      refine e_iconst (c := 1) f_44_10 (by decide) ?_
      refine e_goto f_44_11 ?_
      exact e_ireturn f_44_15 rt_44 (by decide) hV
