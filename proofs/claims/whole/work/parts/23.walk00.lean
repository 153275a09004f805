set_option maxRecDepth 20000 in
theorem T_1_0 {xs : List Int32} {d : Nat} {S : x_M} {Q : Option Value → x_M → Prop} {a0 : Nat} (ha0 : x_tg a0 = 0) (hV : ∀ S1 : x_M, S1 = x_up S a0 5 0 → (∀ S2 : x_M, S2 = x_up S1 (x_rr a0 2) 0 0 → (∀ S3 : x_M, S3 = x_up S2 (x_rr a0 2) 1 0 → (Q none S3)))) : x_E xs (d + 1) 1 0 [.ref a0] [] S Q := by
  refine e_aload f_1_0 rfl (x_n7 ha0 (by decide)) ?_
  refine e_iconst (c := 0) f_1_1 (by decide) ?_
  refine e_pfn (c := 0) (j := 5) f_1_2 (by decide) (by decide) ha0 (x_fit_i rfl) (fun S1 hS1 => ?_)
  have hV := hV S1 hS1
  refine e_aload f_1_5 rfl (x_n7 ha0 (by decide)) ?_
  refine e_gr (c := 0) (j := 2) (r := (x_rr a0 2)) f_1_6 (by decide) (by decide) ha0 rfl ?_
  refine e_iconst (c := 0) f_1_9 (by decide) ?_
  refine e_iconst (c := 0) f_1_10 (by decide) ?_
  refine e_iskn (n := 2) (kk := 0) f_1_11 (ht_0_2 ha0) (hn_0_2 ha0) (by decide) (fun S2 hS2 => ?_)
  have hV := hV S2 hS2
  refine e_aload f_1_12 rfl (x_n7 ha0 (by decide)) ?_
  refine e_gr (c := 0) (j := 2) (r := (x_rr a0 2)) f_1_13 (by decide) (by decide) ha0 rfl ?_
  refine e_iconst (c := 1) f_1_16 (by decide) ?_
  refine e_iconst (c := 0) f_1_17 (by decide) ?_
  refine e_iskn (n := 2) (kk := 1) f_1_18 (ht_0_2 ha0) (hn_0_2 ha0) (by decide) (fun S3 hS3 => ?_)
  have hV := hV S3 hS3
  exact e_return f_1_19 rt_1 hV
set_option maxRecDepth 20000 in
theorem T_2_0 {xs : List Int32} {d : Nat} {S : x_M} {Q : Option Value → x_M → Prop} {a0 : Nat} {a1 : Int32} {a2 : Int32} (ha0 : x_tg a0 = 0) (hV : if (14 : Int32) ≤ (S a0 5) then (Q none S) else (if a2 < 0 then (Q none S) else (if a2 ≤ 1 then (x_E xs (d + 1) 2 24 [.ref a0, .int a1, .int a2, .int a1, .int 0] [] S Q) else (Q none S)))) : x_E xs (d + 1) 2 0 [.ref a0, .int a1, .int a2, .null, .null] [] S Q := by
  refine e_aload f_2_0 rfl (x_n7 ha0 (by decide)) ?_
  refine e_gf (c := 0) (j := 5) f_2_1 (by decide) (by decide) ha0 ?_
  refine e_iconst (c := 14) f_2_4 (by decide) ?_
  refine e_icmp f_2_6 (fun hc => ?_) (fun hc => ?_)
  · have hc := x_cct_ge hc
    rw [if_pos hc] at hV
    exact e_return f_2_18 rt_2 hV
  · have hc := x_ccf_ge hc
    rw [if_neg hc] at hV
    refine e_iload f_2_9 rfl ?_
    refine e_if f_2_10 (fun hc => ?_) (fun hc => ?_)
    · have hc := x_cct_lt hc
      rw [if_pos hc] at hV
      exact e_return f_2_18 rt_2 hV
    · have hc := x_ccf_lt hc
      rw [if_neg hc] at hV
      refine e_iload f_2_13 rfl ?_
      refine e_iconst (c := 1) f_2_14 (by decide) ?_
      refine e_icmp f_2_15 (fun hc => ?_) (fun hc => ?_)
      · have hc := x_cct_le hc
        rw [if_pos hc] at hV
        refine e_iload f_2_19 rfl ?_
        refine e_istore (L' := [.ref a0, .int a1, .int a2, .int a1, .null]) f_2_20 (Nat.le_of_ble_eq_true rfl) rfl ?_
        refine e_iconst (c := 0) f_2_21 (by decide) ?_
        refine e_istore (L' := [.ref a0, .int a1, .int a2, .int a1, .int 0]) f_2_22 (Nat.le_of_ble_eq_true rfl) rfl ?_
        exact hV
      · have hc := x_ccf_le hc
        rw [if_neg hc] at hV
        exact e_return f_2_18 rt_2 hV
set_option maxRecDepth 20000 in
theorem T_2_24 {xs : List Int32} {d : Nat} {S : x_M} {Q : Option Value → x_M → Prop} {a0 : Nat} {a1 : Int32} {a2 : Int32} {a3 : Int32} {a4 : Int32} (ha0 : x_tg a0 = 0) (hV : if (8 : Int32) ≤ a4 then ((x_ib a2 2) ∧ ((x_ib a2 2) ∧ (∀ S1 : x_M, S1 = x_up S (x_rr a0 2) (Int32.toNatClampNeg a2) ((S (x_rr a0 2) (Int32.toNatClampNeg a2)) ||| (1 <<< ((S a0 5) &&& 31))) → (∀ S2 : x_M, S2 = x_up S1 a0 5 ((S1 a0 5) + 1) → (Q none S2))))) else (if a4 = 4 then (∃ P3 : Int32 → x_M → Prop, x_Ci xs d 3 [.int a1] S P3 ∧ ∀ (v3 : Int32) (S3 : x_M), P3 v3 S3 → (x_E xs (d + 1) 2 42 [.ref a0, .int a1, .int a2, .int v3, .int a4] [] S3 Q)) else (x_E xs (d + 1) 2 42 [.ref a0, .int a1, .int a2, .int a3, .int a4] [] S Q))) : x_E xs (d + 1) 2 24 [.ref a0, .int a1, .int a2, .int a3, .int a4] [] S Q := by
  refine e_iload f_2_24 rfl ?_
  refine e_iconst (c := 8) f_2_26 (by decide) ?_
  refine e_icmp f_2_28 (fun hc => ?_) (fun hc => ?_)
  · have hc := x_cct_ge hc
    rw [if_pos hc] at hV
    refine e_aload f_2_69 rfl (x_n7 ha0 (by decide)) ?_
    refine e_gr (c := 0) (j := 2) (r := (x_rr a0 2)) f_2_70 (by decide) (by decide) ha0 rfl ?_
    refine e_iload f_2_73 rfl ?_
    refine e_dup2 f_2_74 ⟨rfl, rfl⟩ ?_
    obtain ⟨hg, hV⟩ := hV
    refine e_ia (n := 2) f_2_75 (ht_0_2 ha0) (hn_0_2 ha0) hg ?_
    refine e_iconst (c := 1) f_2_76 (by decide) ?_
    refine e_aload f_2_77 rfl (x_n7 ha0 (by decide)) ?_
    refine e_gf (c := 0) (j := 5) f_2_78 (by decide) (by decide) ha0 ?_
    refine e_ishl f_2_81 ?_
    refine e_ior f_2_82 ?_
    obtain ⟨hg, hV⟩ := hV
    refine e_isn (n := 2) f_2_83 (ht_0_2 ha0) (hn_0_2 ha0) hg (fun S1 hS1 => ?_)
    have hV := hV S1 hS1
    refine e_aload f_2_84 rfl (x_n7 ha0 (by decide)) ?_
    refine e_dup f_2_85 rfl ?_
    refine e_gf (c := 0) (j := 5) f_2_86 (by decide) (by decide) ha0 ?_
    refine e_iconst (c := 1) f_2_89 (by decide) ?_
    refine e_iadd f_2_90 ?_
    refine e_pfn (c := 0) (j := 5) f_2_91 (by decide) (by decide) ha0 (x_fit_i rfl) (fun S2 hS2 => ?_)
    have hV := hV S2 hS2
    exact e_return f_2_94 rt_2 hV
  · have hc := x_ccf_ge hc
    rw [if_neg hc] at hV
    refine e_iload f_2_31 rfl ?_
    refine e_iconst (c := 4) f_2_33 (by decide) ?_
    refine e_icmp f_2_34 (fun hc => ?_) (fun hc => ?_)
    · have hc := x_cct_ne hc
      rw [if_neg hc] at hV
      exact hV
    · have hc := x_ccf_ne hc
      rw [if_pos hc] at hV
      refine e_iload f_2_37 rfl ?_
      obtain ⟨P3, hP3, hV⟩ := hV
      refine e_si (n := 1) (A := [.int a1]) (R := []) f_2_38 na_3 rfl rfl (Nat.le_of_ble_eq_true rfl) (Nat.le_of_ble_eq_true rfl) (by rw [ml_3]; exact Nat.le_of_ble_eq_true rfl) hP3 (fun v3 S3 hp3 => ?_)
      have hV := hV v3 S3 hp3
      refine e_istore (L' := [.ref a0, .int a1, .int a2, .int v3, .int a4]) f_2_41 (Nat.le_of_ble_eq_true rfl) rfl ?_
      exact hV
set_option maxRecDepth 20000 in
theorem T_2_42 {xs : List Int32} {d : Nat} {S : x_M} {Q : Option Value → x_M → Prop} {a0 : Nat} {a1 : Int32} {a2 : Int32} {a3 : Int32} {a4 : Int32} (ha0 : x_tg a0 = 0) (hV : (x_ib ((8 * (S a0 5)) + a4) 112) ∧ (∀ S1 : x_M, S1 = x_up S (x_rr a0 1) (Int32.toNatClampNeg ((8 * (S a0 5)) + a4)) a3 → (∃ P2 : Int32 → x_M → Prop, x_Ci xs d 4 [.int a3] S1 P2 ∧ ∀ (v2 : Int32) (S2 : x_M), P2 v2 S2 → (x_E xs (d + 1) 2 24 [.ref a0, .int a1, .int a2, .int v2, .int (a4 + 1)] [] S2 Q)))) : x_E xs (d + 1) 2 42 [.ref a0, .int a1, .int a2, .int a3, .int a4] [] S Q := by
  refine e_aload f_2_42 rfl (x_n7 ha0 (by decide)) ?_
  refine e_gr (c := 0) (j := 1) (r := (x_rr a0 1)) f_2_43 (by decide) (by decide) ha0 rfl ?_
  refine e_iconst (c := 8) f_2_46 (by decide) ?_
  refine e_aload f_2_48 rfl (x_n7 ha0 (by decide)) ?_
  refine e_gf (c := 0) (j := 5) f_2_49 (by decide) (by decide) ha0 ?_
  refine e_imul f_2_52 ?_
  refine e_iload f_2_53 rfl ?_
  refine e_iadd f_2_55 ?_
  refine e_iload f_2_56 rfl ?_
  obtain ⟨hg, hV⟩ := hV
  refine e_isn (n := 112) f_2_57 (ht_0_1 ha0) (hn_0_1 ha0) hg (fun S1 hS1 => ?_)
  have hV := hV S1 hS1
  refine e_iload f_2_58 rfl ?_
  obtain ⟨P2, hP2, hV⟩ := hV
  refine e_si (n := 1) (A := [.int a3]) (R := []) f_2_59 na_4 rfl rfl (Nat.le_of_ble_eq_true rfl) (Nat.le_of_ble_eq_true rfl) (by rw [ml_4]; exact Nat.le_of_ble_eq_true rfl) hP2 (fun v2 S2 hp2 => ?_)
  have hV := hV v2 S2 hp2
  refine e_istore (L' := [.ref a0, .int a1, .int a2, .int v2, .int a4]) f_2_62 (Nat.le_of_ble_eq_true rfl) rfl ?_
  refine e_inc (c := 1) (L' := [.ref a0, .int a1, .int a2, .int v2, .int (a4 + 1)]) f_2_63 rfl (by decide) rfl ?_
  refine e_goto f_2_66 ?_
  exact hV
set_option maxRecDepth 20000 in
theorem T_3_0 {xs : List Int32} {d : Nat} {S : x_M} {Q : Option Value → x_M → Prop} {a0 : Int32}  (hV : x_E xs (d + 1) 3 4 [.int a0, .int 0, .int 0, .null, .null, .null] [] S Q) : x_E xs (d + 1) 3 0 [.int a0, .null, .null, .null, .null, .null] [] S Q := by
  refine e_iconst (c := 0) f_3_0 (by decide) ?_
  refine e_istore (L' := [.int a0, .int 0, .null, .null, .null, .null]) f_3_1 (Nat.le_of_ble_eq_true rfl) rfl ?_
  refine e_iconst (c := 0) f_3_2 (by decide) ?_
  refine e_istore (L' := [.int a0, .int 0, .int 0, .null, .null, .null]) f_3_3 (Nat.le_of_ble_eq_true rfl) rfl ?_
  exact hV
set_option maxRecDepth 20000 in
theorem T_3_4 {xs : List Int32} {d : Nat} {S : x_M} {Q : Option Value → x_M → Prop} {a0 : Int32} {a1 : Int32} {a2 : Int32} {a3 : Value} {a4 : Value} {a5 : Value}  (hV : if (3 : Int32) ≤ a2 then (Q (some (.int a1)) S) else (x_E xs (d + 1) 3 11 [.int a0, .int a1, .int a2, .int 0, a4, a5] [] S Q)) : x_E xs (d + 1) 3 4 [.int a0, .int a1, .int a2, a3, a4, a5] [] S Q := by
  refine e_iload f_3_4 rfl ?_
  refine e_iconst (c := 3) f_3_5 (by decide) ?_
  refine e_icmp f_3_6 (fun hc => ?_) (fun hc => ?_)
  · have hc := x_cct_ge hc
    rw [if_pos hc] at hV
    refine e_iload f_3_56 rfl ?_
    exact e_ireturn f_3_57 rt_3 rfl hV
  · have hc := x_ccf_ge hc
    rw [if_neg hc] at hV
    refine e_iconst (c := 0) f_3_9 (by decide) ?_
    refine e_istore (L' := [.int a0, .int a1, .int a2, .int 0, a4, a5]) f_3_10 (Nat.le_of_ble_eq_true rfl) rfl ?_
    exact hV
set_option maxRecDepth 20000 in
theorem T_3_11 {xs : List Int32} {d : Nat} {S : x_M} {Q : Option Value → x_M → Prop} {a0 : Int32} {a1 : Int32} {a2 : Int32} {a3 : Int32} {a4 : Value} {a5 : Value}  (hV : if (3 : Int32) ≤ a3 then (x_E xs (d + 1) 3 4 [.int a0, .int a1, .int (a2 + 1), .int a3, a4, a5] [] S Q) else (∀ x1 : Int32, x1 = (a1 ||| (((a0 >>> ((a3 + (3 * a2)) &&& 31)) &&& 1) <<< (((2 - a3) + (3 * a2)) &&& 31))) → (x_E xs (d + 1) 3 11 [.int a0, .int x1, .int a2, .int (a3 + 1), .int (a3 + (3 * a2)), .int ((2 - a3) + (3 * a2))] [] S Q))) : x_E xs (d + 1) 3 11 [.int a0, .int a1, .int a2, .int a3, a4, a5] [] S Q := by
  refine e_iload f_3_11 rfl ?_
  refine e_iconst (c := 3) f_3_12 (by decide) ?_
  refine e_icmp f_3_13 (fun hc => ?_) (fun hc => ?_)
  · have hc := x_cct_ge hc
    rw [if_pos hc] at hV
    refine e_inc (c := 1) (L' := [.int a0, .int a1, .int (a2 + 1), .int a3, a4, a5]) f_3_50 rfl (by decide) rfl ?_
    refine e_goto f_3_53 ?_
    exact hV
  · have hc := x_ccf_ge hc
    rw [if_neg hc] at hV
    refine e_iload f_3_16 rfl ?_
    refine e_iconst (c := 3) f_3_17 (by decide) ?_
    refine e_iload f_3_18 rfl ?_
    refine e_imul f_3_19 ?_
    refine e_iadd f_3_20 ?_
    refine e_istore (L' := [.int a0, .int a1, .int a2, .int a3, .int (a3 + (3 * a2)), a5]) f_3_21 (Nat.le_of_ble_eq_true rfl) rfl ?_
    refine e_iconst (c := 2) f_3_23 (by decide) ?_
    refine e_iload f_3_24 rfl ?_
    refine e_isub f_3_25 ?_
    refine e_iconst (c := 3) f_3_26 (by decide) ?_
    refine e_iload f_3_27 rfl ?_
    refine e_imul f_3_28 ?_
    refine e_iadd f_3_29 ?_
    refine e_istore (L' := [.int a0, .int a1, .int a2, .int a3, .int (a3 + (3 * a2)), .int ((2 - a3) + (3 * a2))]) f_3_30 (Nat.le_of_ble_eq_true rfl) rfl ?_
    refine e_iload f_3_32 rfl ?_
    refine e_iload f_3_33 rfl ?_
    refine e_iload f_3_34 rfl ?_
    refine e_ishr f_3_36 ?_
    refine e_iconst (c := 1) f_3_37 (by decide) ?_
    refine e_iand f_3_38 ?_
    refine e_iload f_3_39 rfl ?_
    refine e_ishl f_3_41 ?_
    refine e_ior f_3_42 ?_
    refine e_istoren (L' := fun x1 => [.int a0, .int x1, .int a2, .int a3, .int (a3 + (3 * a2)), .int ((2 - a3) + (3 * a2))]) f_3_43 (Nat.le_of_ble_eq_true rfl) (fun _ => rfl) (fun x1 hx1 => ?_)
    have hV := hV x1 hx1
    refine e_inc (c := 1) (L' := [.int a0, .int x1, .int a2, .int (a3 + 1), .int (a3 + (3 * a2)), .int ((2 - a3) + (3 * a2))]) f_3_44 rfl (by decide) rfl ?_
    refine e_goto f_3_47 ?_
    exact hV
set_option maxRecDepth 20000 in
theorem T_4_0 {xs : List Int32} {d : Nat} {S : x_M} {Q : Option Value → x_M → Prop} {a0 : Int32}  (hV : x_E xs (d + 1) 4 4 [.int a0, .int 0, .int 0, .null, .null, .null] [] S Q) : x_E xs (d + 1) 4 0 [.int a0, .null, .null, .null, .null, .null] [] S Q := by
  refine e_iconst (c := 0) f_4_0 (by decide) ?_
  refine e_istore (L' := [.int a0, .int 0, .null, .null, .null, .null]) f_4_1 (Nat.le_of_ble_eq_true rfl) rfl ?_
  refine e_iconst (c := 0) f_4_2 (by decide) ?_
  refine e_istore (L' := [.int a0, .int 0, .int 0, .null, .null, .null]) f_4_3 (Nat.le_of_ble_eq_true rfl) rfl ?_
  exact hV
set_option maxRecDepth 20000 in
theorem T_4_4 {xs : List Int32} {d : Nat} {S : x_M} {Q : Option Value → x_M → Prop} {a0 : Int32} {a1 : Int32} {a2 : Int32} {a3 : Value} {a4 : Value} {a5 : Value}  (hV : if (3 : Int32) ≤ a2 then (Q (some (.int a1)) S) else (x_E xs (d + 1) 4 11 [.int a0, .int a1, .int a2, .int 0, a4, a5] [] S Q)) : x_E xs (d + 1) 4 4 [.int a0, .int a1, .int a2, a3, a4, a5] [] S Q := by
  refine e_iload f_4_4 rfl ?_
  refine e_iconst (c := 3) f_4_5 (by decide) ?_
  refine e_icmp f_4_6 (fun hc => ?_) (fun hc => ?_)
  · have hc := x_cct_ge hc
    rw [if_pos hc] at hV
    refine e_iload f_4_56 rfl ?_
    exact e_ireturn f_4_57 rt_4 rfl hV
  · have hc := x_ccf_ge hc
    rw [if_neg hc] at hV
    refine e_iconst (c := 0) f_4_9 (by decide) ?_
    refine e_istore (L' := [.int a0, .int a1, .int a2, .int 0, a4, a5]) f_4_10 (Nat.le_of_ble_eq_true rfl) rfl ?_
    exact hV
set_option maxRecDepth 20000 in
theorem T_4_11 {xs : List Int32} {d : Nat} {S : x_M} {Q : Option Value → x_M → Prop} {a0 : Int32} {a1 : Int32} {a2 : Int32} {a3 : Int32} {a4 : Value} {a5 : Value}  (hV : if (3 : Int32) ≤ a3 then (x_E xs (d + 1) 4 4 [.int a0, .int a1, .int (a2 + 1), .int a3, a4, a5] [] S Q) else (∀ x1 : Int32, x1 = (a1 ||| (((a0 >>> ((a3 + (3 * a2)) &&& 31)) &&& 1) <<< (((2 - a2) + (3 * a3)) &&& 31))) → (x_E xs (d + 1) 4 11 [.int a0, .int x1, .int a2, .int (a3 + 1), .int (a3 + (3 * a2)), .int ((2 - a2) + (3 * a3))] [] S Q))) : x_E xs (d + 1) 4 11 [.int a0, .int a1, .int a2, .int a3, a4, a5] [] S Q := by
  refine e_iload f_4_11 rfl ?_
  refine e_iconst (c := 3) f_4_12 (by decide) ?_
  refine e_icmp f_4_13 (fun hc => ?_) (fun hc => ?_)
  · have hc := x_cct_ge hc
    rw [if_pos hc] at hV
    refine e_inc (c := 1) (L' := [.int a0, .int a1, .int (a2 + 1), .int a3, a4, a5]) f_4_50 rfl (by decide) rfl ?_
    refine e_goto f_4_53 ?_
    exact hV
  · have hc := x_ccf_ge hc
    rw [if_neg hc] at hV
    refine e_iload f_4_16 rfl ?_
    refine e_iconst (c := 3) f_4_17 (by decide) ?_
    refine e_iload f_4_18 rfl ?_
    refine e_imul f_4_19 ?_
    refine e_iadd f_4_20 ?_
    refine e_istore (L' := [.int a0, .int a1, .int a2, .int a3, .int (a3 + (3 * a2)), a5]) f_4_21 (Nat.le_of_ble_eq_true rfl) rfl ?_
    refine e_iconst (c := 2) f_4_23 (by decide) ?_
    refine e_iload f_4_24 rfl ?_
    refine e_isub f_4_25 ?_
    refine e_iconst (c := 3) f_4_26 (by decide) ?_
    refine e_iload f_4_27 rfl ?_
    refine e_imul f_4_28 ?_
    refine e_iadd f_4_29 ?_
    refine e_istore (L' := [.int a0, .int a1, .int a2, .int a3, .int (a3 + (3 * a2)), .int ((2 - a2) + (3 * a3))]) f_4_30 (Nat.le_of_ble_eq_true rfl) rfl ?_
    refine e_iload f_4_32 rfl ?_
    refine e_iload f_4_33 rfl ?_
    refine e_iload f_4_34 rfl ?_
    refine e_ishr f_4_36 ?_
    refine e_iconst (c := 1) f_4_37 (by decide) ?_
    refine e_iand f_4_38 ?_
    refine e_iload f_4_39 rfl ?_
    refine e_ishl f_4_41 ?_
    refine e_ior f_4_42 ?_
    refine e_istoren (L' := fun x1 => [.int a0, .int x1, .int a2, .int a3, .int (a3 + (3 * a2)), .int ((2 - a2) + (3 * a3))]) f_4_43 (Nat.le_of_ble_eq_true rfl) (fun _ => rfl) (fun x1 hx1 => ?_)
    have hV := hV x1 hx1
    refine e_inc (c := 1) (L' := [.int a0, .int x1, .int a2, .int (a3 + 1), .int (a3 + (3 * a2)), .int ((2 - a2) + (3 * a3))]) f_4_44 rfl (by decide) rfl ?_
    refine e_goto f_4_47 ?_
    exact hV
set_option maxRecDepth 20000 in
theorem T_5_0 {xs : List Int32} {d : Nat} {S : x_M} {Q : Option Value → x_M → Prop} {a0 : Nat} (ha0 : x_tg a0 = 0) (hV : ∀ S1 : x_M, S1 = x_up S a0 4 1 → (∀ S2 : x_M, S2 = x_up S1 (x_rr a0 3) 0 0 → (∀ S3 : x_M, S3 = x_up S2 (x_rr a0 3) 1 0 → (∀ S4 : x_M, S4 = x_up S3 a0 6 511 → (∀ S5 : x_M, S5 = x_up S4 a0 7 0 → (∀ S6 : x_M, S6 = x_up S5 a0 9 0 → (∃ P7 : Int32 → x_M → Prop, x_Ci xs d 6 [.ref a0, .int 1] S6 P7 ∧ ∀ (v7 : Int32) (S7 : x_M), P7 v7 S7 → (∀ S8 : x_M, S8 = x_up S7 a0 8 v7 → (Q none S8))))))))) : x_E xs (d + 1) 5 0 [.ref a0] [] S Q := by
  refine e_aload f_5_0 rfl (x_n7 ha0 (by decide)) ?_
  refine e_iconst (c := 1) f_5_1 (by decide) ?_
  refine e_pfn (c := 0) (j := 4) f_5_2 (by decide) (by decide) ha0 (x_fit_z rfl (by decide)) (fun S1 hS1 => ?_)
  have hV := hV S1 hS1
  refine e_aload f_5_5 rfl (x_n7 ha0 (by decide)) ?_
  refine e_gr (c := 0) (j := 3) (r := (x_rr a0 3)) f_5_6 (by decide) (by decide) ha0 rfl ?_
  refine e_iconst (c := 0) f_5_9 (by decide) ?_
  refine e_iconst (c := 0) f_5_10 (by decide) ?_
  refine e_iskn (n := 2) (kk := 0) f_5_11 (ht_0_3 ha0) (hn_0_3 ha0) (by decide) (fun S2 hS2 => ?_)
  have hV := hV S2 hS2
  refine e_aload f_5_12 rfl (x_n7 ha0 (by decide)) ?_
  refine e_gr (c := 0) (j := 3) (r := (x_rr a0 3)) f_5_13 (by decide) (by decide) ha0 rfl ?_
  refine e_iconst (c := 1) f_5_16 (by decide) ?_
  refine e_iconst (c := 0) f_5_17 (by decide) ?_
  refine e_iskn (n := 2) (kk := 1) f_5_18 (ht_0_3 ha0) (hn_0_3 ha0) (by decide) (fun S3 hS3 => ?_)
  have hV := hV S3 hS3
  refine e_aload f_5_19 rfl (x_n7 ha0 (by decide)) ?_
  refine e_iconst (c := 511) f_5_20 (by decide) ?_
  refine e_pfn (c := 0) (j := 6) f_5_23 (by decide) (by decide) ha0 (x_fit_i rfl) (fun S4 hS4 => ?_)
  have hV := hV S4 hS4
  refine e_aload f_5_26 rfl (x_n7 ha0 (by decide)) ?_
  refine e_iconst (c := 0) f_5_27 (by decide) ?_
  refine e_pfn (c := 0) (j := 7) f_5_28 (by decide) (by decide) ha0 (x_fit_i rfl) (fun S5 hS5 => ?_)
  have hV := hV S5 hS5
  refine e_aload f_5_31 rfl (x_n7 ha0 (by decide)) ?_
  refine e_iconst (c := 0) f_5_32 (by decide) ?_
  refine e_pfn (c := 0) (j := 9) f_5_33 (by decide) (by decide) ha0 (x_fit_i rfl) (fun S6 hS6 => ?_)
  have hV := hV S6 hS6
  refine e_aload f_5_36 rfl (x_n7 ha0 (by decide)) ?_
  refine e_aload f_5_37 rfl (x_n7 ha0 (by decide)) ?_
  refine e_iconst (c := 1) f_5_38 (by decide) ?_
  obtain ⟨P7, hP7, hV⟩ := hV
  refine e_vi (n := 2) (A := [.ref a0, .int 1]) (R := [.ref a0]) f_5_39 na_6 rfl rfl (Nat.le_of_ble_eq_true rfl) (Nat.le_of_ble_eq_true rfl) (by rw [ml_6]; exact Nat.le_of_ble_eq_true rfl) rfl (by rw [cy_6]; decide) (by rw [cy_6]; exact ha0) hP7 (fun v7 S7 hp7 => ?_)
  have hV := hV v7 S7 hp7
  refine e_pfn (c := 0) (j := 8) f_5_42 (by decide) (by decide) ha0 (x_fit_i rfl) (fun S8 hS8 => ?_)
  have hV := hV S8 hS8
  exact e_return f_5_45 rt_5 hV
set_option maxRecDepth 20000 in
theorem T_6_0 {xs : List Int32} {d : Nat} {S : x_M} {Q : Option Value → x_M → Prop} {a0 : Nat} {a1 : Int32} (ha0 : x_tg a0 = 0) (hV : if a1 < 0 then (Q (some (.int (-1000000))) S) else (if a1 ≤ 1 then ((x_ib (1 - a1) 2) ∧ (if (S (x_rr a0 2) (Int32.toNatClampNeg (1 - a1))) = 0 then ((x_ib a1 2) ∧ (if (S (x_rr a0 2) (Int32.toNatClampNeg a1)) = 0 then (Q (some (.int (-1000000))) S) else (Q (some (.int a1)) S))) else (Q (some (.int (1 - a1))) S))) else (Q (some (.int (-1000000))) S))) : x_E xs (d + 1) 6 0 [.ref a0, .int a1] [] S Q := by
  refine e_iload f_6_0 rfl ?_
  refine e_if f_6_1 (fun hc => ?_) (fun hc => ?_)
  · have hc := x_cct_lt hc
    rw [if_pos hc] at hV
    refine e_iconst (c := (-1000000)) f_6_9 (by decide) ?_
    exact e_ireturn f_6_11 rt_6 rfl hV
  · have hc := x_ccf_lt hc
    rw [if_neg hc] at hV
    refine e_iload f_6_4 rfl ?_
    refine e_iconst (c := 1) f_6_5 (by decide) ?_
    refine e_icmp f_6_6 (fun hc => ?_) (fun hc => ?_)
    · have hc := x_cct_le hc
      rw [if_pos hc] at hV
      refine e_aload f_6_12 rfl (x_n7 ha0 (by decide)) ?_
      refine e_gr (c := 0) (j := 2) (r := (x_rr a0 2)) f_6_13 (by decide) (by decide) ha0 rfl ?_
      refine e_iconst (c := 1) f_6_16 (by decide) ?_
      refine e_iload f_6_17 rfl ?_
      refine e_isub f_6_18 ?_
      obtain ⟨hg, hV⟩ := hV
      refine e_ia (n := 2) f_6_19 (ht_0_2 ha0) (hn_0_2 ha0) hg ?_
      refine e_if f_6_20 (fun hc => ?_) (fun hc => ?_)
      · have hc := x_cct_eq hc
        rw [if_pos hc] at hV
        refine e_aload f_6_27 rfl (x_n7 ha0 (by decide)) ?_
        refine e_gr (c := 0) (j := 2) (r := (x_rr a0 2)) f_6_28 (by decide) (by decide) ha0 rfl ?_
        refine e_iload f_6_31 rfl ?_
        obtain ⟨hg, hV⟩ := hV
        refine e_ia (n := 2) f_6_32 (ht_0_2 ha0) (hn_0_2 ha0) hg ?_
        refine e_if f_6_33 (fun hc => ?_) (fun hc => ?_)
        · have hc := x_cct_eq hc
          rw [if_pos hc] at hV
          refine e_iconst (c := (-1000000)) f_6_40 (by decide) ?_
          exact e_ireturn f_6_42 rt_6 rfl hV
        · have hc := x_ccf_eq hc
          rw [if_neg hc] at hV
          refine e_iload f_6_36 rfl ?_
          refine e_goto f_6_37 ?_
          exact e_ireturn f_6_42 rt_6 rfl hV
      · have hc := x_ccf_eq hc
        rw [if_neg hc] at hV
        refine e_iconst (c := 1) f_6_23 (by decide) ?_
        refine e_iload f_6_24 rfl ?_
        refine e_isub f_6_25 ?_
        exact e_ireturn f_6_26 rt_6 rfl hV
    · have hc := x_ccf_le hc
      rw [if_neg hc] at hV
      refine e_iconst (c := (-1000000)) f_6_9 (by decide) ?_
      exact e_ireturn f_6_11 rt_6 rfl hV
set_option maxRecDepth 20000 in
theorem T_7_0 {xs : List Int32} {d : Nat} {S : x_M} {Q : Option Value → x_M → Prop} {a0 : Nat} {a1 : Nat} (ha0 : x_tg a0 = 0) (ha1 : x_tg a1 = 0) (hV : ∀ S1 : x_M, S1 = x_cp S (x_rr a1 0) 0 (x_rr a0 0) 0 9 → (∀ S2 : x_M, S2 = x_cp S1 (x_rr a1 1) 0 (x_rr a0 1) 0 112 → (∀ S3 : x_M, S3 = x_cp S2 (x_rr a1 2) 0 (x_rr a0 2) 0 2 → (∀ S4 : x_M, S4 = x_cp S3 (x_rr a1 3) 0 (x_rr a0 3) 0 2 → (((S4 a1 4) = 0 ∨ (S4 a1 4) = 1) ∧ (∀ S5 : x_M, S5 = x_up S4 a0 4 (S4 a1 4) → (∀ S6 : x_M, S6 = x_up S5 a0 5 (S5 a1 5) → (∀ S7 : x_M, S7 = x_up S6 a0 6 (S6 a1 6) → (∀ S8 : x_M, S8 = x_up S7 a0 7 (S7 a1 7) → (∀ S9 : x_M, S9 = x_up S8 a0 8 (S8 a1 8) → (∀ S10 : x_M, S10 = x_up S9 a0 9 (S9 a1 9) → (Q none S10)))))))))))) : x_E xs (d + 1) 7 0 [.ref a0, .ref a1] [] S Q := by
  refine e_aload f_7_0 rfl (x_n7 ha1 (by decide)) ?_
  refine e_gr (c := 0) (j := 0) (r := (x_rr a1 0)) f_7_1 (by decide) (by decide) ha1 rfl ?_
  refine e_iconst (c := 0) f_7_4 (by decide) ?_
  refine e_aload f_7_5 rfl (x_n7 ha0 (by decide)) ?_
  refine e_gr (c := 0) (j := 0) (r := (x_rr a0 0)) f_7_6 (by decide) (by decide) ha0 rfl ?_
  refine e_iconst (c := 0) f_7_9 (by decide) ?_
  refine e_iconst (c := 9) f_7_10 (by decide) ?_
  refine e_cpn (np := 9) (nq := 9) (a := 0) (b := 0) (mm := 9) f_7_12 (ht_0_0 ha1) (ht_0_0 ha0) (hn_0_0 ha1) (hn_0_0 ha0) (Nat.le_of_ble_eq_true rfl) (by decide) (by decide) (by decide) (by decide) (fun S1 hS1 => ?_)
  have hV := hV S1 hS1
  refine e_aload f_7_15 rfl (x_n7 ha1 (by decide)) ?_
  refine e_gr (c := 0) (j := 1) (r := (x_rr a1 1)) f_7_16 (by decide) (by decide) ha1 rfl ?_
  refine e_iconst (c := 0) f_7_19 (by decide) ?_
  refine e_aload f_7_20 rfl (x_n7 ha0 (by decide)) ?_
  refine e_gr (c := 0) (j := 1) (r := (x_rr a0 1)) f_7_21 (by decide) (by decide) ha0 rfl ?_
  refine e_iconst (c := 0) f_7_24 (by decide) ?_
  refine e_iconst (c := 112) f_7_25 (by decide) ?_
  refine e_cpn (np := 112) (nq := 112) (a := 0) (b := 0) (mm := 112) f_7_27 (ht_0_1 ha1) (ht_0_1 ha0) (hn_0_1 ha1) (hn_0_1 ha0) (Nat.le_of_ble_eq_true rfl) (by decide) (by decide) (by decide) (by decide) (fun S2 hS2 => ?_)
  have hV := hV S2 hS2
  refine e_aload f_7_30 rfl (x_n7 ha1 (by decide)) ?_
  refine e_gr (c := 0) (j := 2) (r := (x_rr a1 2)) f_7_31 (by decide) (by decide) ha1 rfl ?_
  refine e_iconst (c := 0) f_7_34 (by decide) ?_
  refine e_aload f_7_35 rfl (x_n7 ha0 (by decide)) ?_
  refine e_gr (c := 0) (j := 2) (r := (x_rr a0 2)) f_7_36 (by decide) (by decide) ha0 rfl ?_
  refine e_iconst (c := 0) f_7_39 (by decide) ?_
  refine e_iconst (c := 2) f_7_40 (by decide) ?_
  refine e_cpn (np := 2) (nq := 2) (a := 0) (b := 0) (mm := 2) f_7_41 (ht_0_2 ha1) (ht_0_2 ha0) (hn_0_2 ha1) (hn_0_2 ha0) (Nat.le_of_ble_eq_true rfl) (by decide) (by decide) (by decide) (by decide) (fun S3 hS3 => ?_)
  have hV := hV S3 hS3
  refine e_aload f_7_44 rfl (x_n7 ha1 (by decide)) ?_
  refine e_gr (c := 0) (j := 3) (r := (x_rr a1 3)) f_7_45 (by decide) (by decide) ha1 rfl ?_
  refine e_iconst (c := 0) f_7_48 (by decide) ?_
  refine e_aload f_7_49 rfl (x_n7 ha0 (by decide)) ?_
  refine e_gr (c := 0) (j := 3) (r := (x_rr a0 3)) f_7_50 (by decide) (by decide) ha0 rfl ?_
  refine e_iconst (c := 0) f_7_53 (by decide) ?_
  refine e_iconst (c := 2) f_7_54 (by decide) ?_
  refine e_cpn (np := 2) (nq := 2) (a := 0) (b := 0) (mm := 2) f_7_55 (ht_0_3 ha1) (ht_0_3 ha0) (hn_0_3 ha1) (hn_0_3 ha0) (Nat.le_of_ble_eq_true rfl) (by decide) (by decide) (by decide) (by decide) (fun S4 hS4 => ?_)
  have hV := hV S4 hS4
  refine e_aload f_7_58 rfl (x_n7 ha0 (by decide)) ?_
  refine e_aload f_7_59 rfl (x_n7 ha1 (by decide)) ?_
  refine e_gf (c := 0) (j := 4) f_7_60 (by decide) (by decide) ha1 ?_
  obtain ⟨hg, hV⟩ := hV
  refine e_pfn (c := 0) (j := 4) f_7_63 (by decide) (by decide) ha0 (x_fit_z rfl hg) (fun S5 hS5 => ?_)
  have hV := hV S5 hS5
  refine e_aload f_7_66 rfl (x_n7 ha0 (by decide)) ?_
  refine e_aload f_7_67 rfl (x_n7 ha1 (by decide)) ?_
  refine e_gf (c := 0) (j := 5) f_7_68 (by decide) (by decide) ha1 ?_
  refine e_pfn (c := 0) (j := 5) f_7_71 (by decide) (by decide) ha0 (x_fit_i rfl) (fun S6 hS6 => ?_)
  have hV := hV S6 hS6
  refine e_aload f_7_74 rfl (x_n7 ha0 (by decide)) ?_
  refine e_aload f_7_75 rfl (x_n7 ha1 (by decide)) ?_
  refine e_gf (c := 0) (j := 6) f_7_76 (by decide) (by decide) ha1 ?_
  refine e_pfn (c := 0) (j := 6) f_7_79 (by decide) (by decide) ha0 (x_fit_i rfl) (fun S7 hS7 => ?_)
  have hV := hV S7 hS7
  refine e_aload f_7_82 rfl (x_n7 ha0 (by decide)) ?_
  refine e_aload f_7_83 rfl (x_n7 ha1 (by decide)) ?_
  refine e_gf (c := 0) (j := 7) f_7_84 (by decide) (by decide) ha1 ?_
  refine e_pfn (c := 0) (j := 7) f_7_87 (by decide) (by decide) ha0 (x_fit_i rfl) (fun S8 hS8 => ?_)
  have hV := hV S8 hS8
  refine e_aload f_7_90 rfl (x_n7 ha0 (by decide)) ?_
  refine e_aload f_7_91 rfl (x_n7 ha1 (by decide)) ?_
  refine e_gf (c := 0) (j := 8) f_7_92 (by decide) (by decide) ha1 ?_
  refine e_pfn (c := 0) (j := 8) f_7_95 (by decide) (by decide) ha0 (x_fit_i rfl) (fun S9 hS9 => ?_)
  have hV := hV S9 hS9
  refine e_aload f_7_98 rfl (x_n7 ha0 (by decide)) ?_
  refine e_aload f_7_99 rfl (x_n7 ha1 (by decide)) ?_
  refine e_gf (c := 0) (j := 9) f_7_100 (by decide) (by decide) ha1 ?_
  refine e_pfn (c := 0) (j := 9) f_7_103 (by decide) (by decide) ha0 (x_fit_i rfl) (fun S10 hS10 => ?_)
  have hV := hV S10 hS10
  exact e_return f_7_106 rt_7 hV
set_option maxRecDepth 20000 in
theorem T_8_0 {xs : List Int32} {d : Nat} {S : x_M} {Q : Option Value → x_M → Prop} {a0 : Nat} {a1 : Int32} {a2 : Int32} (ha0 : x_tg a0 = 0) (hV : if ((8 * a1) + a2) < 0 then (Q (some (.int 0)) S) else (if (112 : Int32) ≤ ((8 * a1) + a2) then (Q (some (.int 0)) S) else ((x_ib ((8 * a1) + a2) 112) ∧ (Q (some (.int (S (x_rr a0 1) (Int32.toNatClampNeg ((8 * a1) + a2))))) S)))) : x_E xs (d + 1) 8 0 [.ref a0, .int a1, .int a2, .null] [] S Q := by
  refine e_iconst (c := 8) f_8_0 (by decide) ?_
  refine e_iload f_8_2 rfl ?_
  refine e_imul f_8_3 ?_
  refine e_iload f_8_4 rfl ?_
  refine e_iadd f_8_5 ?_
  refine e_istore (L' := [.ref a0, .int a1, .int a2, .int ((8 * a1) + a2)]) f_8_6 (Nat.le_of_ble_eq_true rfl) rfl ?_
  refine e_iload f_8_7 rfl ?_
  refine e_if f_8_8 (fun hc => ?_) (fun hc => ?_)
  · have hc := x_cct_lt hc
    rw [if_pos hc] at hV
    refine e_iconst (c := 0) f_8_29 (by decide) ?_
    exact e_ireturn f_8_30 rt_8 rfl hV
  · have hc := x_ccf_lt hc
    rw [if_neg hc] at hV
    refine e_iload f_8_11 rfl ?_
    refine e_aload f_8_12 rfl (x_n7 ha0 (by decide)) ?_
    refine e_gr (c := 0) (j := 1) (r := (x_rr a0 1)) f_8_13 (by decide) (by decide) ha0 rfl ?_
    refine e_al (c := 10) (n := 112) (v := 112) f_8_16 (ht_0_1 ha0) (by decide) (hn_0_1 ha0) (by decide) ?_
    refine e_icmp f_8_17 (fun hc => ?_) (fun hc => ?_)
    · have hc := x_cct_ge hc
      rw [if_pos hc] at hV
      refine e_iconst (c := 0) f_8_29 (by decide) ?_
      exact e_ireturn f_8_30 rt_8 rfl hV
    · have hc := x_ccf_ge hc
      rw [if_neg hc] at hV
      refine e_aload f_8_20 rfl (x_n7 ha0 (by decide)) ?_
      refine e_gr (c := 0) (j := 1) (r := (x_rr a0 1)) f_8_21 (by decide) (by decide) ha0 rfl ?_
      refine e_iload f_8_24 rfl ?_
      obtain ⟨hg, hV⟩ := hV
      refine e_ia (n := 112) f_8_25 (ht_0_1 ha0) (hn_0_1 ha0) hg ?_
      refine e_goto f_8_26 ?_
      exact e_ireturn f_8_30 rt_8 rfl hV
set_option maxRecDepth 20000 in
theorem T_9_0 {xs : List Int32} {d : Nat} {S : x_M} {Q : Option Value → x_M → Prop} {a0 : Nat} {a1 : Int32} (ha0 : x_tg a0 = 0) (hV : x_E xs (d + 1) 9 4 [.ref a0, .int a1, .int 0, .int 0] [] S Q) : x_E xs (d + 1) 9 0 [.ref a0, .int a1, .null, .null] [] S Q := by
  refine e_iconst (c := 0) f_9_0 (by decide) ?_
  refine e_istore (L' := [.ref a0, .int a1, .int 0, .null]) f_9_1 (Nat.le_of_ble_eq_true rfl) rfl ?_
  refine e_iconst (c := 0) f_9_2 (by decide) ?_
  refine e_istore (L' := [.ref a0, .int a1, .int 0, .int 0]) f_9_3 (Nat.le_of_ble_eq_true rfl) rfl ?_
  exact hV
set_option maxRecDepth 20000 in
theorem T_9_4 {xs : List Int32} {d : Nat} {S : x_M} {Q : Option Value → x_M → Prop} {a0 : Nat} {a1 : Int32} {a2 : Int32} {a3 : Int32} (ha0 : x_tg a0 = 0) (hV : if (9 : Int32) ≤ a3 then (Q (some (.int a2)) S) else (if ((a1 >>> (a3 &&& 31)) &&& 1) = 1 then ((x_ib a3 9) ∧ (x_E xs (d + 1) 9 4 [.ref a0, .int a1, .int (a2 + (S (x_rr a0 0) (Int32.toNatClampNeg a3))), .int (a3 + 1)] [] S Q)) else (x_E xs (d + 1) 9 4 [.ref a0, .int a1, .int a2, .int (a3 + 1)] [] S Q))) : x_E xs (d + 1) 9 4 [.ref a0, .int a1, .int a2, .int a3] [] S Q := by
  refine e_iload f_9_4 rfl ?_
  refine e_iconst (c := 9) f_9_5 (by decide) ?_
  refine e_icmp f_9_7 (fun hc => ?_) (fun hc => ?_)
  · have hc := x_cct_ge hc
    rw [if_pos hc] at hV
    refine e_iload f_9_34 rfl ?_
    exact e_ireturn f_9_35 rt_9 rfl hV
  · have hc := x_ccf_ge hc
    rw [if_neg hc] at hV
    refine e_iload f_9_10 rfl ?_
    refine e_iload f_9_11 rfl ?_
    refine e_ishr f_9_12 ?_
    refine e_iconst (c := 1) f_9_13 (by decide) ?_
    refine e_iand f_9_14 ?_
    refine e_iconst (c := 1) f_9_15 (by decide) ?_
    refine e_icmp f_9_16 (fun hc => ?_) (fun hc => ?_)
    · have hc := x_cct_ne hc
      rw [if_neg hc] at hV
      refine e_inc (c := 1) (L' := [.ref a0, .int a1, .int a2, .int (a3 + 1)]) f_9_28 rfl (by decide) rfl ?_
      refine e_goto f_9_31 ?_
      exact hV
    · have hc := x_ccf_ne hc
      rw [if_pos hc] at hV
      refine e_iload f_9_19 rfl ?_
      refine e_aload f_9_20 rfl (x_n7 ha0 (by decide)) ?_
      refine e_gr (c := 0) (j := 0) (r := (x_rr a0 0)) f_9_21 (by decide) (by decide) ha0 rfl ?_
      refine e_iload f_9_24 rfl ?_
      obtain ⟨hg, hV⟩ := hV
      refine e_ia (n := 9) f_9_25 (ht_0_0 ha0) (hn_0_0 ha0) hg ?_
      refine e_iadd f_9_26 ?_
      refine e_istore (L' := [.ref a0, .int a1, .int (a2 + (S (x_rr a0 0) (Int32.toNatClampNeg a3))), .int a3]) f_9_27 (Nat.le_of_ble_eq_true rfl) rfl ?_
      refine e_inc (c := 1) (L' := [.ref a0, .int a1, .int (a2 + (S (x_rr a0 0) (Int32.toNatClampNeg a3))), .int (a3 + 1)]) f_9_28 rfl (by decide) rfl ?_
      refine e_goto f_9_31 ?_
      exact hV
set_option maxRecDepth 20000 in
theorem T_10_0 {xs : List Int32} {d : Nat} {S : x_M} {Q : Option Value → x_M → Prop} {a0 : Nat} {a1 : Int32} (ha0 : x_tg a0 = 0) (hV : if a1 < 0 then (Q (some (.int 0)) S) else (if (S a0 5) ≤ a1 then (Q (some (.int 0)) S) else (∃ P1 : Int32 → x_M → Prop, x_Ci xs d 11 [.ref a0] S P1 ∧ ∀ (v1 : Int32) (S1 : x_M), P1 v1 S1 → (if ((v1 >>> (a1 &&& 31)) &&& 1) = 1 then (Q (some (.int 1)) S1) else (Q (some (.int 0)) S1))))) : x_E xs (d + 1) 10 0 [.ref a0, .int a1] [] S Q := by
  refine e_iload f_10_0 rfl ?_
  refine e_if f_10_1 (fun hc => ?_) (fun hc => ?_)
  · have hc := x_cct_lt hc
    rw [if_pos hc] at hV
    refine e_iconst (c := 0) f_10_28 (by decide) ?_
    exact e_ireturn f_10_29 rt_10 (by decide) hV
  · have hc := x_ccf_lt hc
    rw [if_neg hc] at hV
    refine e_iload f_10_4 rfl ?_
    refine e_aload f_10_5 rfl (x_n7 ha0 (by decide)) ?_
    refine e_gf (c := 0) (j := 5) f_10_6 (by decide) (by decide) ha0 ?_
    refine e_icmp f_10_9 (fun hc => ?_) (fun hc => ?_)
    · have hc := x_cct_ge hc
      rw [if_pos hc] at hV
      refine e_iconst (c := 0) f_10_28 (by decide) ?_
      exact e_ireturn f_10_29 rt_10 (by decide) hV
    · have hc := x_ccf_ge hc
      rw [if_neg hc] at hV
      refine e_aload f_10_12 rfl (x_n7 ha0 (by decide)) ?_
      obtain ⟨P1, hP1, hV⟩ := hV
      refine e_vi (n := 1) (A := [.ref a0]) (R := []) f_10_13 na_11 rfl rfl (Nat.le_of_ble_eq_true rfl) (Nat.le_of_ble_eq_true rfl) (by rw [ml_11]; exact Nat.le_of_ble_eq_true rfl) rfl (by rw [cy_11]; decide) (by rw [cy_11]; exact ha0) hP1 (fun v1 S1 hp1 => ?_)
      have hV := hV v1 S1 hp1
      refine e_iload f_10_16 rfl ?_
      refine e_ishr f_10_17 ?_
      refine e_iconst (c := 1) f_10_18 (by decide) ?_
      refine e_iand f_10_19 ?_
      refine e_iconst (c := 1) f_10_20 (by decide) ?_
      refine e_icmp f_10_21 (fun hc => ?_) (fun hc => ?_)
      · have hc := x_cct_ne hc
        rw [if_neg hc] at hV
        refine e_iconst (c := 0) f_10_28 (by decide) ?_
        exact e_ireturn f_10_29 rt_10 (by decide) hV
      · have hc := x_ccf_ne hc
        rw [if_pos hc] at hV
        refine e_iconst (c := 1) f_10_24 (by decide) ?_
        refine e_goto f_10_25 ?_
        exact e_ireturn f_10_29 rt_10 (by decide) hV
set_option maxRecDepth 20000 in
theorem T_11_0 {xs : List Int32} {d : Nat} {S : x_M} {Q : Option Value → x_M → Prop} {a0 : Nat} (ha0 : x_tg a0 = 0) (hV : if (S a0 8) = 0 then ((x_ib (S a0 8) 2) ∧ (Q (some (.int (S (x_rr a0 2) (Int32.toNatClampNeg (S a0 8))))) S)) else (if (S a0 8) = 1 then ((x_ib (S a0 8) 2) ∧ (Q (some (.int (S (x_rr a0 2) (Int32.toNatClampNeg (S a0 8))))) S)) else (Q (some (.int 0)) S))) : x_E xs (d + 1) 11 0 [.ref a0] [] S Q := by
  refine e_aload f_11_0 rfl (x_n7 ha0 (by decide)) ?_
  refine e_gf (c := 0) (j := 8) f_11_1 (by decide) (by decide) ha0 ?_
  refine e_if f_11_4 (fun hc => ?_) (fun hc => ?_)
  · have hc := x_cct_eq hc
    rw [if_pos hc] at hV
    refine e_aload f_11_15 rfl (x_n7 ha0 (by decide)) ?_
    refine e_gr (c := 0) (j := 2) (r := (x_rr a0 2)) f_11_16 (by decide) (by decide) ha0 rfl ?_
    refine e_aload f_11_19 rfl (x_n7 ha0 (by decide)) ?_
    refine e_gf (c := 0) (j := 8) f_11_20 (by decide) (by decide) ha0 ?_
    obtain ⟨hg, hV⟩ := hV
    refine e_ia (n := 2) f_11_23 (ht_0_2 ha0) (hn_0_2 ha0) hg ?_
    refine e_goto f_11_24 ?_
    exact e_ireturn f_11_28 rt_11 rfl hV
  · have hc := x_ccf_eq hc
    rw [if_neg hc] at hV
    refine e_aload f_11_7 rfl (x_n7 ha0 (by decide)) ?_
    refine e_gf (c := 0) (j := 8) f_11_8 (by decide) (by decide) ha0 ?_
    refine e_iconst (c := 1) f_11_11 (by decide) ?_
    refine e_icmp f_11_12 (fun hc => ?_) (fun hc => ?_)
    · have hc := x_cct_ne hc
      rw [if_neg hc] at hV
      refine e_iconst (c := 0) f_11_27 (by decide) ?_
      exact e_ireturn f_11_28 rt_11 rfl hV
    · have hc := x_ccf_ne hc
      rw [if_pos hc] at hV
      refine e_aload f_11_15 rfl (x_n7 ha0 (by decide)) ?_
      refine e_gr (c := 0) (j := 2) (r := (x_rr a0 2)) f_11_16 (by decide) (by decide) ha0 rfl ?_
      refine e_aload f_11_19 rfl (x_n7 ha0 (by decide)) ?_
      refine e_gf (c := 0) (j := 8) f_11_20 (by decide) (by decide) ha0 ?_
      obtain ⟨hg, hV⟩ := hV
      refine e_ia (n := 2) f_11_23 (ht_0_2 ha0) (hn_0_2 ha0) hg ?_
      refine e_goto f_11_24 ?_
      exact e_ireturn f_11_28 rt_11 rfl hV
set_option maxRecDepth 20000 in
theorem T_12_0 {xs : List Int32} {d : Nat} {S : x_M} {Q : Option Value → x_M → Prop} {a0 : Nat} {a1 : Int32} {a2 : Int32} (ha0 : x_tg a0 = 0) (hV : ∃ P1 : Int32 → x_M → Prop, x_Ci xs d 10 [.ref a0, .int a1] S P1 ∧ ∀ (v1 : Int32) (S1 : x_M), P1 v1 S1 → (if v1 = 0 then (Q (some (.int 0)) S1) else (∃ P2 : Int32 → x_M → Prop, x_Ci xs d 8 [.ref a0, .int a1, .int a2] S1 P2 ∧ ∀ (v2 : Int32) (S2 : x_M), P2 v2 S2 → (∀ S3 : x_M, S3 = x_up S2 a0 6 ((S1 a0 6) &&& v2) → (∀ S4 : x_M, S4 = x_up S3 a0 7 ((S3 a0 7) + 1) → ((x_ib (S4 a0 8) 2) ∧ ((x_ib (S4 a0 8) 2) ∧ (∀ S5 : x_M, S5 = x_up S4 (x_rr a0 2) (Int32.toNatClampNeg (S4 a0 8)) ((S4 (x_rr a0 2) (Int32.toNatClampNeg (S4 a0 8))) &&& ((1 <<< (a1 &&& 31)) ^^^ (-1))) → (∃ P6 : Int32 → x_M → Prop, x_Ci xs d 9 [.ref a0, .int (S5 a0 6)] S5 P6 ∧ ∀ (v6 : Int32) (S6 : x_M), P6 v6 S6 → ((x_ib (S6 a0 8) 2) ∧ ((x_ib (S6 a0 8) 2) ∧ (∀ S7 : x_M, S7 = x_up S6 (x_rr a0 3) (Int32.toNatClampNeg (S6 a0 8)) ((S6 (x_rr a0 3) (Int32.toNatClampNeg (S6 a0 8))) + v6) → (if (S7 a0 6) = 0 then (∀ S10 : x_M, S10 = x_up S7 a0 6 511 → (∀ S11 : x_M, S11 = x_up S10 a0 7 0 → (∀ S12 : x_M, S12 = x_up S11 a0 9 ((S11 a0 9) + 1) → (∃ P13 : Int32 → x_M → Prop, x_Ci xs d 6 [.ref a0, .int (S12 a0 8)] S12 P13 ∧ ∀ (v13 : Int32) (S13 : x_M), P13 v13 S13 → (∀ S14 : x_M, S14 = x_up S13 a0 8 v13 → (Q (some (.int v6)) S14)))))) else (∃ P8 : Int32 → x_M → Prop, x_Ci xs d 6 [.ref a0, .int (S7 a0 8)] S7 P8 ∧ ∀ (v8 : Int32) (S8 : x_M), P8 v8 S8 → (∀ S9 : x_M, S9 = x_up S8 a0 8 v8 → (Q (some (.int v6)) S9)))))))))))))))) : x_E xs (d + 1) 12 0 [.ref a0, .int a1, .int a2, .null] [] S Q := by
  refine e_aload f_12_0 rfl (x_n7 ha0 (by decide)) ?_
  refine e_iload f_12_1 rfl ?_
  obtain ⟨P1, hP1, hV⟩ := hV
  refine e_vi (n := 2) (A := [.ref a0, .int a1]) (R := []) f_12_2 na_10 rfl rfl (Nat.le_of_ble_eq_true rfl) (Nat.le_of_ble_eq_true rfl) (by rw [ml_10]; exact Nat.le_of_ble_eq_true rfl) rfl (by rw [cy_10]; decide) (by rw [cy_10]; exact ha0) hP1 (fun v1 S1 hp1 => ?_)
  have hV := hV v1 S1 hp1
  refine e_if f_12_5 (fun hc => ?_) (fun hc => ?_)
  · have hc := x_cct_ne hc
    rw [if_neg hc] at hV
    refine e_aload f_12_10 rfl (x_n7 ha0 (by decide)) ?_
    refine e_dup f_12_11 rfl ?_
    refine e_gf (c := 0) (j := 6) f_12_12 (by decide) (by decide) ha0 ?_
    refine e_aload f_12_15 rfl (x_n7 ha0 (by decide)) ?_
    refine e_iload f_12_16 rfl ?_
    refine e_iload f_12_17 rfl ?_
    obtain ⟨P2, hP2, hV⟩ := hV
    refine e_vi (n := 3) (A := [.ref a0, .int a1, .int a2]) (R := [.int (S1 a0 6), .ref a0]) f_12_18 na_8 rfl rfl (Nat.le_of_ble_eq_true rfl) (Nat.le_of_ble_eq_true rfl) (by rw [ml_8]; exact Nat.le_of_ble_eq_true rfl) rfl (by rw [cy_8]; decide) (by rw [cy_8]; exact ha0) hP2 (fun v2 S2 hp2 => ?_)
    have hV := hV v2 S2 hp2
    refine e_iand f_12_21 ?_
    refine e_pfn (c := 0) (j := 6) f_12_22 (by decide) (by decide) ha0 (x_fit_i rfl) (fun S3 hS3 => ?_)
    have hV := hV S3 hS3
    refine e_aload f_12_25 rfl (x_n7 ha0 (by decide)) ?_
    refine e_dup f_12_26 rfl ?_
    refine e_gf (c := 0) (j := 7) f_12_27 (by decide) (by decide) ha0 ?_
    refine e_iconst (c := 1) f_12_30 (by decide) ?_
    refine e_iadd f_12_31 ?_
    refine e_pfn (c := 0) (j := 7) f_12_32 (by decide) (by decide) ha0 (x_fit_i rfl) (fun S4 hS4 => ?_)
    have hV := hV S4 hS4
    refine e_aload f_12_35 rfl (x_n7 ha0 (by decide)) ?_
    refine e_gr (c := 0) (j := 2) (r := (x_rr a0 2)) f_12_36 (by decide) (by decide) ha0 rfl ?_
    refine e_aload f_12_39 rfl (x_n7 ha0 (by decide)) ?_
    refine e_gf (c := 0) (j := 8) f_12_40 (by decide) (by decide) ha0 ?_
    refine e_dup2 f_12_43 ⟨rfl, rfl⟩ ?_
    obtain ⟨hg, hV⟩ := hV
    refine e_ia (n := 2) f_12_44 (ht_0_2 ha0) (hn_0_2 ha0) hg ?_
    refine e_iconst (c := 1) f_12_45 (by decide) ?_
    refine e_iload f_12_46 rfl ?_
    refine e_ishl f_12_47 ?_
    refine e_iconst (c := (-1)) f_12_48 (by decide) ?_
    refine e_ixor f_12_49 ?_
    refine e_iand f_12_50 ?_
    obtain ⟨hg, hV⟩ := hV
    refine e_isn (n := 2) f_12_51 (ht_0_2 ha0) (hn_0_2 ha0) hg (fun S5 hS5 => ?_)
    have hV := hV S5 hS5
    refine e_aload f_12_52 rfl (x_n7 ha0 (by decide)) ?_
    refine e_aload f_12_53 rfl (x_n7 ha0 (by decide)) ?_
    refine e_gf (c := 0) (j := 6) f_12_54 (by decide) (by decide) ha0 ?_
    obtain ⟨P6, hP6, hV⟩ := hV
    refine e_vi (n := 2) (A := [.ref a0, .int (S5 a0 6)]) (R := []) f_12_57 na_9 rfl rfl (Nat.le_of_ble_eq_true rfl) (Nat.le_of_ble_eq_true rfl) (by rw [ml_9]; exact Nat.le_of_ble_eq_true rfl) rfl (by rw [cy_9]; decide) (by rw [cy_9]; exact ha0) hP6 (fun v6 S6 hp6 => ?_)
    have hV := hV v6 S6 hp6
    refine e_istore (L' := [.ref a0, .int a1, .int a2, .int v6]) f_12_60 (Nat.le_of_ble_eq_true rfl) rfl ?_
    refine e_aload f_12_61 rfl (x_n7 ha0 (by decide)) ?_
    refine e_gr (c := 0) (j := 3) (r := (x_rr a0 3)) f_12_62 (by decide) (by decide) ha0 rfl ?_
    refine e_aload f_12_65 rfl (x_n7 ha0 (by decide)) ?_
    refine e_gf (c := 0) (j := 8) f_12_66 (by decide) (by decide) ha0 ?_
    refine e_dup2 f_12_69 ⟨rfl, rfl⟩ ?_
    obtain ⟨hg, hV⟩ := hV
    refine e_ia (n := 2) f_12_70 (ht_0_3 ha0) (hn_0_3 ha0) hg ?_
    refine e_iload f_12_71 rfl ?_
    refine e_iadd f_12_72 ?_
    obtain ⟨hg, hV⟩ := hV
    refine e_isn (n := 2) f_12_73 (ht_0_3 ha0) (hn_0_3 ha0) hg (fun S7 hS7 => ?_)
    have hV := hV S7 hS7
    refine e_aload f_12_74 rfl (x_n7 ha0 (by decide)) ?_
    refine e_gf (c := 0) (j := 6) f_12_75 (by decide) (by decide) ha0 ?_
    refine e_if f_12_78 (fun hc => ?_) (fun hc => ?_)
    · have hc := x_cct_ne hc
      rw [if_neg hc] at hV
      refine e_aload f_12_103 rfl (x_n7 ha0 (by decide)) ?_
      refine e_aload f_12_104 rfl (x_n7 ha0 (by decide)) ?_
      refine e_aload f_12_105 rfl (x_n7 ha0 (by decide)) ?_
      refine e_gf (c := 0) (j := 8) f_12_106 (by decide) (by decide) ha0 ?_
      obtain ⟨P8, hP8, hV⟩ := hV
      refine e_vi (n := 2) (A := [.ref a0, .int (S7 a0 8)]) (R := [.ref a0]) f_12_109 na_6 rfl rfl (Nat.le_of_ble_eq_true rfl) (Nat.le_of_ble_eq_true rfl) (by rw [ml_6]; exact Nat.le_of_ble_eq_true rfl) rfl (by rw [cy_6]; decide) (by rw [cy_6]; exact ha0) hP8 (fun v8 S8 hp8 => ?_)
      have hV := hV v8 S8 hp8
      refine e_pfn (c := 0) (j := 8) f_12_112 (by decide) (by decide) ha0 (x_fit_i rfl) (fun S9 hS9 => ?_)
      have hV := hV S9 hS9
      refine e_iload f_12_115 rfl ?_
      exact e_ireturn f_12_116 rt_12 rfl hV
    · have hc := x_ccf_ne hc
      rw [if_pos hc] at hV
      refine e_aload f_12_81 rfl (x_n7 ha0 (by decide)) ?_
      refine e_iconst (c := 511) f_12_82 (by decide) ?_
      refine e_pfn (c := 0) (j := 6) f_12_85 (by decide) (by decide) ha0 (x_fit_i rfl) (fun S10 hS10 => ?_)
      have hV := hV S10 hS10
      refine e_aload f_12_88 rfl (x_n7 ha0 (by decide)) ?_
      refine e_iconst (c := 0) f_12_89 (by decide) ?_
      refine e_pfn (c := 0) (j := 7) f_12_90 (by decide) (by decide) ha0 (x_fit_i rfl) (fun S11 hS11 => ?_)
      have hV := hV S11 hS11
      refine e_aload f_12_93 rfl (x_n7 ha0 (by decide)) ?_
      refine e_dup f_12_94 rfl ?_
      refine e_gf (c := 0) (j := 9) f_12_95 (by decide) (by decide) ha0 ?_
      refine e_iconst (c := 1) f_12_98 (by decide) ?_
      refine e_iadd f_12_99 ?_
      refine e_pfn (c := 0) (j := 9) f_12_100 (by decide) (by decide) ha0 (x_fit_i rfl) (fun S12 hS12 => ?_)
      have hV := hV S12 hS12
      refine e_aload f_12_103 rfl (x_n7 ha0 (by decide)) ?_
      refine e_aload f_12_104 rfl (x_n7 ha0 (by decide)) ?_
      refine e_aload f_12_105 rfl (x_n7 ha0 (by decide)) ?_
      refine e_gf (c := 0) (j := 8) f_12_106 (by decide) (by decide) ha0 ?_
      obtain ⟨P13, hP13, hV⟩ := hV
      refine e_vi (n := 2) (A := [.ref a0, .int (S12 a0 8)]) (R := [.ref a0]) f_12_109 na_6 rfl rfl (Nat.le_of_ble_eq_true rfl) (Nat.le_of_ble_eq_true rfl) (by rw [ml_6]; exact Nat.le_of_ble_eq_true rfl) rfl (by rw [cy_6]; decide) (by rw [cy_6]; exact ha0) hP13 (fun v13 S13 hp13 => ?_)
      have hV := hV v13 S13 hp13
      refine e_pfn (c := 0) (j := 8) f_12_112 (by decide) (by decide) ha0 (x_fit_i rfl) (fun S14 hS14 => ?_)
      have hV := hV S14 hS14
      refine e_iload f_12_115 rfl ?_
      exact e_ireturn f_12_116 rt_12 rfl hV
  · have hc := x_ccf_ne hc
    rw [if_pos hc] at hV
    refine e_iconst (c := 0) f_12_8 (by decide) ?_
    exact e_ireturn f_12_9 rt_12 rfl hV
set_option maxRecDepth 20000 in
theorem T_13_0 {xs : List Int32} {d : Nat} {S : x_M} {Q : Option Value → x_M → Prop} {a0 : Nat} (ha0 : x_tg a0 = 0) (hV : ∃ P1 : Int32 → x_M → Prop, x_Ci xs d 179 [.int (S (x_rr a0 2) 0)] S P1 ∧ ∀ (v1 : Int32) (S1 : x_M), P1 v1 S1 → (∃ P2 : Int32 → x_M → Prop, x_Ci xs d 179 [.int (S1 (x_rr a0 2) 1)] S1 P2 ∧ ∀ (v2 : Int32) (S2 : x_M), P2 v2 S2 → (Q (some (.int (v1 + v2))) S2))) : x_E xs (d + 1) 13 0 [.ref a0] [] S Q := by
  refine e_aload f_13_0 rfl (x_n7 ha0 (by decide)) ?_
  refine e_gr (c := 0) (j := 2) (r := (x_rr a0 2)) f_13_1 (by decide) (by decide) ha0 rfl ?_
  refine e_iconst (c := 0) f_13_4 (by decide) ?_
  refine e_iak (n := 2) (kk := 0) f_13_5 (ht_0_2 ha0) (hn_0_2 ha0) (by decide) ?_
  obtain ⟨P1, hP1, hV⟩ := hV
  refine e_si (n := 1) (A := [.int (S (x_rr a0 2) 0)]) (R := []) f_13_6 na_179 rfl rfl (Nat.le_of_ble_eq_true rfl) (Nat.le_of_ble_eq_true rfl) (by rw [ml_179]; exact Nat.le_of_ble_eq_true rfl) hP1 (fun v1 S1 hp1 => ?_)
  have hV := hV v1 S1 hp1
  refine e_aload f_13_9 rfl (x_n7 ha0 (by decide)) ?_
  refine e_gr (c := 0) (j := 2) (r := (x_rr a0 2)) f_13_10 (by decide) (by decide) ha0 rfl ?_
  refine e_iconst (c := 1) f_13_13 (by decide) ?_
  refine e_iak (n := 2) (kk := 1) f_13_14 (ht_0_2 ha0) (hn_0_2 ha0) (by decide) ?_
  obtain ⟨P2, hP2, hV⟩ := hV
  refine e_si (n := 1) (A := [.int (S1 (x_rr a0 2) 1)]) (R := [.int v1]) f_13_15 na_179 rfl rfl (Nat.le_of_ble_eq_true rfl) (Nat.le_of_ble_eq_true rfl) (by rw [ml_179]; exact Nat.le_of_ble_eq_true rfl) hP2 (fun v2 S2 hp2 => ?_)
  have hV := hV v2 S2 hp2
  refine e_iadd f_13_18 ?_
  exact e_ireturn f_13_19 rt_13 rfl hV
set_option maxRecDepth 20000 in
theorem T_14_0 {xs : List Int32} {d : Nat} {S : x_M} {Q : Option Value → x_M → Prop} {a0 : Nat} (ha0 : x_tg a0 = 0) (hV : if (S a0 8) = 0 then ((x_ib (1 - (S a0 8)) 2) ∧ (Q (some (.int (S (x_rr a0 2) (Int32.toNatClampNeg (1 - (S a0 8)))))) S)) else (if (S a0 8) = 1 then ((x_ib (1 - (S a0 8)) 2) ∧ (Q (some (.int (S (x_rr a0 2) (Int32.toNatClampNeg (1 - (S a0 8)))))) S)) else (Q (some (.int 0)) S))) : x_E xs (d + 1) 14 0 [.ref a0] [] S Q := by
  refine e_aload f_14_0 rfl (x_n7 ha0 (by decide)) ?_
  refine e_gf (c := 0) (j := 8) f_14_1 (by decide) (by decide) ha0 ?_
  refine e_if f_14_4 (fun hc => ?_) (fun hc => ?_)
  · have hc := x_cct_eq hc
    rw [if_pos hc] at hV
    refine e_aload f_14_15 rfl (x_n7 ha0 (by decide)) ?_
    refine e_gr (c := 0) (j := 2) (r := (x_rr a0 2)) f_14_16 (by decide) (by decide) ha0 rfl ?_
    refine e_iconst (c := 1) f_14_19 (by decide) ?_
    refine e_aload f_14_20 rfl (x_n7 ha0 (by decide)) ?_
    refine e_gf (c := 0) (j := 8) f_14_21 (by decide) (by decide) ha0 ?_
    refine e_isub f_14_24 ?_
    obtain ⟨hg, hV⟩ := hV
    refine e_ia (n := 2) f_14_25 (ht_0_2 ha0) (hn_0_2 ha0) hg ?_
    refine e_goto f_14_26 ?_
    exact e_ireturn f_14_30 rt_14 rfl hV
  · have hc := x_ccf_eq hc
    rw [if_neg hc] at hV
    refine e_aload f_14_7 rfl (x_n7 ha0 (by decide)) ?_
    refine e_gf (c := 0) (j := 8) f_14_8 (by decide) (by decide) ha0 ?_
    refine e_iconst (c := 1) f_14_11 (by decide) ?_
    refine e_icmp f_14_12 (fun hc => ?_) (fun hc => ?_)
    · have hc := x_cct_ne hc
      rw [if_neg hc] at hV
      refine e_iconst (c := 0) f_14_29 (by decide) ?_
      exact e_ireturn f_14_30 rt_14 rfl hV
    · have hc := x_ccf_ne hc
      rw [if_pos hc] at hV
      refine e_aload f_14_15 rfl (x_n7 ha0 (by decide)) ?_
      refine e_gr (c := 0) (j := 2) (r := (x_rr a0 2)) f_14_16 (by decide) (by decide) ha0 rfl ?_
      refine e_iconst (c := 1) f_14_19 (by decide) ?_
      refine e_aload f_14_20 rfl (x_n7 ha0 (by decide)) ?_
      refine e_gf (c := 0) (j := 8) f_14_21 (by decide) (by decide) ha0 ?_
      refine e_isub f_14_24 ?_
      obtain ⟨hg, hV⟩ := hV
      refine e_ia (n := 2) f_14_25 (ht_0_2 ha0) (hn_0_2 ha0) hg ?_
      refine e_goto f_14_26 ?_
      exact e_ireturn f_14_30 rt_14 rfl hV
set_option maxRecDepth 20000 in
theorem T_15_0 {xs : List Int32} {d : Nat} {S : x_M} {Q : Option Value → x_M → Prop} {a0 : Nat} {a1 : Int32} (ha0 : x_tg a0 = 0) (hV : x_E xs (d + 1) 15 4 [.ref a0, .int a1, .int 0, .int 0, .null] [] S Q) : x_E xs (d + 1) 15 0 [.ref a0, .int a1, .null, .null, .null] [] S Q := by
  refine e_iconst (c := 0) f_15_0 (by decide) ?_
  refine e_istore (L' := [.ref a0, .int a1, .int 0, .null, .null]) f_15_1 (Nat.le_of_ble_eq_true rfl) rfl ?_
  refine e_iconst (c := 0) f_15_2 (by decide) ?_
  refine e_istore (L' := [.ref a0, .int a1, .int 0, .int 0, .null]) f_15_3 (Nat.le_of_ble_eq_true rfl) rfl ?_
  exact hV
set_option maxRecDepth 20000 in
theorem T_15_4 {xs : List Int32} {d : Nat} {S : x_M} {Q : Option Value → x_M → Prop} {a0 : Nat} {a1 : Int32} {a2 : Int32} {a3 : Int32} {a4 : Value} (ha0 : x_tg a0 = 0) (hV : if (8 : Int32) ≤ a3 then (Q (some (.int a2)) S) else (x_E xs (d + 1) 15 13 [.ref a0, .int a1, .int a2, .int a3, .int 0] [] S Q)) : x_E xs (d + 1) 15 4 [.ref a0, .int a1, .int a2, .int a3, a4] [] S Q := by
  refine e_iload f_15_4 rfl ?_
  refine e_iconst (c := 8) f_15_5 (by decide) ?_
  refine e_icmp f_15_7 (fun hc => ?_) (fun hc => ?_)
  · have hc := x_cct_ge hc
    rw [if_pos hc] at hV
    refine e_iload f_15_56 rfl ?_
    exact e_ireturn f_15_57 rt_15 rfl hV
  · have hc := x_ccf_ge hc
    rw [if_neg hc] at hV
    refine e_iconst (c := 0) f_15_10 (by decide) ?_
    refine e_istore (L' := [.ref a0, .int a1, .int a2, .int a3, .int 0]) f_15_11 (Nat.le_of_ble_eq_true rfl) rfl ?_
    exact hV
set_option maxRecDepth 20000 in
theorem T_15_13 {xs : List Int32} {d : Nat} {S : x_M} {Q : Option Value → x_M → Prop} {a0 : Nat} {a1 : Int32} {a2 : Int32} {a3 : Int32} {a4 : Int32} (ha0 : x_tg a0 = 0) (hV : if a3 ≤ a4 then (if a4 = a3 then (x_E xs (d + 1) 15 4 [.ref a0, .int a1, .int (a2 + 1), .int (a3 + 1), .int a4] [] S Q) else (x_E xs (d + 1) 15 4 [.ref a0, .int a1, .int a2, .int (a3 + 1), .int a4] [] S Q)) else (∃ P1 : Int32 → x_M → Prop, x_Ci xs d 8 [.ref a0, .int a1, .int a4] S P1 ∧ ∀ (v1 : Int32) (S1 : x_M), P1 v1 S1 → (∃ P2 : Int32 → x_M → Prop, x_Ci xs d 8 [.ref a0, .int a1, .int a3] S1 P2 ∧ ∀ (v2 : Int32) (S2 : x_M), P2 v2 S2 → (if v1 = v2 then (if a4 = a3 then (x_E xs (d + 1) 15 4 [.ref a0, .int a1, .int (a2 + 1), .int (a3 + 1), .int a4] [] S2 Q) else (x_E xs (d + 1) 15 4 [.ref a0, .int a1, .int a2, .int (a3 + 1), .int a4] [] S2 Q)) else (x_E xs (d + 1) 15 13 [.ref a0, .int a1, .int a2, .int a3, .int (a4 + 1)] [] S2 Q))))) : x_E xs (d + 1) 15 13 [.ref a0, .int a1, .int a2, .int a3, .int a4] [] S Q := by
  refine e_iload f_15_13 rfl ?_
  refine e_iload f_15_15 rfl ?_
  refine e_icmp f_15_16 (fun hc => ?_) (fun hc => ?_)
  · have hc := x_cct_ge hc
    rw [if_pos hc] at hV
    refine e_iload f_15_41 rfl ?_
    refine e_iload f_15_43 rfl ?_
    refine e_icmp f_15_44 (fun hc => ?_) (fun hc => ?_)
    · have hc := x_cct_ne hc
      rw [if_neg hc] at hV
      refine e_inc (c := 1) (L' := [.ref a0, .int a1, .int a2, .int (a3 + 1), .int a4]) f_15_50 rfl (by decide) rfl ?_
      refine e_goto f_15_53 ?_
      exact hV
    · have hc := x_ccf_ne hc
      rw [if_pos hc] at hV
      refine e_inc (c := 1) (L' := [.ref a0, .int a1, .int (a2 + 1), .int a3, .int a4]) f_15_47 rfl (by decide) rfl ?_
      refine e_inc (c := 1) (L' := [.ref a0, .int a1, .int (a2 + 1), .int (a3 + 1), .int a4]) f_15_50 rfl (by decide) rfl ?_
      refine e_goto f_15_53 ?_
      exact hV
  · have hc := x_ccf_ge hc
    rw [if_neg hc] at hV
    refine e_aload f_15_19 rfl (x_n7 ha0 (by decide)) ?_
    refine e_iload f_15_20 rfl ?_
    refine e_iload f_15_21 rfl ?_
    obtain ⟨P1, hP1, hV⟩ := hV
    refine e_vi (n := 3) (A := [.ref a0, .int a1, .int a4]) (R := []) f_15_23 na_8 rfl rfl (Nat.le_of_ble_eq_true rfl) (Nat.le_of_ble_eq_true rfl) (by rw [ml_8]; exact Nat.le_of_ble_eq_true rfl) rfl (by rw [cy_8]; decide) (by rw [cy_8]; exact ha0) hP1 (fun v1 S1 hp1 => ?_)
    have hV := hV v1 S1 hp1
    refine e_aload f_15_26 rfl (x_n7 ha0 (by decide)) ?_
    refine e_iload f_15_27 rfl ?_
    refine e_iload f_15_28 rfl ?_
    obtain ⟨P2, hP2, hV⟩ := hV
    refine e_vi (n := 3) (A := [.ref a0, .int a1, .int a3]) (R := [.int v1]) f_15_29 na_8 rfl rfl (Nat.le_of_ble_eq_true rfl) (Nat.le_of_ble_eq_true rfl) (by rw [ml_8]; exact Nat.le_of_ble_eq_true rfl) rfl (by rw [cy_8]; decide) (by rw [cy_8]; exact ha0) hP2 (fun v2 S2 hp2 => ?_)
    have hV := hV v2 S2 hp2
    refine e_icmp f_15_32 (fun hc => ?_) (fun hc => ?_)
    · have hc := x_cct_eq hc
      rw [if_pos hc] at hV
      refine e_iload f_15_41 rfl ?_
      refine e_iload f_15_43 rfl ?_
      refine e_icmp f_15_44 (fun hc => ?_) (fun hc => ?_)
      · have hc := x_cct_ne hc
        rw [if_neg hc] at hV
        refine e_inc (c := 1) (L' := [.ref a0, .int a1, .int a2, .int (a3 + 1), .int a4]) f_15_50 rfl (by decide) rfl ?_
        refine e_goto f_15_53 ?_
        exact hV
      · have hc := x_ccf_ne hc
        rw [if_pos hc] at hV
        refine e_inc (c := 1) (L' := [.ref a0, .int a1, .int (a2 + 1), .int a3, .int a4]) f_15_47 rfl (by decide) rfl ?_
        refine e_inc (c := 1) (L' := [.ref a0, .int a1, .int (a2 + 1), .int (a3 + 1), .int a4]) f_15_50 rfl (by decide) rfl ?_
        refine e_goto f_15_53 ?_
        exact hV
    · have hc := x_ccf_eq hc
      rw [if_neg hc] at hV
      refine e_inc (c := 1) (L' := [.ref a0, .int a1, .int a2, .int a3, .int (a4 + 1)]) f_15_35 rfl (by decide) rfl ?_
      refine e_goto f_15_38 ?_
      exact hV
set_option maxRecDepth 20000 in
theorem T_17_0 {xs : List Int32} {d : Nat} {S : x_M} {Q : Option Value → x_M → Prop} {a1 : Nat} (ha1 : x_tg a1 = 0) (hV : ∀ S1 : x_M, S1 = x_up S 23 3 0 → (∀ S2 : x_M, S2 = x_up S1 25 0 0 → (∀ S3 : x_M, S3 = x_up S2 25 1 0 → (x_E xs (d + 1) 17 21 [.ref 23, .ref a1, .int 0, .null] [] S3 Q)))) : x_E xs (d + 1) 17 0 [.ref 23, .ref a1, .null, .null] [] S Q := by
  refine e_aload f_17_0 rfl (by decide) ?_
  refine e_iconst (c := 0) f_17_1 (by decide) ?_
  refine e_pfn (c := 1) (j := 3) f_17_2 (by decide) (by decide) (by decide) (x_fit_i rfl) (fun S1 hS1 => ?_)
  have hV := hV S1 hS1
  refine e_aload f_17_5 rfl (by decide) ?_
  refine e_gr (c := 1) (j := 1) (r := 25) f_17_6 (by decide) (by decide) (by decide) (by decide) ?_
  refine e_iconst (c := 0) f_17_9 (by decide) ?_
  refine e_iconst (c := 0) f_17_10 (by decide) ?_
  refine e_iskn (n := 2) (kk := 0) f_17_11 (by decide) (by decide) (by decide) (fun S2 hS2 => ?_)
  have hV := hV S2 hS2
  refine e_aload f_17_12 rfl (by decide) ?_
  refine e_gr (c := 1) (j := 1) (r := 25) f_17_13 (by decide) (by decide) (by decide) (by decide) ?_
  refine e_iconst (c := 1) f_17_16 (by decide) ?_
  refine e_iconst (c := 0) f_17_17 (by decide) ?_
  refine e_iskn (n := 2) (kk := 1) f_17_18 (by decide) (by decide) (by decide) (fun S3 hS3 => ?_)
  have hV := hV S3 hS3
  refine e_iconst (c := 0) f_17_19 (by decide) ?_
  refine e_istore (L' := [.ref 23, .ref a1, .int 0, .null]) f_17_20 (Nat.le_of_ble_eq_true rfl) rfl ?_
  exact hV
set_option maxRecDepth 20000 in
theorem T_17_21 {xs : List Int32} {d : Nat} {S : x_M} {Q : Option Value → x_M → Prop} {a1 : Nat} {a2 : Int32} {a3 : Value} (ha1 : x_tg a1 = 0) (hV : if (S a1 5) ≤ a2 then (∃ P1 : x_M → Prop, x_Cv xs d 182 [.ref 26, .int (-1000000000)] S P1 ∧ ∀ (S1 : x_M), P1 S1 → (Q none S1)) else (if (4 : Int32) ≤ (S 23 3) then (∃ P2 : x_M → Prop, x_Cv xs d 182 [.ref 26, .int (-1000000000)] S P2 ∧ ∀ (S2 : x_M), P2 S2 → (Q none S2)) else (x_E xs (d + 1) 17 39 [.ref 23, .ref a1, .int a2, .int 0] [] S Q))) : x_E xs (d + 1) 17 21 [.ref 23, .ref a1, .int a2, a3] [] S Q := by
  refine e_iload f_17_21 rfl ?_
  refine e_aload f_17_22 rfl (x_n7 ha1 (by decide)) ?_
  refine e_gf (c := 0) (j := 5) f_17_23 (by decide) (by decide) ha1 ?_
  refine e_icmp f_17_26 (fun hc => ?_) (fun hc => ?_)
  · have hc := x_cct_ge hc
    rw [if_pos hc] at hV
    refine e_aload f_17_113 rfl (by decide) ?_
    refine e_gr (c := 1) (j := 2) (r := 26) f_17_114 (by decide) (by decide) (by decide) (by decide) ?_
    refine e_iconst (c := (-1000000000)) f_17_117 (by decide) ?_
    obtain ⟨P1, hP1, hV⟩ := hV
    refine e_sv (n := 2) (A := [.ref 26, .int (-1000000000)]) (R := []) f_17_119 na_182 rfl rfl (Nat.le_of_ble_eq_true rfl) (Nat.le_of_ble_eq_true rfl) (by rw [ml_182]; exact Nat.le_of_ble_eq_true rfl) hP1 (fun S1 hp1 => ?_)
    have hV := hV S1 hp1
    exact e_return f_17_122 rt_17 hV
  · have hc := x_ccf_ge hc
    rw [if_neg hc] at hV
    refine e_aload f_17_29 rfl (by decide) ?_
    refine e_gf (c := 1) (j := 3) f_17_30 (by decide) (by decide) (by decide) ?_
    refine e_iconst (c := 4) f_17_33 (by decide) ?_
    refine e_icmp f_17_34 (fun hc => ?_) (fun hc => ?_)
    · have hc := x_cct_ge hc
      rw [if_pos hc] at hV
      refine e_aload f_17_113 rfl (by decide) ?_
      refine e_gr (c := 1) (j := 2) (r := 26) f_17_114 (by decide) (by decide) (by decide) (by decide) ?_
      refine e_iconst (c := (-1000000000)) f_17_117 (by decide) ?_
      obtain ⟨P2, hP2, hV⟩ := hV
      refine e_sv (n := 2) (A := [.ref 26, .int (-1000000000)]) (R := []) f_17_119 na_182 rfl rfl (Nat.le_of_ble_eq_true rfl) (Nat.le_of_ble_eq_true rfl) (by rw [ml_182]; exact Nat.le_of_ble_eq_true rfl) hP2 (fun S2 hp2 => ?_)
      have hV := hV S2 hp2
      exact e_return f_17_122 rt_17 hV
    · have hc := x_ccf_ge hc
      rw [if_neg hc] at hV
      refine e_iconst (c := 0) f_17_37 (by decide) ?_
      refine e_istore (L' := [.ref 23, .ref a1, .int a2, .int 0]) f_17_38 (Nat.le_of_ble_eq_true rfl) rfl ?_
      exact hV
set_option maxRecDepth 20000 in
theorem T_17_39 {xs : List Int32} {d : Nat} {S : x_M} {Q : Option Value → x_M → Prop} {a1 : Nat} {a2 : Int32} {a3 : Int32} (ha1 : x_tg a1 = 0) (hV : if (2 : Int32) ≤ a3 then (x_E xs (d + 1) 17 21 [.ref 23, .ref a1, .int (a2 + 1), .int a3] [] S Q) else (if (4 : Int32) ≤ (S 23 3) then (x_E xs (d + 1) 17 21 [.ref 23, .ref a1, .int (a2 + 1), .int a3] [] S Q) else ((x_ib a3 2) ∧ (if (((S (x_rr a1 2) (Int32.toNatClampNeg a3)) >>> (a2 &&& 31)) &&& 1) = 1 then ((x_ib a3 2) ∧ ((x_ib a3 2) ∧ (∀ S1 : x_M, S1 = x_up S 25 (Int32.toNatClampNeg a3) ((S 25 (Int32.toNatClampNeg a3)) ||| (1 <<< ((S 23 3) &&& 31))) → ((x_ib (S1 23 3) 4) ∧ (∀ S2 : x_M, S2 = x_up S1 24 (Int32.toNatClampNeg (S1 23 3)) a2 → (∀ S3 : x_M, S3 = x_up S2 23 3 ((S2 23 3) + 1) → (x_E xs (d + 1) 17 39 [.ref 23, .ref a1, .int a2, .int (a3 + 1)] [] S3 Q))))))) else (x_E xs (d + 1) 17 39 [.ref 23, .ref a1, .int a2, .int (a3 + 1)] [] S Q))))) : x_E xs (d + 1) 17 39 [.ref 23, .ref a1, .int a2, .int a3] [] S Q := by
  refine e_iload f_17_39 rfl ?_
  refine e_iconst (c := 2) f_17_40 (by decide) ?_
  refine e_icmp f_17_41 (fun hc => ?_) (fun hc => ?_)
  · have hc := x_cct_ge hc
    rw [if_pos hc] at hV
    refine e_inc (c := 1) (L' := [.ref 23, .ref a1, .int (a2 + 1), .int a3]) f_17_107 rfl (by decide) rfl ?_
    refine e_goto f_17_110 ?_
    exact hV
  · have hc := x_ccf_ge hc
    rw [if_neg hc] at hV
    refine e_aload f_17_44 rfl (by decide) ?_
    refine e_gf (c := 1) (j := 3) f_17_45 (by decide) (by decide) (by decide) ?_
    refine e_iconst (c := 4) f_17_48 (by decide) ?_
    refine e_icmp f_17_49 (fun hc => ?_) (fun hc => ?_)
    · have hc := x_cct_ge hc
      rw [if_pos hc] at hV
      refine e_inc (c := 1) (L' := [.ref 23, .ref a1, .int (a2 + 1), .int a3]) f_17_107 rfl (by decide) rfl ?_
      refine e_goto f_17_110 ?_
      exact hV
    · have hc := x_ccf_ge hc
      rw [if_neg hc] at hV
      refine e_aload f_17_52 rfl (x_n7 ha1 (by decide)) ?_
      refine e_gr (c := 0) (j := 2) (r := (x_rr a1 2)) f_17_53 (by decide) (by decide) ha1 rfl ?_
      refine e_iload f_17_56 rfl ?_
      obtain ⟨hg, hV⟩ := hV
      refine e_ia (n := 2) f_17_57 (ht_0_2 ha1) (hn_0_2 ha1) hg ?_
      refine e_iload f_17_58 rfl ?_
      refine e_ishr f_17_59 ?_
      refine e_iconst (c := 1) f_17_60 (by decide) ?_
      refine e_iand f_17_61 ?_
      refine e_iconst (c := 1) f_17_62 (by decide) ?_
      refine e_icmp f_17_63 (fun hc => ?_) (fun hc => ?_)
      · have hc := x_cct_ne hc
        rw [if_neg hc] at hV
        refine e_inc (c := 1) (L' := [.ref 23, .ref a1, .int a2, .int (a3 + 1)]) f_17_101 rfl (by decide) rfl ?_
        refine e_goto f_17_104 ?_
        exact hV
      · have hc := x_ccf_ne hc
        rw [if_pos hc] at hV
        refine e_aload f_17_66 rfl (by decide) ?_
        refine e_gr (c := 1) (j := 1) (r := 25) f_17_67 (by decide) (by decide) (by decide) (by decide) ?_
        refine e_iload f_17_70 rfl ?_
        refine e_dup2 f_17_71 ⟨rfl, rfl⟩ ?_
        obtain ⟨hg, hV⟩ := hV
        refine e_ia (n := 2) f_17_72 (by decide) (by decide) hg ?_
        refine e_iconst (c := 1) f_17_73 (by decide) ?_
        refine e_aload f_17_74 rfl (by decide) ?_
        refine e_gf (c := 1) (j := 3) f_17_75 (by decide) (by decide) (by decide) ?_
        refine e_ishl f_17_78 ?_
        refine e_ior f_17_79 ?_
        obtain ⟨hg, hV⟩ := hV
        refine e_isn (n := 2) f_17_80 (by decide) (by decide) hg (fun S1 hS1 => ?_)
        have hV := hV S1 hS1
        refine e_aload f_17_81 rfl (by decide) ?_
        refine e_gr (c := 1) (j := 0) (r := 24) f_17_82 (by decide) (by decide) (by decide) (by decide) ?_
        refine e_aload f_17_85 rfl (by decide) ?_
        refine e_gf (c := 1) (j := 3) f_17_86 (by decide) (by decide) (by decide) ?_
        refine e_iload f_17_89 rfl ?_
        obtain ⟨hg, hV⟩ := hV
        refine e_isn (n := 4) f_17_90 (by decide) (by decide) hg (fun S2 hS2 => ?_)
        have hV := hV S2 hS2
        refine e_aload f_17_91 rfl (by decide) ?_
        refine e_dup f_17_92 rfl ?_
        refine e_gf (c := 1) (j := 3) f_17_93 (by decide) (by decide) (by decide) ?_
        refine e_iconst (c := 1) f_17_96 (by decide) ?_
        refine e_iadd f_17_97 ?_
        refine e_pfn (c := 1) (j := 3) f_17_98 (by decide) (by decide) (by decide) (x_fit_i rfl) (fun S3 hS3 => ?_)
        have hV := hV S3 hS3
        refine e_inc (c := 1) (L' := [.ref 23, .ref a1, .int a2, .int (a3 + 1)]) f_17_101 rfl (by decide) rfl ?_
        refine e_goto f_17_104 ?_
        exact hV
set_option maxRecDepth 20000 in
theorem T_18_0 {xs : List Int32} {d : Nat} {S : x_M} {Q : Option Value → x_M → Prop} {a1 : Nat} (ha1 : x_tg a1 = 0) (hV : if (S a1 8) = 1 then (∃ P2 : Int32 → x_M → Prop, x_Ci xs d 19 [.int ((1 <<< ((S 23 3) &&& 31)) - 1), .int 1, .int (S a1 6)] S P2 ∧ ∀ (v2 : Int32) (S2 : x_M), P2 v2 S2 → (Q (some (.int v2)) S2)) else (∃ P1 : Int32 → x_M → Prop, x_Ci xs d 19 [.int ((1 <<< ((S 23 3) &&& 31)) - 1), .int 0, .int (S a1 6)] S P1 ∧ ∀ (v1 : Int32) (S1 : x_M), P1 v1 S1 → (Q (some (.int v1)) S1))) : x_E xs (d + 1) 18 0 [.ref 23, .ref a1] [] S Q := by
  refine e_iconst (c := 1) f_18_0 (by decide) ?_
  refine e_aload f_18_1 rfl (by decide) ?_
  refine e_gf (c := 1) (j := 3) f_18_2 (by decide) (by decide) (by decide) ?_
  refine e_ishl f_18_5 ?_
  refine e_iconst (c := 1) f_18_6 (by decide) ?_
  refine e_isub f_18_7 ?_
  refine e_aload f_18_8 rfl (x_n7 ha1 (by decide)) ?_
  refine e_gf (c := 0) (j := 8) f_18_9 (by decide) (by decide) ha1 ?_
  refine e_iconst (c := 1) f_18_12 (by decide) ?_
  refine e_icmp f_18_13 (fun hc => ?_) (fun hc => ?_)
  · have hc := x_cct_ne hc
    rw [if_neg hc] at hV
    refine e_iconst (c := 0) f_18_20 (by decide) ?_
    refine e_aload f_18_21 rfl (x_n7 ha1 (by decide)) ?_
    refine e_gf (c := 0) (j := 6) f_18_22 (by decide) (by decide) ha1 ?_
    obtain ⟨P1, hP1, hV⟩ := hV
    refine e_si (n := 3) (A := [.int ((1 <<< ((S 23 3) &&& 31)) - 1), .int 0, .int (S a1 6)]) (R := []) f_18_25 na_19 rfl rfl (Nat.le_of_ble_eq_true rfl) (Nat.le_of_ble_eq_true rfl) (by rw [ml_19]; exact Nat.le_of_ble_eq_true rfl) hP1 (fun v1 S1 hp1 => ?_)
    have hV := hV v1 S1 hp1
    exact e_ireturn f_18_28 rt_18 rfl hV
  · have hc := x_ccf_ne hc
    rw [if_pos hc] at hV
    refine e_iconst (c := 1) f_18_16 (by decide) ?_
    refine e_goto f_18_17 ?_
    refine e_aload f_18_21 rfl (x_n7 ha1 (by decide)) ?_
    refine e_gf (c := 0) (j := 6) f_18_22 (by decide) (by decide) ha1 ?_
    obtain ⟨P2, hP2, hV⟩ := hV
    refine e_si (n := 3) (A := [.int ((1 <<< ((S 23 3) &&& 31)) - 1), .int 1, .int (S a1 6)]) (R := []) f_18_25 na_19 rfl rfl (Nat.le_of_ble_eq_true rfl) (Nat.le_of_ble_eq_true rfl) (by rw [ml_19]; exact Nat.le_of_ble_eq_true rfl) hP2 (fun v2 S2 hp2 => ?_)
    have hV := hV v2 S2 hp2
    exact e_ireturn f_18_28 rt_18 rfl hV
set_option maxRecDepth 20000 in
theorem T_19_0 {xs : List Int32} {d : Nat} {S : x_M} {Q : Option Value → x_M → Prop} {a0 : Int32} {a1 : Int32} {a2 : Int32}  (hV : Q (some (.int (((a0 <<< (10 &&& 31)) ||| (a1 <<< (9 &&& 31))) ||| a2))) S) : x_E xs (d + 1) 19 0 [.int a0, .int a1, .int a2] [] S Q := by
  refine e_iload f_19_0 rfl ?_
  refine e_iconst (c := 10) f_19_1 (by decide) ?_
  refine e_ishl f_19_3 ?_
  refine e_iload f_19_4 rfl ?_
  refine e_iconst (c := 9) f_19_5 (by decide) ?_
  refine e_ishl f_19_7 ?_
  refine e_ior f_19_8 ?_
  refine e_iload f_19_9 rfl ?_
  refine e_ior f_19_10 ?_
  exact e_ireturn f_19_11 rt_19 rfl hV
