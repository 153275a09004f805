set_option maxRecDepth 20000 in
theorem T_49_0 {xs : List Int32} {d : Nat} {S : x_M} {Q : Option Value → x_M → Prop} {a1 : Int32}  (hV : ∃ P1 : Int32 → x_M → Prop, x_Ci xs d 44 [.int a1] S P1 ∧ ∀ (v1 : Int32) (S1 : x_M), P1 v1 S1 → (if v1 = 0 then (Q (some (.int (-1000001))) S1) else ((x_ib a1 8) ∧ (if (S1 (x_rr 9 (Int32.toNatClampNeg a1)) 1) = 0 then (∃ P4 : Int32 → x_M → Prop, x_Ci xs d 45 [.ref 8, .int 1] S1 P4 ∧ ∀ (v4 : Int32) (S4 : x_M), P4 v4 S4 → (Q (some (.int v4)) S4)) else (∃ P3 : Int32 → x_M → Prop, x_Ci xs d 46 [.ref 8, .int ((x_up S1 (x_rr 9 (Int32.toNatClampNeg a1)) 1 0) (x_rr 9 (Int32.toNatClampNeg a1)) 3)] (x_up S1 (x_rr 9 (Int32.toNatClampNeg a1)) 1 0) P3 ∧ ∀ (v3 : Int32) (S3 : x_M), P3 v3 S3 → (Q (some (.int v3)) S3)))))) : x_E xs (d + 1) 49 0 [.ref 8, .int a1, .null] [] S Q := by
  refine e_iload f_49_0 rfl ?_
  obtain ⟨P1, hP1, hV⟩ := hV
  refine e_si (n := 1) (A := [.int a1]) (R := []) f_49_1 na_44 rfl rfl (Nat.le_of_ble_eq_true rfl) (Nat.le_of_ble_eq_true rfl) (by rw [ml_44]; exact Nat.le_of_ble_eq_true rfl) hP1 (fun v1 S1 hp1 => ?_)
  have hV := hV v1 S1 hp1
  refine e_if f_49_4 (fun hc => ?_) (fun hc => ?_)
  · have hc : ¬ v1 = 0 := of_decide_eq_true hc
    rw [if_neg hc] at hV
    refine e_aload f_49_10 rfl (by decide) ?_
    refine e_gr (c := 5) (j := 0) (r := 9) f_49_11 (by decide) (by decide) (by decide) (by decide) ?_
    refine e_iload f_49_14 rfl ?_
    obtain ⟨hg, hV⟩ := hV
    refine e_aa (c := 11) (n := 8) f_49_15 (by decide) (by decide) (by decide) hg (fun hq2 => ?_)
    have hq2 : x_tg (x_rr 9 (Int32.toNatClampNeg a1)) = 2 := hq2
    refine e_astore (L' := [.ref 8, .int a1, .ref (x_rr 9 (Int32.toNatClampNeg a1))]) f_49_16 (Nat.le_of_ble_eq_true rfl) (x_n7 hq2 (by decide)) rfl ?_
    refine e_aload f_49_17 rfl (x_n7 hq2 (by decide)) ?_
    refine e_gf (c := 2) (j := 1) f_49_18 (by decide) (by decide) hq2 ?_
    refine e_if f_49_21 (fun hc => ?_) (fun hc => ?_)
    · have hc : ¬ (S1 (x_rr 9 (Int32.toNatClampNeg a1)) 1) = 0 := of_decide_eq_true hc
      rw [if_neg hc] at hV
      refine e_aload f_49_30 rfl (x_n7 hq2 (by decide)) ?_
      refine e_iconst (c := 0) f_49_31 (by decide) ?_
      refine e_pf (c := 2) (j := 1) f_49_32 (by decide) (by decide) hq2 (x_fit_z rfl (by decide)) ?_
      refine e_aload f_49_35 rfl (by decide) ?_
      refine e_aload f_49_36 rfl (x_n7 hq2 (by decide)) ?_
      refine e_gf (c := 2) (j := 3) f_49_37 (by decide) (by decide) hq2 ?_
      obtain ⟨P3, hP3, hV⟩ := hV
      refine e_vi (n := 2) (A := [.ref 8, .int ((x_up S1 (x_rr 9 (Int32.toNatClampNeg a1)) 1 0) (x_rr 9 (Int32.toNatClampNeg a1)) 3)]) (R := []) f_49_40 na_46 rfl rfl (Nat.le_of_ble_eq_true rfl) (Nat.le_of_ble_eq_true rfl) (by rw [ml_46]; exact Nat.le_of_ble_eq_true rfl) rfl (by rw [cy_46]; decide) (by rw [cy_46]; exact (by decide : x_tg 8 = 5)) hP3 (fun v3 S3 hp3 => ?_)
      have hV := hV v3 S3 hp3
      exact e_ireturn f_49_43 rt_49 rfl hV
    · have hc : (S1 (x_rr 9 (Int32.toNatClampNeg a1)) 1) = 0 := Decidable.not_not.mp (fun z => hc (decide_eq_true z))
      rw [if_pos hc] at hV
      refine e_aload f_49_24 rfl (by decide) ?_
      refine e_iconst (c := 1) f_49_25 (by decide) ?_
      obtain ⟨P4, hP4, hV⟩ := hV
      refine e_vi (n := 2) (A := [.ref 8, .int 1]) (R := []) f_49_26 na_45 rfl rfl (Nat.le_of_ble_eq_true rfl) (Nat.le_of_ble_eq_true rfl) (by rw [ml_45]; exact Nat.le_of_ble_eq_true rfl) rfl (by rw [cy_45]; decide) (by rw [cy_45]; exact (by decide : x_tg 8 = 5)) hP4 (fun v4 S4 hp4 => ?_)
      have hV := hV v4 S4 hp4
      exact e_ireturn f_49_29 rt_49 rfl hV
  · have hc : v1 = 0 := Decidable.not_not.mp (fun z => hc (decide_eq_true z))
    rw [if_pos hc] at hV
    refine e_iconst (c := (-1000001)) f_49_7 (by decide) ?_
    exact e_ireturn f_49_9 rt_49 rfl hV
set_option maxRecDepth 20000 in
theorem T_50_0 {xs : List Int32} {d : Nat} {S : x_M} {Q : Option Value → x_M → Prop} {a1 : Int64} {a3 : Int32}  (hV : if a3 < 1 then (Q (some (.int (-1000001))) S) else (if a3 ≤ 8 then (if (S 10 1) ≤ (400 - a3) then (x_E xs (d + 1) 50 37 [.ref 8, .long a1, .null, .int a3, .int (a3 - 1)] [] S Q) else (Q (some (.int (-1000003))) S)) else (Q (some (.int (-1000001))) S))) : x_E xs (d + 1) 50 0 [.ref 8, .long a1, .null, .int a3, .null] [] S Q := by
  refine e_iload f_50_0 rfl ?_
  refine e_iconst (c := 1) f_50_1 (by decide) ?_
  refine e_icmp f_50_2 (fun hc => ?_) (fun hc => ?_)
  · have hc : a3 < 1 := of_decide_eq_true hc
    rw [if_pos hc] at hV
    refine e_iconst (c := (-1000001)) f_50_11 (by decide) ?_
    exact e_ireturn f_50_13 rt_50 rfl hV
  · have hc : ¬ a3 < 1 := fun z => hc (decide_eq_true z)
    rw [if_neg hc] at hV
    refine e_iload f_50_5 rfl ?_
    refine e_iconst (c := 8) f_50_6 (by decide) ?_
    refine e_icmp f_50_8 (fun hc => ?_) (fun hc => ?_)
    · have hc : a3 ≤ 8 := of_decide_eq_true hc
      rw [if_pos hc] at hV
      refine e_aload f_50_14 rfl (by decide) ?_
      refine e_gr (c := 5) (j := 1) (r := 10) f_50_15 (by decide) (by decide) (by decide) (by decide) ?_
      refine e_gf (c := 3) (j := 1) f_50_18 (by decide) (by decide) (by decide) ?_
      refine e_iconst (c := 400) f_50_21 (by decide) ?_
      refine e_iload f_50_24 rfl ?_
      refine e_isub f_50_25 ?_
      refine e_icmp f_50_26 (fun hc => ?_) (fun hc => ?_)
      · have hc : (S 10 1) ≤ (400 - a3) := of_decide_eq_true hc
        rw [if_pos hc] at hV
        refine e_iload f_50_32 rfl ?_
        refine e_iconst (c := 1) f_50_33 (by decide) ?_
        refine e_isub f_50_34 ?_
        refine e_istore (L' := [.ref 8, .long a1, .null, .int a3, .int (a3 - 1)]) f_50_35 (Nat.le_of_ble_eq_true rfl) rfl ?_
        exact hV
      · have hc : ¬ (S 10 1) ≤ (400 - a3) := fun z => hc (decide_eq_true z)
        rw [if_neg hc] at hV
        refine e_iconst (c := (-1000003)) f_50_29 (by decide) ?_
        exact e_ireturn f_50_31 rt_50 rfl hV
    · have hc : ¬ a3 ≤ 8 := fun z => hc (decide_eq_true z)
      rw [if_neg hc] at hV
      refine e_iconst (c := (-1000001)) f_50_11 (by decide) ?_
      exact e_ireturn f_50_13 rt_50 rfl hV
set_option maxRecDepth 20000 in
theorem T_50_37 {xs : List Int32} {d : Nat} {S : x_M} {Q : Option Value → x_M → Prop} {a1 : Int64} {a3 : Int32} {a4 : Int32}  (hV : if a4 < 0 then (Q (some (.int (S 10 1))) S) else (∃ P1 : x_M → Prop, x_Cv xs d 29 [.ref 10, .int ((Int64.toInt32 (a1 >>> (((8 * a4)).toInt64 &&& 63))) &&& 255)] S P1 ∧ ∀ (S1 : x_M), P1 S1 → (x_E xs (d + 1) 50 37 [.ref 8, .long a1, .null, .int a3, .int (a4 + (-1))] [] S1 Q))) : x_E xs (d + 1) 50 37 [.ref 8, .long a1, .null, .int a3, .int a4] [] S Q := by
  refine e_iload f_50_37 rfl ?_
  refine e_if f_50_39 (fun hc => ?_) (fun hc => ?_)
  · have hc : a4 < 0 := of_decide_eq_true hc
    rw [if_pos hc] at hV
    refine e_aload f_50_67 rfl (by decide) ?_
    refine e_gr (c := 5) (j := 1) (r := 10) f_50_68 (by decide) (by decide) (by decide) (by decide) ?_
    refine e_gf (c := 3) (j := 1) f_50_71 (by decide) (by decide) (by decide) ?_
    exact e_ireturn f_50_74 rt_50 rfl hV
  · have hc : ¬ a4 < 0 := fun z => hc (decide_eq_true z)
    rw [if_neg hc] at hV
    refine e_aload f_50_42 rfl (by decide) ?_
    refine e_gr (c := 5) (j := 1) (r := 10) f_50_43 (by decide) (by decide) (by decide) (by decide) ?_
    refine e_lload f_50_46 rfl ?_
    refine e_iconst (c := 8) f_50_47 (by decide) ?_
    refine e_iload f_50_49 rfl ?_
    refine e_imul f_50_51 ?_
    refine e_lshr f_50_52 ?_
    refine e_l2i f_50_53 ?_
    refine e_iconst (c := 255) f_50_54 (by decide) ?_
    refine e_iand f_50_57 ?_
    obtain ⟨P1, hP1, hV⟩ := hV
    refine e_vv (n := 2) (A := [.ref 10, .int ((Int64.toInt32 (a1 >>> (((8 * a4)).toInt64 &&& 63))) &&& 255)]) (R := []) f_50_58 na_29 rfl rfl (Nat.le_of_ble_eq_true rfl) (Nat.le_of_ble_eq_true rfl) (by rw [ml_29]; exact Nat.le_of_ble_eq_true rfl) rfl (by rw [cy_29]; decide) (by rw [cy_29]; exact (by decide : x_tg 10 = 3)) hP1 (fun S1 hp1 => ?_)
    have hV := hV S1 hp1
    refine e_inc (c := (-1)) (L' := [.ref 8, .long a1, .null, .int a3, .int (a4 + (-1))]) f_50_61 rfl (by decide) rfl ?_
    refine e_goto f_50_64 ?_
    exact hV
set_option maxRecDepth 20000 in
theorem T_51_0 {xs : List Int32} {d : Nat} {S : x_M} {Q : Option Value → x_M → Prop}   (hV : ∃ P1 : Int32 → x_M → Prop, x_Ci xs d 52 [.ref 10, .ref 17] S P1 ∧ ∀ (v1 : Int32) (S1 : x_M), P1 v1 S1 → (if v1 = 0 then (∃ P2 : x_M → Prop, x_Cv xs d 5 [.ref 17] (x_up S1 10 1 0) P2 ∧ ∀ (S2 : x_M), P2 S2 → (∃ P3 : x_M → Prop, x_Cv xs d 7 [.ref 12, .ref 17] S2 P3 ∧ ∀ (S3 : x_M), P3 S3 → (Q (some (.int (S3 12 5))) S3))) else (Q (some (.int ((-1000100) - (S1 10 3)))) (x_up (x_up S1 10 1 0) 8 8 v1)))) : x_E xs (d + 1) 51 0 [.ref 8, .null, .null] [] S Q := by
  refine e_aload f_51_0 rfl (by decide) ?_
  refine e_gr (c := 5) (j := 1) (r := 10) f_51_1 (by decide) (by decide) (by decide) (by decide) ?_
  refine e_aload f_51_4 rfl (by decide) ?_
  refine e_gr (c := 5) (j := 3) (r := 17) f_51_5 (by decide) (by decide) (by decide) (by decide) ?_
  obtain ⟨P1, hP1, hV⟩ := hV
  refine e_si (n := 2) (A := [.ref 10, .ref 17]) (R := []) f_51_8 na_52 rfl rfl (Nat.le_of_ble_eq_true rfl) (Nat.le_of_ble_eq_true rfl) (by rw [ml_52]; exact Nat.le_of_ble_eq_true rfl) hP1 (fun v1 S1 hp1 => ?_)
  have hV := hV v1 S1 hp1
  refine e_istore (L' := [.ref 8, .int v1, .null]) f_51_11 (Nat.le_of_ble_eq_true rfl) rfl ?_
  refine e_aload f_51_12 rfl (by decide) ?_
  refine e_gr (c := 5) (j := 1) (r := 10) f_51_13 (by decide) (by decide) (by decide) (by decide) ?_
  refine e_gf (c := 3) (j := 3) f_51_16 (by decide) (by decide) (by decide) ?_
  refine e_istore (L' := [.ref 8, .int v1, .int (S1 10 3)]) f_51_19 (Nat.le_of_ble_eq_true rfl) rfl ?_
  refine e_aload f_51_20 rfl (by decide) ?_
  refine e_gr (c := 5) (j := 1) (r := 10) f_51_21 (by decide) (by decide) (by decide) (by decide) ?_
  refine e_iconst (c := 0) f_51_24 (by decide) ?_
  refine e_pf (c := 3) (j := 1) f_51_25 (by decide) (by decide) (by decide) (x_fit_i rfl) ?_
  refine e_iload f_51_28 rfl ?_
  refine e_if f_51_29 (fun hc => ?_) (fun hc => ?_)
  · have hc : v1 = 0 := of_decide_eq_true hc
    rw [if_pos hc] at hV
    refine e_aload f_51_42 rfl (by decide) ?_
    refine e_gr (c := 5) (j := 3) (r := 17) f_51_43 (by decide) (by decide) (by decide) (by decide) ?_
    obtain ⟨P2, hP2, hV⟩ := hV
    refine e_vv (n := 1) (A := [.ref 17]) (R := []) f_51_46 na_5 rfl rfl (Nat.le_of_ble_eq_true rfl) (Nat.le_of_ble_eq_true rfl) (by rw [ml_5]; exact Nat.le_of_ble_eq_true rfl) rfl (by rw [cy_5]; decide) (by rw [cy_5]; exact (by decide : x_tg 17 = 0)) hP2 (fun S2 hp2 => ?_)
    have hV := hV S2 hp2
    refine e_aload f_51_49 rfl (by decide) ?_
    refine e_gr (c := 5) (j := 2) (r := 12) f_51_50 (by decide) (by decide) (by decide) (by decide) ?_
    refine e_aload f_51_53 rfl (by decide) ?_
    refine e_gr (c := 5) (j := 3) (r := 17) f_51_54 (by decide) (by decide) (by decide) (by decide) ?_
    obtain ⟨P3, hP3, hV⟩ := hV
    refine e_vv (n := 2) (A := [.ref 12, .ref 17]) (R := []) f_51_57 na_7 rfl rfl (Nat.le_of_ble_eq_true rfl) (Nat.le_of_ble_eq_true rfl) (by rw [ml_7]; exact Nat.le_of_ble_eq_true rfl) rfl (by rw [cy_7]; decide) (by rw [cy_7]; exact (by decide : x_tg 12 = 0)) hP3 (fun S3 hp3 => ?_)
    have hV := hV S3 hp3
    refine e_aload f_51_60 rfl (by decide) ?_
    refine e_gr (c := 5) (j := 2) (r := 12) f_51_61 (by decide) (by decide) (by decide) (by decide) ?_
    refine e_gf (c := 0) (j := 5) f_51_64 (by decide) (by decide) (by decide) ?_
    exact e_ireturn f_51_67 rt_51 rfl hV
  · have hc : ¬ v1 = 0 := fun z => hc (decide_eq_true z)
    rw [if_neg hc] at hV
    refine e_aload f_51_32 rfl (by decide) ?_
    refine e_iload f_51_33 rfl ?_
    refine e_pf (c := 5) (j := 8) f_51_34 (by decide) (by decide) (by decide) (x_fit_i rfl) ?_
    refine e_iconst (c := (-1000100)) f_51_37 (by decide) ?_
    refine e_iload f_51_39 rfl ?_
    refine e_isub f_51_40 ?_
    exact e_ireturn f_51_41 rt_51 rfl hV
set_option maxRecDepth 20000 in
theorem T_52_0 {xs : List Int32} {d : Nat} {S : x_M} {Q : Option Value → x_M → Prop} {a1 : Nat} (ha1 : x_tg a1 = 0) (hV : ∃ P1 : x_M → Prop, x_Cv xs d 1 [.ref a1] S P1 ∧ ∀ (S1 : x_M), P1 S1 → (∃ P2 : x_M → Prop, x_Cv xs d 30 [.ref 10] S1 P2 ∧ ∀ (S2 : x_M), P2 S2 → (∃ P3 : Int32 → x_M → Prop, x_Ci xs d 53 [.ref 10, .ref a1] S2 P3 ∧ ∀ (v3 : Int32) (S3 : x_M), P3 v3 S3 → (x_E xs (d + 1) 52 16 [.ref 10, .ref a1, .int v3, .int 0] [] S3 Q)))) : x_E xs (d + 1) 52 0 [.ref 10, .ref a1, .null, .null] [] S Q := by
  refine e_aload f_52_0 rfl (x_n7 ha1 (by decide)) ?_
  obtain ⟨P1, hP1, hV⟩ := hV
  refine e_vv (n := 1) (A := [.ref a1]) (R := []) f_52_1 na_1 rfl rfl (Nat.le_of_ble_eq_true rfl) (Nat.le_of_ble_eq_true rfl) (by rw [ml_1]; exact Nat.le_of_ble_eq_true rfl) rfl (by rw [cy_1]; decide) (by rw [cy_1]; exact ha1) hP1 (fun S1 hp1 => ?_)
  have hV := hV S1 hp1
  refine e_aload f_52_4 rfl (by decide) ?_
  obtain ⟨P2, hP2, hV⟩ := hV
  refine e_vv (n := 1) (A := [.ref 10]) (R := []) f_52_5 na_30 rfl rfl (Nat.le_of_ble_eq_true rfl) (Nat.le_of_ble_eq_true rfl) (by rw [ml_30]; exact Nat.le_of_ble_eq_true rfl) rfl (by rw [cy_30]; decide) (by rw [cy_30]; exact (by decide : x_tg 10 = 3)) hP2 (fun S2 hp2 => ?_)
  have hV := hV S2 hp2
  refine e_aload f_52_8 rfl (by decide) ?_
  refine e_aload f_52_9 rfl (x_n7 ha1 (by decide)) ?_
  obtain ⟨P3, hP3, hV⟩ := hV
  refine e_si (n := 2) (A := [.ref 10, .ref a1]) (R := []) f_52_10 na_53 rfl rfl (Nat.le_of_ble_eq_true rfl) (Nat.le_of_ble_eq_true rfl) (by rw [ml_53]; exact Nat.le_of_ble_eq_true rfl) hP3 (fun v3 S3 hp3 => ?_)
  have hV := hV v3 S3 hp3
  refine e_istore (L' := [.ref 10, .ref a1, .int v3, .null]) f_52_13 (Nat.le_of_ble_eq_true rfl) rfl ?_
  refine e_iconst (c := 0) f_52_14 (by decide) ?_
  refine e_istore (L' := [.ref 10, .ref a1, .int v3, .int 0]) f_52_15 (Nat.le_of_ble_eq_true rfl) rfl ?_
  exact hV
set_option maxRecDepth 20000 in
theorem T_52_16 {xs : List Int32} {d : Nat} {S : x_M} {Q : Option Value → x_M → Prop} {a1 : Nat} {a2 : Int32} {a3 : Int32} (ha1 : x_tg a1 = 0) (hV : if a2 = 0 then (if (14 : Int32) < a3 then (Q (some (.int a2)) S) else (if a3 ≤ 0 then (∃ P1 : Int32 → x_M → Prop, x_Ci xs d 56 [.ref 10, .ref a1] S P1 ∧ ∀ (v1 : Int32) (S1 : x_M), P1 v1 S1 → (x_E xs (d + 1) 52 16 [.ref 10, .ref a1, .int v1, .int (a3 + 1)] [] S1 Q)) else (if (S 10 2) = 0 then (Q (some (.int 0)) S) else (∃ P2 : Int32 → x_M → Prop, x_Ci xs d 56 [.ref 10, .ref a1] S P2 ∧ ∀ (v2 : Int32) (S2 : x_M), P2 v2 S2 → (x_E xs (d + 1) 52 16 [.ref 10, .ref a1, .int v2, .int (a3 + 1)] [] S2 Q))))) else (Q (some (.int a2)) S)) : x_E xs (d + 1) 52 16 [.ref 10, .ref a1, .int a2, .int a3] [] S Q := by
  refine e_iload f_52_16 rfl ?_
  refine e_if f_52_17 (fun hc => ?_) (fun hc => ?_)
  · have hc : ¬ a2 = 0 := of_decide_eq_true hc
    rw [if_neg hc] at hV
    refine e_iload f_52_51 rfl ?_
    exact e_ireturn f_52_52 rt_52 rfl hV
  · have hc : a2 = 0 := Decidable.not_not.mp (fun z => hc (decide_eq_true z))
    rw [if_pos hc] at hV
    refine e_iload f_52_20 rfl ?_
    refine e_iconst (c := 14) f_52_21 (by decide) ?_
    refine e_icmp f_52_23 (fun hc => ?_) (fun hc => ?_)
    · have hc : (14 : Int32) < a3 := of_decide_eq_true hc
      rw [if_pos hc] at hV
      refine e_iload f_52_51 rfl ?_
      exact e_ireturn f_52_52 rt_52 rfl hV
    · have hc : ¬ (14 : Int32) < a3 := fun z => hc (decide_eq_true z)
      rw [if_neg hc] at hV
      refine e_iload f_52_26 rfl ?_
      refine e_if f_52_27 (fun hc => ?_) (fun hc => ?_)
      · have hc : a3 ≤ 0 := of_decide_eq_true hc
        rw [if_pos hc] at hV
        refine e_aload f_52_39 rfl (by decide) ?_
        refine e_aload f_52_40 rfl (x_n7 ha1 (by decide)) ?_
        obtain ⟨P1, hP1, hV⟩ := hV
        refine e_si (n := 2) (A := [.ref 10, .ref a1]) (R := []) f_52_41 na_56 rfl rfl (Nat.le_of_ble_eq_true rfl) (Nat.le_of_ble_eq_true rfl) (by rw [ml_56]; exact Nat.le_of_ble_eq_true rfl) hP1 (fun v1 S1 hp1 => ?_)
        have hV := hV v1 S1 hp1
        refine e_istore (L' := [.ref 10, .ref a1, .int v1, .int a3]) f_52_44 (Nat.le_of_ble_eq_true rfl) rfl ?_
        refine e_inc (c := 1) (L' := [.ref 10, .ref a1, .int v1, .int (a3 + 1)]) f_52_45 rfl (by decide) rfl ?_
        refine e_goto f_52_48 ?_
        exact hV
      · have hc : ¬ a3 ≤ 0 := fun z => hc (decide_eq_true z)
        rw [if_neg hc] at hV
        refine e_aload f_52_30 rfl (by decide) ?_
        refine e_gf (c := 3) (j := 2) f_52_31 (by decide) (by decide) (by decide) ?_
        refine e_if f_52_34 (fun hc => ?_) (fun hc => ?_)
        · have hc : ¬ (S 10 2) = 0 := of_decide_eq_true hc
          rw [if_neg hc] at hV
          refine e_aload f_52_39 rfl (by decide) ?_
          refine e_aload f_52_40 rfl (x_n7 ha1 (by decide)) ?_
          obtain ⟨P2, hP2, hV⟩ := hV
          refine e_si (n := 2) (A := [.ref 10, .ref a1]) (R := []) f_52_41 na_56 rfl rfl (Nat.le_of_ble_eq_true rfl) (Nat.le_of_ble_eq_true rfl) (by rw [ml_56]; exact Nat.le_of_ble_eq_true rfl) hP2 (fun v2 S2 hp2 => ?_)
          have hV := hV v2 S2 hp2
          refine e_istore (L' := [.ref 10, .ref a1, .int v2, .int a3]) f_52_44 (Nat.le_of_ble_eq_true rfl) rfl ?_
          refine e_inc (c := 1) (L' := [.ref 10, .ref a1, .int v2, .int (a3 + 1)]) f_52_45 rfl (by decide) rfl ?_
          refine e_goto f_52_48 ?_
          exact hV
        · have hc : (S 10 2) = 0 := Decidable.not_not.mp (fun z => hc (decide_eq_true z))
          rw [if_pos hc] at hV
          refine e_iconst (c := 0) f_52_37 (by decide) ?_
          exact e_ireturn f_52_38 rt_52 rfl hV
set_option maxRecDepth 20000 in
theorem T_53_0 {xs : List Int32} {d : Nat} {S : x_M} {Q : Option Value → x_M → Prop} {a1 : Nat} (ha1 : x_tg a1 = 0) (hV : ∃ P1 : Int32 → x_M → Prop, x_Ci xs d 38 [.ref 10, .ref 3] S P1 ∧ ∀ (v1 : Int32) (S1 : x_M), P1 v1 S1 → (if v1 = 0 then (Q (some (.int 1)) S1) else (∃ P2 : x_M → Prop, x_Cv xs d 31 [.ref 10] S1 P2 ∧ ∀ (S2 : x_M), P2 S2 → (x_E xs (d + 1) 53 18 [.ref 10, .ref a1, .int 0, .null] [] S2 Q)))) : x_E xs (d + 1) 53 0 [.ref 10, .ref a1, .null, .null] [] S Q := by
  refine e_aload f_53_0 rfl (by decide) ?_
  refine e_ldc f_53_1 ?_
  obtain ⟨P1, hP1, hV⟩ := hV
  refine e_vi (n := 2) (A := [.ref 10, .ref 3]) (R := []) f_53_4 na_38 rfl rfl (Nat.le_of_ble_eq_true rfl) (Nat.le_of_ble_eq_true rfl) (by rw [ml_38]; exact Nat.le_of_ble_eq_true rfl) rfl (by rw [cy_38]; decide) (by rw [cy_38]; exact (by decide : x_tg 10 = 3)) hP1 (fun v1 S1 hp1 => ?_)
  have hV := hV v1 S1 hp1
  refine e_if f_53_7 (fun hc => ?_) (fun hc => ?_)
  · have hc : ¬ v1 = 0 := of_decide_eq_true hc
    rw [if_neg hc] at hV
    refine e_aload f_53_12 rfl (by decide) ?_
    obtain ⟨P2, hP2, hV⟩ := hV
    refine e_vv (n := 1) (A := [.ref 10]) (R := []) f_53_13 na_31 rfl rfl (Nat.le_of_ble_eq_true rfl) (Nat.le_of_ble_eq_true rfl) (by rw [ml_31]; exact Nat.le_of_ble_eq_true rfl) rfl (by rw [cy_31]; decide) (by rw [cy_31]; exact (by decide : x_tg 10 = 3)) hP2 (fun S2 hp2 => ?_)
    have hV := hV S2 hp2
    refine e_iconst (c := 0) f_53_16 (by decide) ?_
    refine e_istore (L' := [.ref 10, .ref a1, .int 0, .null]) f_53_17 (Nat.le_of_ble_eq_true rfl) rfl ?_
    exact hV
  · have hc : v1 = 0 := Decidable.not_not.mp (fun z => hc (decide_eq_true z))
    rw [if_pos hc] at hV
    refine e_iconst (c := 1) f_53_10 (by decide) ?_
    exact e_ireturn f_53_11 rt_53 rfl hV
set_option maxRecDepth 20000 in
theorem T_53_18 {xs : List Int32} {d : Nat} {S : x_M} {Q : Option Value → x_M → Prop} {a1 : Nat} {a2 : Int32} {a3 : Value} (ha1 : x_tg a1 = 0) (hV : if (9 : Int32) ≤ a2 then (∃ P1 : Int32 → x_M → Prop, x_Ci xs d 55 [.ref 10] S P1 ∧ ∀ (v1 : Int32) (S1 : x_M), P1 v1 S1 → (Q (some (.int v1)) S1)) else (∃ P2 : Int32 → x_M → Prop, x_Ci xs d 54 [.ref 10, .int 99] S P2 ∧ ∀ (v2 : Int32) (S2 : x_M), P2 v2 S2 → (if v2 = 0 then ((x_ib a2 9) ∧ (∃ P3 : x_M → Prop, x_Cv xs d 31 [.ref 10] (x_up S2 (x_rr a1 0) (Int32.toNatClampNeg a2) (S2 10 5)) P3 ∧ ∀ (S3 : x_M), P3 S3 → (x_E xs (d + 1) 53 18 [.ref 10, .ref a1, .int (a2 + 1), .int v2] [] S3 Q))) else (Q (some (.int v2)) S2)))) : x_E xs (d + 1) 53 18 [.ref 10, .ref a1, .int a2, a3] [] S Q := by
  refine e_iload f_53_18 rfl ?_
  refine e_iconst (c := 9) f_53_19 (by decide) ?_
  refine e_icmp f_53_21 (fun hc => ?_) (fun hc => ?_)
  · have hc : (9 : Int32) ≤ a2 := of_decide_eq_true hc
    rw [if_pos hc] at hV
    refine e_aload f_53_57 rfl (by decide) ?_
    obtain ⟨P1, hP1, hV⟩ := hV
    refine e_si (n := 1) (A := [.ref 10]) (R := []) f_53_58 na_55 rfl rfl (Nat.le_of_ble_eq_true rfl) (Nat.le_of_ble_eq_true rfl) (by rw [ml_55]; exact Nat.le_of_ble_eq_true rfl) hP1 (fun v1 S1 hp1 => ?_)
    have hV := hV v1 S1 hp1
    exact e_ireturn f_53_61 rt_53 rfl hV
  · have hc : ¬ (9 : Int32) ≤ a2 := fun z => hc (decide_eq_true z)
    rw [if_neg hc] at hV
    refine e_aload f_53_24 rfl (by decide) ?_
    refine e_iconst (c := 99) f_53_25 (by decide) ?_
    obtain ⟨P2, hP2, hV⟩ := hV
    refine e_si (n := 2) (A := [.ref 10, .int 99]) (R := []) f_53_27 na_54 rfl rfl (Nat.le_of_ble_eq_true rfl) (Nat.le_of_ble_eq_true rfl) (by rw [ml_54]; exact Nat.le_of_ble_eq_true rfl) hP2 (fun v2 S2 hp2 => ?_)
    have hV := hV v2 S2 hp2
    refine e_istore (L' := [.ref 10, .ref a1, .int a2, .int v2]) f_53_30 (Nat.le_of_ble_eq_true rfl) rfl ?_
    refine e_iload f_53_31 rfl ?_
    refine e_if f_53_32 (fun hc => ?_) (fun hc => ?_)
    · have hc : v2 = 0 := of_decide_eq_true hc
      rw [if_pos hc] at hV
      refine e_aload f_53_37 rfl (x_n7 ha1 (by decide)) ?_
      refine e_gr (c := 0) (j := 0) (r := (x_rr a1 0)) f_53_38 (by decide) (by decide) ha1 rfl ?_
      refine e_iload f_53_41 rfl ?_
      refine e_aload f_53_42 rfl (by decide) ?_
      refine e_gf (c := 3) (j := 5) f_53_43 (by decide) (by decide) (by decide) ?_
      obtain ⟨hg, hV⟩ := hV
      refine e_is (n := 9) f_53_46 (ht_0_0 ha1) (hn_0_0 ha1) hg ?_
      refine e_aload f_53_47 rfl (by decide) ?_
      obtain ⟨P3, hP3, hV⟩ := hV
      refine e_vv (n := 1) (A := [.ref 10]) (R := []) f_53_48 na_31 rfl rfl (Nat.le_of_ble_eq_true rfl) (Nat.le_of_ble_eq_true rfl) (by rw [ml_31]; exact Nat.le_of_ble_eq_true rfl) rfl (by rw [cy_31]; decide) (by rw [cy_31]; exact (by decide : x_tg 10 = 3)) hP3 (fun S3 hp3 => ?_)
      have hV := hV S3 hp3
      refine e_inc (c := 1) (L' := [.ref 10, .ref a1, .int (a2 + 1), .int v2]) f_53_51 rfl (by decide) rfl ?_
      refine e_goto f_53_54 ?_
      exact hV
    · have hc : ¬ v2 = 0 := fun z => hc (decide_eq_true z)
      rw [if_neg hc] at hV
      refine e_iload f_53_35 rfl ?_
      exact e_ireturn f_53_36 rt_53 rfl hV
set_option maxRecDepth 20000 in
theorem T_54_0 {xs : List Int32} {d : Nat} {S : x_M} {Q : Option Value → x_M → Prop} {a1 : Int32}  (hV : if (S 10 2) = 2 then (if (S 10 5) ≤ a1 then (Q (some (.int 0)) S) else (Q (some (.int 2)) S)) else (Q (some (.int 1)) S)) : x_E xs (d + 1) 54 0 [.ref 10, .int a1] [] S Q := by
  refine e_aload f_54_0 rfl (by decide) ?_
  refine e_gf (c := 3) (j := 2) f_54_1 (by decide) (by decide) (by decide) ?_
  refine e_iconst (c := 2) f_54_4 (by decide) ?_
  refine e_icmp f_54_5 (fun hc => ?_) (fun hc => ?_)
  · have hc : (S 10 2) = 2 := of_decide_eq_true hc
    rw [if_pos hc] at hV
    refine e_aload f_54_10 rfl (by decide) ?_
    refine e_gf (c := 3) (j := 5) f_54_11 (by decide) (by decide) (by decide) ?_
    refine e_iload f_54_14 rfl ?_
    refine e_icmp f_54_15 (fun hc => ?_) (fun hc => ?_)
    · have hc : (S 10 5) ≤ a1 := of_decide_eq_true hc
      rw [if_pos hc] at hV
      refine e_iconst (c := 0) f_54_22 (by decide) ?_
      exact e_ireturn f_54_23 rt_54 rfl hV
    · have hc : ¬ (S 10 5) ≤ a1 := fun z => hc (decide_eq_true z)
      rw [if_neg hc] at hV
      refine e_iconst (c := 2) f_54_18 (by decide) ?_
      refine e_goto f_54_19 ?_
      exact e_ireturn f_54_23 rt_54 rfl hV
  · have hc : ¬ (S 10 2) = 2 := fun z => hc (decide_eq_true z)
    rw [if_neg hc] at hV
    refine e_iconst (c := 1) f_54_8 (by decide) ?_
    exact e_ireturn f_54_9 rt_54 rfl hV
set_option maxRecDepth 20000 in
theorem T_55_0 {xs : List Int32} {d : Nat} {S : x_M} {Q : Option Value → x_M → Prop}   (hV : if (S 10 2) = 3 then (∃ P1 : x_M → Prop, x_Cv xs d 31 [.ref 10] S P1 ∧ ∀ (S1 : x_M), P1 S1 → (Q (some (.int 0)) S1)) else (Q (some (.int 1)) S)) : x_E xs (d + 1) 55 0 [.ref 10] [] S Q := by
  refine e_aload f_55_0 rfl (by decide) ?_
  refine e_gf (c := 3) (j := 2) f_55_1 (by decide) (by decide) (by decide) ?_
  refine e_iconst (c := 3) f_55_4 (by decide) ?_
  refine e_icmp f_55_5 (fun hc => ?_) (fun hc => ?_)
  · have hc : (S 10 2) = 3 := of_decide_eq_true hc
    rw [if_pos hc] at hV
    refine e_aload f_55_10 rfl (by decide) ?_
    obtain ⟨P1, hP1, hV⟩ := hV
    refine e_vv (n := 1) (A := [.ref 10]) (R := []) f_55_11 na_31 rfl rfl (Nat.le_of_ble_eq_true rfl) (Nat.le_of_ble_eq_true rfl) (by rw [ml_31]; exact Nat.le_of_ble_eq_true rfl) rfl (by rw [cy_31]; decide) (by rw [cy_31]; exact (by decide : x_tg 10 = 3)) hP1 (fun S1 hp1 => ?_)
    have hV := hV S1 hp1
    refine e_iconst (c := 0) f_55_14 (by decide) ?_
    exact e_ireturn f_55_15 rt_55 rfl hV
  · have hc : ¬ (S 10 2) = 3 := fun z => hc (decide_eq_true z)
    rw [if_neg hc] at hV
    refine e_iconst (c := 1) f_55_8 (by decide) ?_
    exact e_ireturn f_55_9 rt_55 rfl hV
set_option maxRecDepth 20000 in
theorem T_56_0 {xs : List Int32} {d : Nat} {S : x_M} {Q : Option Value → x_M → Prop} {a1 : Nat} (ha1 : x_tg a1 = 0) (hV : ∃ P1 : Int32 → x_M → Prop, x_Ci xs d 38 [.ref 10, .ref 4] S P1 ∧ ∀ (v1 : Int32) (S1 : x_M), P1 v1 S1 → (if v1 = 0 then (Q (some (.int 1)) S1) else (if (S1 a1 5) < 14 then (∃ P2 : x_M → Prop, x_Cv xs d 31 [.ref 10] S1 P2 ∧ ∀ (S2 : x_M), P2 S2 → (∃ P3 : Int32 → x_M → Prop, x_Ci xs d 39 [.ref 10] S2 P3 ∧ ∀ (v3 : Int32) (S3 : x_M), P3 v3 S3 → (if v3 = (-1000000) then (Q (some (.int 1)) S3) else (∃ P4 : x_M → Prop, x_Cv xs d 31 [.ref 10] S3 P4 ∧ ∀ (S4 : x_M), P4 S4 → (∃ P5 : Int32 → x_M → Prop, x_Ci xs d 54 [.ref 10, .int 1] S4 P5 ∧ ∀ (v5 : Int32) (S5 : x_M), P5 v5 S5 → (if v5 = 0 then (∃ P6 : x_M → Prop, x_Cv xs d 2 [.ref a1, .int v3, .int (S5 10 5)] S5 P6 ∧ ∀ (S6 : x_M), P6 S6 → (∃ P7 : x_M → Prop, x_Cv xs d 31 [.ref 10] S6 P7 ∧ ∀ (S7 : x_M), P7 S7 → (∃ P8 : Int32 → x_M → Prop, x_Ci xs d 55 [.ref 10] S7 P8 ∧ ∀ (v8 : Int32) (S8 : x_M), P8 v8 S8 → (Q (some (.int v8)) S8)))) else (Q (some (.int v5)) S5))))))) else (Q (some (.int 3)) S1)))) : x_E xs (d + 1) 56 0 [.ref 10, .ref a1, .null, .null] [] S Q := by
  refine e_aload f_56_0 rfl (by decide) ?_
  refine e_ldc f_56_1 ?_
  obtain ⟨P1, hP1, hV⟩ := hV
  refine e_vi (n := 2) (A := [.ref 10, .ref 4]) (R := []) f_56_4 na_38 rfl rfl (Nat.le_of_ble_eq_true rfl) (Nat.le_of_ble_eq_true rfl) (by rw [ml_38]; exact Nat.le_of_ble_eq_true rfl) rfl (by rw [cy_38]; decide) (by rw [cy_38]; exact (by decide : x_tg 10 = 3)) hP1 (fun v1 S1 hp1 => ?_)
  have hV := hV v1 S1 hp1
  refine e_if f_56_7 (fun hc => ?_) (fun hc => ?_)
  · have hc : ¬ v1 = 0 := of_decide_eq_true hc
    rw [if_neg hc] at hV
    refine e_aload f_56_12 rfl (x_n7 ha1 (by decide)) ?_
    refine e_gf (c := 0) (j := 5) f_56_13 (by decide) (by decide) ha1 ?_
    refine e_iconst (c := 14) f_56_16 (by decide) ?_
    refine e_icmp f_56_18 (fun hc => ?_) (fun hc => ?_)
    · have hc : (S1 a1 5) < 14 := of_decide_eq_true hc
      rw [if_pos hc] at hV
      refine e_aload f_56_23 rfl (by decide) ?_
      obtain ⟨P2, hP2, hV⟩ := hV
      refine e_vv (n := 1) (A := [.ref 10]) (R := []) f_56_24 na_31 rfl rfl (Nat.le_of_ble_eq_true rfl) (Nat.le_of_ble_eq_true rfl) (by rw [ml_31]; exact Nat.le_of_ble_eq_true rfl) rfl (by rw [cy_31]; decide) (by rw [cy_31]; exact (by decide : x_tg 10 = 3)) hP2 (fun S2 hp2 => ?_)
      have hV := hV S2 hp2
      refine e_aload f_56_27 rfl (by decide) ?_
      obtain ⟨P3, hP3, hV⟩ := hV
      refine e_vi (n := 1) (A := [.ref 10]) (R := []) f_56_28 na_39 rfl rfl (Nat.le_of_ble_eq_true rfl) (Nat.le_of_ble_eq_true rfl) (by rw [ml_39]; exact Nat.le_of_ble_eq_true rfl) rfl (by rw [cy_39]; decide) (by rw [cy_39]; exact (by decide : x_tg 10 = 3)) hP3 (fun v3 S3 hp3 => ?_)
      have hV := hV v3 S3 hp3
      refine e_istore (L' := [.ref 10, .ref a1, .int v3, .null]) f_56_31 (Nat.le_of_ble_eq_true rfl) rfl ?_
      refine e_iload f_56_32 rfl ?_
      refine e_iconst (c := (-1000000)) f_56_33 (by decide) ?_
      refine e_icmp f_56_35 (fun hc => ?_) (fun hc => ?_)
      · have hc : ¬ v3 = (-1000000) := of_decide_eq_true hc
        rw [if_neg hc] at hV
        refine e_aload f_56_40 rfl (by decide) ?_
        obtain ⟨P4, hP4, hV⟩ := hV
        refine e_vv (n := 1) (A := [.ref 10]) (R := []) f_56_41 na_31 rfl rfl (Nat.le_of_ble_eq_true rfl) (Nat.le_of_ble_eq_true rfl) (by rw [ml_31]; exact Nat.le_of_ble_eq_true rfl) rfl (by rw [cy_31]; decide) (by rw [cy_31]; exact (by decide : x_tg 10 = 3)) hP4 (fun S4 hp4 => ?_)
        have hV := hV S4 hp4
        refine e_aload f_56_44 rfl (by decide) ?_
        refine e_iconst (c := 1) f_56_45 (by decide) ?_
        obtain ⟨P5, hP5, hV⟩ := hV
        refine e_si (n := 2) (A := [.ref 10, .int 1]) (R := []) f_56_46 na_54 rfl rfl (Nat.le_of_ble_eq_true rfl) (Nat.le_of_ble_eq_true rfl) (by rw [ml_54]; exact Nat.le_of_ble_eq_true rfl) hP5 (fun v5 S5 hp5 => ?_)
        have hV := hV v5 S5 hp5
        refine e_istore (L' := [.ref 10, .ref a1, .int v3, .int v5]) f_56_49 (Nat.le_of_ble_eq_true rfl) rfl ?_
        refine e_iload f_56_50 rfl ?_
        refine e_if f_56_51 (fun hc => ?_) (fun hc => ?_)
        · have hc : v5 = 0 := of_decide_eq_true hc
          rw [if_pos hc] at hV
          refine e_aload f_56_56 rfl (x_n7 ha1 (by decide)) ?_
          refine e_iload f_56_57 rfl ?_
          refine e_aload f_56_58 rfl (by decide) ?_
          refine e_gf (c := 3) (j := 5) f_56_59 (by decide) (by decide) (by decide) ?_
          obtain ⟨P6, hP6, hV⟩ := hV
          refine e_vv (n := 3) (A := [.ref a1, .int v3, .int (S5 10 5)]) (R := []) f_56_62 na_2 rfl rfl (Nat.le_of_ble_eq_true rfl) (Nat.le_of_ble_eq_true rfl) (by rw [ml_2]; exact Nat.le_of_ble_eq_true rfl) rfl (by rw [cy_2]; decide) (by rw [cy_2]; exact ha1) hP6 (fun S6 hp6 => ?_)
          have hV := hV S6 hp6
          refine e_aload f_56_65 rfl (by decide) ?_
          obtain ⟨P7, hP7, hV⟩ := hV
          refine e_vv (n := 1) (A := [.ref 10]) (R := []) f_56_66 na_31 rfl rfl (Nat.le_of_ble_eq_true rfl) (Nat.le_of_ble_eq_true rfl) (by rw [ml_31]; exact Nat.le_of_ble_eq_true rfl) rfl (by rw [cy_31]; decide) (by rw [cy_31]; exact (by decide : x_tg 10 = 3)) hP7 (fun S7 hp7 => ?_)
          have hV := hV S7 hp7
          refine e_aload f_56_69 rfl (by decide) ?_
          obtain ⟨P8, hP8, hV⟩ := hV
          refine e_si (n := 1) (A := [.ref 10]) (R := []) f_56_70 na_55 rfl rfl (Nat.le_of_ble_eq_true rfl) (Nat.le_of_ble_eq_true rfl) (by rw [ml_55]; exact Nat.le_of_ble_eq_true rfl) hP8 (fun v8 S8 hp8 => ?_)
          have hV := hV v8 S8 hp8
          exact e_ireturn f_56_73 rt_56 rfl hV
        · have hc : ¬ v5 = 0 := fun z => hc (decide_eq_true z)
          rw [if_neg hc] at hV
          refine e_iload f_56_54 rfl ?_
          exact e_ireturn f_56_55 rt_56 rfl hV
      · have hc : v3 = (-1000000) := Decidable.not_not.mp (fun z => hc (decide_eq_true z))
        rw [if_pos hc] at hV
        refine e_iconst (c := 1) f_56_38 (by decide) ?_
        exact e_ireturn f_56_39 rt_56 rfl hV
    · have hc : ¬ (S1 a1 5) < 14 := fun z => hc (decide_eq_true z)
      rw [if_neg hc] at hV
      refine e_iconst (c := 3) f_56_21 (by decide) ?_
      exact e_ireturn f_56_22 rt_56 rfl hV
  · have hc : v1 = 0 := Decidable.not_not.mp (fun z => hc (decide_eq_true z))
    rw [if_pos hc] at hV
    refine e_iconst (c := 1) f_56_10 (by decide) ?_
    exact e_ireturn f_56_11 rt_56 rfl hV
set_option maxRecDepth 20000 in
theorem T_57_0 {xs : List Int32} {d : Nat} {S : x_M} {Q : Option Value → x_M → Prop}   (hV : Q (some (.int (S 8 8))) S) : x_E xs (d + 1) 57 0 [.ref 8] [] S Q := by
  refine e_aload f_57_0 rfl (by decide) ?_
  refine e_gf (c := 5) (j := 8) f_57_1 (by decide) (by decide) (by decide) ?_
  exact e_ireturn f_57_4 rt_57 rfl hV
set_option maxRecDepth 20000 in
theorem T_58_0 {xs : List Int32} {d : Nat} {S : x_M} {Q : Option Value → x_M → Prop} {a1 : Int32} {a2 : Int32}  (hV : ∃ P1 : Int32 → x_M → Prop, x_Ci xs d 59 [.ref 8, .int a1, .int a2] S P1 ∧ ∀ (v1 : Int32) (S1 : x_M), P1 v1 S1 → (if v1 = 0 then (Q (some (.int (-1000001))) S1) else (∃ P2 : Int32 → x_M → Prop, x_Ci xs d 8 [.ref 12, .int a1, .int a2] S1 P2 ∧ ∀ (v2 : Int32) (S2 : x_M), P2 v2 S2 → (Q (some (.int v2)) S2)))) : x_E xs (d + 1) 58 0 [.ref 8, .int a1, .int a2] [] S Q := by
  refine e_aload f_58_0 rfl (by decide) ?_
  refine e_iload f_58_1 rfl ?_
  refine e_iload f_58_2 rfl ?_
  obtain ⟨P1, hP1, hV⟩ := hV
  refine e_vi (n := 3) (A := [.ref 8, .int a1, .int a2]) (R := []) f_58_3 na_59 rfl rfl (Nat.le_of_ble_eq_true rfl) (Nat.le_of_ble_eq_true rfl) (by rw [ml_59]; exact Nat.le_of_ble_eq_true rfl) rfl (by rw [cy_59]; decide) (by rw [cy_59]; exact (by decide : x_tg 8 = 5)) hP1 (fun v1 S1 hp1 => ?_)
  have hV := hV v1 S1 hp1
  refine e_if f_58_6 (fun hc => ?_) (fun hc => ?_)
  · have hc : v1 = 0 := of_decide_eq_true hc
    rw [if_pos hc] at hV
    refine e_iconst (c := (-1000001)) f_58_21 (by decide) ?_
    exact e_ireturn f_58_23 rt_58 rfl hV
  · have hc : ¬ v1 = 0 := fun z => hc (decide_eq_true z)
    rw [if_neg hc] at hV
    refine e_aload f_58_9 rfl (by decide) ?_
    refine e_gr (c := 5) (j := 2) (r := 12) f_58_10 (by decide) (by decide) (by decide) (by decide) ?_
    refine e_iload f_58_13 rfl ?_
    refine e_iload f_58_14 rfl ?_
    obtain ⟨P2, hP2, hV⟩ := hV
    refine e_vi (n := 3) (A := [.ref 12, .int a1, .int a2]) (R := []) f_58_15 na_8 rfl rfl (Nat.le_of_ble_eq_true rfl) (Nat.le_of_ble_eq_true rfl) (by rw [ml_8]; exact Nat.le_of_ble_eq_true rfl) rfl (by rw [cy_8]; decide) (by rw [cy_8]; exact (by decide : x_tg 12 = 0)) hP2 (fun v2 S2 hp2 => ?_)
    have hV := hV v2 S2 hp2
    refine e_goto f_58_18 ?_
    exact e_ireturn f_58_23 rt_58 rfl hV
set_option maxRecDepth 20000 in
theorem T_59_0 {xs : List Int32} {d : Nat} {S : x_M} {Q : Option Value → x_M → Prop} {a1 : Int32} {a2 : Int32}  (hV : ∃ P1 : Int32 → x_M → Prop, x_Ci xs d 60 [.ref 8, .int a1] S P1 ∧ ∀ (v1 : Int32) (S1 : x_M), P1 v1 S1 → (if v1 = 0 then (Q (some (.int 0)) S1) else (if a2 < 0 then (Q (some (.int 0)) S1) else (if (8 : Int32) ≤ a2 then (Q (some (.int 0)) S1) else (Q (some (.int 1)) S1))))) : x_E xs (d + 1) 59 0 [.ref 8, .int a1, .int a2] [] S Q := by
  refine e_aload f_59_0 rfl (by decide) ?_
  refine e_iload f_59_1 rfl ?_
  obtain ⟨P1, hP1, hV⟩ := hV
  refine e_vi (n := 2) (A := [.ref 8, .int a1]) (R := []) f_59_2 na_60 rfl rfl (Nat.le_of_ble_eq_true rfl) (Nat.le_of_ble_eq_true rfl) (by rw [ml_60]; exact Nat.le_of_ble_eq_true rfl) rfl (by rw [cy_60]; decide) (by rw [cy_60]; exact (by decide : x_tg 8 = 5)) hP1 (fun v1 S1 hp1 => ?_)
  have hV := hV v1 S1 hp1
  refine e_if f_59_5 (fun hc => ?_) (fun hc => ?_)
  · have hc : v1 = 0 := of_decide_eq_true hc
    rw [if_pos hc] at hV
    refine e_iconst (c := 0) f_59_22 (by decide) ?_
    exact e_ireturn f_59_23 rt_59 (by decide) hV
  · have hc : ¬ v1 = 0 := fun z => hc (decide_eq_true z)
    rw [if_neg hc] at hV
    refine e_iload f_59_8 rfl ?_
    refine e_if f_59_9 (fun hc => ?_) (fun hc => ?_)
    · have hc : a2 < 0 := of_decide_eq_true hc
      rw [if_pos hc] at hV
      refine e_iconst (c := 0) f_59_22 (by decide) ?_
      exact e_ireturn f_59_23 rt_59 (by decide) hV
    · have hc : ¬ a2 < 0 := fun z => hc (decide_eq_true z)
      rw [if_neg hc] at hV
      refine e_iload f_59_12 rfl ?_
      refine e_iconst (c := 8) f_59_13 (by decide) ?_
      refine e_icmp f_59_15 (fun hc => ?_) (fun hc => ?_)
      · have hc : (8 : Int32) ≤ a2 := of_decide_eq_true hc
        rw [if_pos hc] at hV
        refine e_iconst (c := 0) f_59_22 (by decide) ?_
        exact e_ireturn f_59_23 rt_59 (by decide) hV
      · have hc : ¬ (8 : Int32) ≤ a2 := fun z => hc (decide_eq_true z)
        rw [if_neg hc] at hV
        refine e_iconst (c := 1) f_59_18 (by decide) ?_
        refine e_goto f_59_19 ?_
        exact e_ireturn f_59_23 rt_59 (by decide) hV
set_option maxRecDepth 20000 in
theorem T_60_0 {xs : List Int32} {d : Nat} {S : x_M} {Q : Option Value → x_M → Prop} {a1 : Int32}  (hV : if a1 < 0 then (Q (some (.int 0)) S) else (if (S 12 5) ≤ a1 then (Q (some (.int 0)) S) else (Q (some (.int 1)) S))) : x_E xs (d + 1) 60 0 [.ref 8, .int a1] [] S Q := by
  refine e_iload f_60_0 rfl ?_
  refine e_if f_60_1 (fun hc => ?_) (fun hc => ?_)
  · have hc : a1 < 0 := of_decide_eq_true hc
    rw [if_pos hc] at hV
    refine e_iconst (c := 0) f_60_19 (by decide) ?_
    exact e_ireturn f_60_20 rt_60 (by decide) hV
  · have hc : ¬ a1 < 0 := fun z => hc (decide_eq_true z)
    rw [if_neg hc] at hV
    refine e_iload f_60_4 rfl ?_
    refine e_aload f_60_5 rfl (by decide) ?_
    refine e_gr (c := 5) (j := 2) (r := 12) f_60_6 (by decide) (by decide) (by decide) (by decide) ?_
    refine e_gf (c := 0) (j := 5) f_60_9 (by decide) (by decide) (by decide) ?_
    refine e_icmp f_60_12 (fun hc => ?_) (fun hc => ?_)
    · have hc : (S 12 5) ≤ a1 := of_decide_eq_true hc
      rw [if_pos hc] at hV
      refine e_iconst (c := 0) f_60_19 (by decide) ?_
      exact e_ireturn f_60_20 rt_60 (by decide) hV
    · have hc : ¬ (S 12 5) ≤ a1 := fun z => hc (decide_eq_true z)
      rw [if_neg hc] at hV
      refine e_iconst (c := 1) f_60_15 (by decide) ?_
      refine e_goto f_60_16 ?_
      exact e_ireturn f_60_20 rt_60 (by decide) hV
set_option maxRecDepth 20000 in
theorem T_61_0 {xs : List Int32} {d : Nat} {S : x_M} {Q : Option Value → x_M → Prop} {a1 : Int32}  (hV : if (S 12 4) = 0 then (Q (some (.int (-1000002))) S) else (∃ P1 : Int32 → x_M → Prop, x_Ci xs d 62 [.int a1] S P1 ∧ ∀ (v1 : Int32) (S1 : x_M), P1 v1 S1 → (if v1 = 0 then (Q (some (.int (-1000001))) S1) else (∃ P2 : Int32 → x_M → Prop, x_Ci xs d 9 [.ref 12, .int a1] S1 P2 ∧ ∀ (v2 : Int32) (S2 : x_M), P2 v2 S2 → (Q (some (.int v2)) S2))))) : x_E xs (d + 1) 61 0 [.ref 8, .int a1] [] S Q := by
  refine e_aload f_61_0 rfl (by decide) ?_
  refine e_gr (c := 5) (j := 2) (r := 12) f_61_1 (by decide) (by decide) (by decide) (by decide) ?_
  refine e_gf (c := 0) (j := 4) f_61_4 (by decide) (by decide) (by decide) ?_
  refine e_if f_61_7 (fun hc => ?_) (fun hc => ?_)
  · have hc : ¬ (S 12 4) = 0 := of_decide_eq_true hc
    rw [if_neg hc] at hV
    refine e_iload f_61_13 rfl ?_
    obtain ⟨P1, hP1, hV⟩ := hV
    refine e_si (n := 1) (A := [.int a1]) (R := []) f_61_14 na_62 rfl rfl (Nat.le_of_ble_eq_true rfl) (Nat.le_of_ble_eq_true rfl) (by rw [ml_62]; exact Nat.le_of_ble_eq_true rfl) hP1 (fun v1 S1 hp1 => ?_)
    have hV := hV v1 S1 hp1
    refine e_if f_61_17 (fun hc => ?_) (fun hc => ?_)
    · have hc : v1 = 0 := of_decide_eq_true hc
      rw [if_pos hc] at hV
      refine e_iconst (c := (-1000001)) f_61_31 (by decide) ?_
      exact e_ireturn f_61_33 rt_61 rfl hV
    · have hc : ¬ v1 = 0 := fun z => hc (decide_eq_true z)
      rw [if_neg hc] at hV
      refine e_aload f_61_20 rfl (by decide) ?_
      refine e_gr (c := 5) (j := 2) (r := 12) f_61_21 (by decide) (by decide) (by decide) (by decide) ?_
      refine e_iload f_61_24 rfl ?_
      obtain ⟨P2, hP2, hV⟩ := hV
      refine e_vi (n := 2) (A := [.ref 12, .int a1]) (R := []) f_61_25 na_9 rfl rfl (Nat.le_of_ble_eq_true rfl) (Nat.le_of_ble_eq_true rfl) (by rw [ml_9]; exact Nat.le_of_ble_eq_true rfl) rfl (by rw [cy_9]; decide) (by rw [cy_9]; exact (by decide : x_tg 12 = 0)) hP2 (fun v2 S2 hp2 => ?_)
      have hV := hV v2 S2 hp2
      refine e_goto f_61_28 ?_
      exact e_ireturn f_61_33 rt_61 rfl hV
  · have hc : (S 12 4) = 0 := Decidable.not_not.mp (fun z => hc (decide_eq_true z))
    rw [if_pos hc] at hV
    refine e_iconst (c := (-1000002)) f_61_10 (by decide) ?_
    exact e_ireturn f_61_12 rt_61 rfl hV
set_option maxRecDepth 20000 in
theorem T_62_0 {xs : List Int32} {d : Nat} {S : x_M} {Q : Option Value → x_M → Prop} {a0 : Int32}  (hV : if a0 < 0 then (Q (some (.int 0)) S) else (if (511 : Int32) < a0 then (Q (some (.int 0)) S) else (Q (some (.int 1)) S))) : x_E xs (d + 1) 62 0 [.int a0] [] S Q := by
  refine e_iload f_62_0 rfl ?_
  refine e_if f_62_1 (fun hc => ?_) (fun hc => ?_)
  · have hc : a0 < 0 := of_decide_eq_true hc
    rw [if_pos hc] at hV
    refine e_iconst (c := 0) f_62_15 (by decide) ?_
    exact e_ireturn f_62_16 rt_62 (by decide) hV
  · have hc : ¬ a0 < 0 := fun z => hc (decide_eq_true z)
    rw [if_neg hc] at hV
    refine e_iload f_62_4 rfl ?_
    refine e_iconst (c := 511) f_62_5 (by decide) ?_
    refine e_icmp f_62_8 (fun hc => ?_) (fun hc => ?_)
    · have hc : (511 : Int32) < a0 := of_decide_eq_true hc
      rw [if_pos hc] at hV
      refine e_iconst (c := 0) f_62_15 (by decide) ?_
      exact e_ireturn f_62_16 rt_62 (by decide) hV
    · have hc : ¬ (511 : Int32) < a0 := fun z => hc (decide_eq_true z)
      rw [if_neg hc] at hV
      refine e_iconst (c := 1) f_62_11 (by decide) ?_
      refine e_goto f_62_12 ?_
      exact e_ireturn f_62_16 rt_62 (by decide) hV
set_option maxRecDepth 20000 in
theorem T_63_0 {xs : List Int32} {d : Nat} {S : x_M} {Q : Option Value → x_M → Prop} {a1 : Int32} {a2 : Int32}  (hV : ∃ P1 : Int32 → x_M → Prop, x_Ci xs d 59 [.ref 8, .int a1, .int a2] S P1 ∧ ∀ (v1 : Int32) (S1 : x_M), P1 v1 S1 → (if v1 = 0 then (Q (some (.int (-1000001))) S1) else (∃ P2 : Int32 → x_M → Prop, x_Ci xs d 10 [.ref 12, .int a1] S1 P2 ∧ ∀ (v2 : Int32) (S2 : x_M), P2 v2 S2 → (if v2 = 0 then (Q (some (.int (-1000002))) S2) else (∃ P3 : Int32 → x_M → Prop, x_Ci xs d 12 [.ref 12, .int a1, .int a2] S2 P3 ∧ ∀ (v3 : Int32) (S3 : x_M), P3 v3 S3 → (Q (some (.int v3)) S3)))))) : x_E xs (d + 1) 63 0 [.ref 8, .int a1, .int a2] [] S Q := by
  refine e_aload f_63_0 rfl (by decide) ?_
  refine e_iload f_63_1 rfl ?_
  refine e_iload f_63_2 rfl ?_
  obtain ⟨P1, hP1, hV⟩ := hV
  refine e_vi (n := 3) (A := [.ref 8, .int a1, .int a2]) (R := []) f_63_3 na_59 rfl rfl (Nat.le_of_ble_eq_true rfl) (Nat.le_of_ble_eq_true rfl) (by rw [ml_59]; exact Nat.le_of_ble_eq_true rfl) rfl (by rw [cy_59]; decide) (by rw [cy_59]; exact (by decide : x_tg 8 = 5)) hP1 (fun v1 S1 hp1 => ?_)
  have hV := hV v1 S1 hp1
  refine e_if f_63_6 (fun hc => ?_) (fun hc => ?_)
  · have hc : ¬ v1 = 0 := of_decide_eq_true hc
    rw [if_neg hc] at hV
    refine e_aload f_63_12 rfl (by decide) ?_
    refine e_gr (c := 5) (j := 2) (r := 12) f_63_13 (by decide) (by decide) (by decide) (by decide) ?_
    refine e_iload f_63_16 rfl ?_
    obtain ⟨P2, hP2, hV⟩ := hV
    refine e_vi (n := 2) (A := [.ref 12, .int a1]) (R := []) f_63_17 na_10 rfl rfl (Nat.le_of_ble_eq_true rfl) (Nat.le_of_ble_eq_true rfl) (by rw [ml_10]; exact Nat.le_of_ble_eq_true rfl) rfl (by rw [cy_10]; decide) (by rw [cy_10]; exact (by decide : x_tg 12 = 0)) hP2 (fun v2 S2 hp2 => ?_)
    have hV := hV v2 S2 hp2
    refine e_if f_63_20 (fun hc => ?_) (fun hc => ?_)
    · have hc : v2 = 0 := of_decide_eq_true hc
      rw [if_pos hc] at hV
      refine e_iconst (c := (-1000002)) f_63_35 (by decide) ?_
      exact e_ireturn f_63_37 rt_63 rfl hV
    · have hc : ¬ v2 = 0 := fun z => hc (decide_eq_true z)
      rw [if_neg hc] at hV
      refine e_aload f_63_23 rfl (by decide) ?_
      refine e_gr (c := 5) (j := 2) (r := 12) f_63_24 (by decide) (by decide) (by decide) (by decide) ?_
      refine e_iload f_63_27 rfl ?_
      refine e_iload f_63_28 rfl ?_
      obtain ⟨P3, hP3, hV⟩ := hV
      refine e_vi (n := 3) (A := [.ref 12, .int a1, .int a2]) (R := []) f_63_29 na_12 rfl rfl (Nat.le_of_ble_eq_true rfl) (Nat.le_of_ble_eq_true rfl) (by rw [ml_12]; exact Nat.le_of_ble_eq_true rfl) rfl (by rw [cy_12]; decide) (by rw [cy_12]; exact (by decide : x_tg 12 = 0)) hP3 (fun v3 S3 hp3 => ?_)
      have hV := hV v3 S3 hp3
      refine e_goto f_63_32 ?_
      exact e_ireturn f_63_37 rt_63 rfl hV
  · have hc : v1 = 0 := Decidable.not_not.mp (fun z => hc (decide_eq_true z))
    rw [if_pos hc] at hV
    refine e_iconst (c := (-1000001)) f_63_9 (by decide) ?_
    exact e_ireturn f_63_11 rt_63 rfl hV
set_option maxRecDepth 20000 in
theorem T_64_0 {xs : List Int32} {d : Nat} {S : x_M} {Q : Option Value → x_M → Prop} {a1 : Int32} {a2 : Int32} {a3 : Int32}  (hV : if (S 12 4) = 0 then (Q (some (.int (-1000002))) S) else (∃ P1 : Int32 → x_M → Prop, x_Ci xs d 44 [.int a1] S P1 ∧ ∀ (v1 : Int32) (S1 : x_M), P1 v1 S1 → (if v1 = 0 then (Q (some (.int (-1000001))) S1) else (if a3 < 1 then (Q (some (.int (-1000001))) S1) else (if a3 ≤ 14 then ((x_ib a1 8) ∧ (if (S1 (x_rr 9 (Int32.toNatClampNeg a1)) 1) = 0 then (∃ P10 : Int32 → x_M → Prop, x_Ci xs d 45 [.ref 8, .int 1] S1 P10 ∧ ∀ (v10 : Int32) (S10 : x_M), P10 v10 S10 → (Q (some (.int v10)) S10)) else (∃ P3 : Int32 → x_M → Prop, x_Ci xs d 25 [.ref (x_rr 9 (Int32.toNatClampNeg a1)), .int a2, .int a3] S1 P3 ∧ ∀ (v3 : Int32) (S3 : x_M), P3 v3 S3 → (if v3 = 0 then (∃ P9 : Int32 → x_M → Prop, x_Ci xs d 45 [.ref 8, .int 2] S3 P9 ∧ ∀ (v9 : Int32) (S9 : x_M), P9 v9 S9 → (Q (some (.int v9)) S9)) else (∃ P4 : Int32 → x_M → Prop, x_Ci xs d 65 [.ref 8, .ref (x_rr 9 (Int32.toNatClampNeg a1)), .int a2, .int a3] S3 P4 ∧ ∀ (v4 : Int32) (S4 : x_M), P4 v4 S4 → (if v4 = 0 then (Q (some (.int (-1000001))) S4) else (∃ P5 : x_M → Prop, x_Cv xs d 7 [.ref 17, .ref 12] S4 P5 ∧ ∀ (S5 : x_M), P5 S5 → (∃ P6 : Int32 → x_M → Prop, x_Ci xs d 66 [.ref 17, .ref (x_rr 9 (Int32.toNatClampNeg a1)), .int a2, .int a3] S5 P6 ∧ ∀ (v6 : Int32) (S6 : x_M), P6 v6 S6 → (if v6 = 0 then (Q (some (.int (-1000002))) S6) else (∃ P7 : x_M → Prop, x_Cv xs d 7 [.ref 12, .ref 17] S6 P7 ∧ ∀ (S7 : x_M), P7 S7 → (∃ P8 : Int32 → x_M → Prop, x_Ci xs d 46 [.ref 8, .int (((S7 16 0) - (S7 16 1)) - ((S6 16 0) - (S6 16 1)))] S7 P8 ∧ ∀ (v8 : Int32) (S8 : x_M), P8 v8 S8 → (Q (some (.int v8)) S8)))))))))))) else (Q (some (.int (-1000001))) S1)))))) : x_E xs (d + 1) 64 0 [.ref 8, .int a1, .int a2, .int a3, .null, .null] [] S Q := by
  refine e_aload f_64_0 rfl (by decide) ?_
  refine e_gr (c := 5) (j := 2) (r := 12) f_64_1 (by decide) (by decide) (by decide) (by decide) ?_
  refine e_gf (c := 0) (j := 4) f_64_4 (by decide) (by decide) (by decide) ?_
  refine e_if f_64_7 (fun hc => ?_) (fun hc => ?_)
  · have hc : ¬ (S 12 4) = 0 := of_decide_eq_true hc
    rw [if_neg hc] at hV
    refine e_iload f_64_13 rfl ?_
    obtain ⟨P1, hP1, hV⟩ := hV
    refine e_si (n := 1) (A := [.int a1]) (R := []) f_64_14 na_44 rfl rfl (Nat.le_of_ble_eq_true rfl) (Nat.le_of_ble_eq_true rfl) (by rw [ml_44]; exact Nat.le_of_ble_eq_true rfl) hP1 (fun v1 S1 hp1 => ?_)
    have hV := hV v1 S1 hp1
    refine e_if f_64_17 (fun hc => ?_) (fun hc => ?_)
    · have hc : v1 = 0 := of_decide_eq_true hc
      rw [if_pos hc] at hV
      refine e_iconst (c := (-1000001)) f_64_31 (by decide) ?_
      exact e_ireturn f_64_33 rt_64 rfl hV
    · have hc : ¬ v1 = 0 := fun z => hc (decide_eq_true z)
      rw [if_neg hc] at hV
      refine e_iload f_64_20 rfl ?_
      refine e_iconst (c := 1) f_64_21 (by decide) ?_
      refine e_icmp f_64_22 (fun hc => ?_) (fun hc => ?_)
      · have hc : a3 < 1 := of_decide_eq_true hc
        rw [if_pos hc] at hV
        refine e_iconst (c := (-1000001)) f_64_31 (by decide) ?_
        exact e_ireturn f_64_33 rt_64 rfl hV
      · have hc : ¬ a3 < 1 := fun z => hc (decide_eq_true z)
        rw [if_neg hc] at hV
        refine e_iload f_64_25 rfl ?_
        refine e_iconst (c := 14) f_64_26 (by decide) ?_
        refine e_icmp f_64_28 (fun hc => ?_) (fun hc => ?_)
        · have hc : a3 ≤ 14 := of_decide_eq_true hc
          rw [if_pos hc] at hV
          refine e_aload f_64_34 rfl (by decide) ?_
          refine e_gr (c := 5) (j := 0) (r := 9) f_64_35 (by decide) (by decide) (by decide) (by decide) ?_
          refine e_iload f_64_38 rfl ?_
          obtain ⟨hg, hV⟩ := hV
          refine e_aa (c := 11) (n := 8) f_64_39 (by decide) (by decide) (by decide) hg (fun hq2 => ?_)
          have hq2 : x_tg (x_rr 9 (Int32.toNatClampNeg a1)) = 2 := hq2
          refine e_astore (L' := [.ref 8, .int a1, .int a2, .int a3, .ref (x_rr 9 (Int32.toNatClampNeg a1)), .null]) f_64_40 (Nat.le_of_ble_eq_true rfl) (x_n7 hq2 (by decide)) rfl ?_
          refine e_aload f_64_42 rfl (x_n7 hq2 (by decide)) ?_
          refine e_gf (c := 2) (j := 1) f_64_44 (by decide) (by decide) hq2 ?_
          refine e_if f_64_47 (fun hc => ?_) (fun hc => ?_)
          · have hc : ¬ (S1 (x_rr 9 (Int32.toNatClampNeg a1)) 1) = 0 := of_decide_eq_true hc
            rw [if_neg hc] at hV
            refine e_aload f_64_56 rfl (x_n7 hq2 (by decide)) ?_
            refine e_iload f_64_58 rfl ?_
            refine e_iload f_64_59 rfl ?_
            obtain ⟨P3, hP3, hV⟩ := hV
            refine e_vi (n := 3) (A := [.ref (x_rr 9 (Int32.toNatClampNeg a1)), .int a2, .int a3]) (R := []) f_64_60 na_25 rfl rfl (Nat.le_of_ble_eq_true rfl) (Nat.le_of_ble_eq_true rfl) (by rw [ml_25]; exact Nat.le_of_ble_eq_true rfl) rfl (by rw [cy_25]; decide) (by rw [cy_25]; exact hq2) hP3 (fun v3 S3 hp3 => ?_)
            have hV := hV v3 S3 hp3
            refine e_if f_64_63 (fun hc => ?_) (fun hc => ?_)
            · have hc : ¬ v3 = 0 := of_decide_eq_true hc
              rw [if_neg hc] at hV
              refine e_aload f_64_72 rfl (by decide) ?_
              refine e_aload f_64_73 rfl (x_n7 hq2 (by decide)) ?_
              refine e_iload f_64_75 rfl ?_
              refine e_iload f_64_76 rfl ?_
              obtain ⟨P4, hP4, hV⟩ := hV
              refine e_vi (n := 4) (A := [.ref 8, .ref (x_rr 9 (Int32.toNatClampNeg a1)), .int a2, .int a3]) (R := []) f_64_77 na_65 rfl rfl (Nat.le_of_ble_eq_true rfl) (Nat.le_of_ble_eq_true rfl) (by rw [ml_65]; exact Nat.le_of_ble_eq_true rfl) rfl (by rw [cy_65]; decide) (by rw [cy_65]; exact (by decide : x_tg 8 = 5)) hP4 (fun v4 S4 hp4 => ?_)
              have hV := hV v4 S4 hp4
              refine e_if f_64_80 (fun hc => ?_) (fun hc => ?_)
              · have hc : ¬ v4 = 0 := of_decide_eq_true hc
                rw [if_neg hc] at hV
                refine e_aload f_64_86 rfl (by decide) ?_
                refine e_gr (c := 5) (j := 3) (r := 17) f_64_87 (by decide) (by decide) (by decide) (by decide) ?_
                refine e_aload f_64_90 rfl (by decide) ?_
                refine e_gr (c := 5) (j := 2) (r := 12) f_64_91 (by decide) (by decide) (by decide) (by decide) ?_
                obtain ⟨P5, hP5, hV⟩ := hV
                refine e_vv (n := 2) (A := [.ref 17, .ref 12]) (R := []) f_64_94 na_7 rfl rfl (Nat.le_of_ble_eq_true rfl) (Nat.le_of_ble_eq_true rfl) (by rw [ml_7]; exact Nat.le_of_ble_eq_true rfl) rfl (by rw [cy_7]; decide) (by rw [cy_7]; exact (by decide : x_tg 17 = 0)) hP5 (fun S5 hp5 => ?_)
                have hV := hV S5 hp5
                refine e_aload f_64_97 rfl (by decide) ?_
                refine e_gr (c := 5) (j := 3) (r := 17) f_64_98 (by decide) (by decide) (by decide) (by decide) ?_
                refine e_aload f_64_101 rfl (x_n7 hq2 (by decide)) ?_
                refine e_iload f_64_103 rfl ?_
                refine e_iload f_64_104 rfl ?_
                obtain ⟨P6, hP6, hV⟩ := hV
                refine e_si (n := 4) (A := [.ref 17, .ref (x_rr 9 (Int32.toNatClampNeg a1)), .int a2, .int a3]) (R := []) f_64_105 na_66 rfl rfl (Nat.le_of_ble_eq_true rfl) (Nat.le_of_ble_eq_true rfl) (by rw [ml_66]; exact Nat.le_of_ble_eq_true rfl) hP6 (fun v6 S6 hp6 => ?_)
                have hV := hV v6 S6 hp6
                refine e_if f_64_108 (fun hc => ?_) (fun hc => ?_)
                · have hc : ¬ v6 = 0 := of_decide_eq_true hc
                  rw [if_neg hc] at hV
                  refine e_aload f_64_114 rfl (by decide) ?_
                  refine e_gr (c := 5) (j := 2) (r := 12) f_64_115 (by decide) (by decide) (by decide) (by decide) ?_
                  refine e_gr (c := 0) (j := 3) (r := 16) f_64_118 (by decide) (by decide) (by decide) (by decide) ?_
                  refine e_iconst (c := 0) f_64_121 (by decide) ?_
                  refine e_iak (n := 2) (kk := 0) f_64_122 (by decide) (by decide) (by decide) ?_
                  refine e_aload f_64_123 rfl (by decide) ?_
                  refine e_gr (c := 5) (j := 2) (r := 12) f_64_124 (by decide) (by decide) (by decide) (by decide) ?_
                  refine e_gr (c := 0) (j := 3) (r := 16) f_64_127 (by decide) (by decide) (by decide) (by decide) ?_
                  refine e_iconst (c := 1) f_64_130 (by decide) ?_
                  refine e_iak (n := 2) (kk := 1) f_64_131 (by decide) (by decide) (by decide) ?_
                  refine e_isub f_64_132 ?_
                  refine e_istore (L' := [.ref 8, .int a1, .int a2, .int a3, .ref (x_rr 9 (Int32.toNatClampNeg a1)), .int ((S6 16 0) - (S6 16 1))]) f_64_133 (Nat.le_of_ble_eq_true rfl) rfl ?_
                  refine e_aload f_64_135 rfl (by decide) ?_
                  refine e_gr (c := 5) (j := 2) (r := 12) f_64_136 (by decide) (by decide) (by decide) (by decide) ?_
                  refine e_aload f_64_139 rfl (by decide) ?_
                  refine e_gr (c := 5) (j := 3) (r := 17) f_64_140 (by decide) (by decide) (by decide) (by decide) ?_
                  obtain ⟨P7, hP7, hV⟩ := hV
                  refine e_vv (n := 2) (A := [.ref 12, .ref 17]) (R := []) f_64_143 na_7 rfl rfl (Nat.le_of_ble_eq_true rfl) (Nat.le_of_ble_eq_true rfl) (by rw [ml_7]; exact Nat.le_of_ble_eq_true rfl) rfl (by rw [cy_7]; decide) (by rw [cy_7]; exact (by decide : x_tg 12 = 0)) hP7 (fun S7 hp7 => ?_)
                  have hV := hV S7 hp7
                  refine e_aload f_64_146 rfl (by decide) ?_
                  refine e_aload f_64_147 rfl (by decide) ?_
                  refine e_gr (c := 5) (j := 2) (r := 12) f_64_148 (by decide) (by decide) (by decide) (by decide) ?_
                  refine e_gr (c := 0) (j := 3) (r := 16) f_64_151 (by decide) (by decide) (by decide) (by decide) ?_
                  refine e_iconst (c := 0) f_64_154 (by decide) ?_
                  refine e_iak (n := 2) (kk := 0) f_64_155 (by decide) (by decide) (by decide) ?_
                  refine e_aload f_64_156 rfl (by decide) ?_
                  refine e_gr (c := 5) (j := 2) (r := 12) f_64_157 (by decide) (by decide) (by decide) (by decide) ?_
                  refine e_gr (c := 0) (j := 3) (r := 16) f_64_160 (by decide) (by decide) (by decide) (by decide) ?_
                  refine e_iconst (c := 1) f_64_163 (by decide) ?_
                  refine e_iak (n := 2) (kk := 1) f_64_164 (by decide) (by decide) (by decide) ?_
                  refine e_isub f_64_165 ?_
                  refine e_iload f_64_166 rfl ?_
                  refine e_isub f_64_168 ?_
                  obtain ⟨P8, hP8, hV⟩ := hV
                  refine e_vi (n := 2) (A := [.ref 8, .int (((S7 16 0) - (S7 16 1)) - ((S6 16 0) - (S6 16 1)))]) (R := []) f_64_169 na_46 rfl rfl (Nat.le_of_ble_eq_true rfl) (Nat.le_of_ble_eq_true rfl) (by rw [ml_46]; exact Nat.le_of_ble_eq_true rfl) rfl (by rw [cy_46]; decide) (by rw [cy_46]; exact (by decide : x_tg 8 = 5)) hP8 (fun v8 S8 hp8 => ?_)
                  have hV := hV v8 S8 hp8
                  exact e_ireturn f_64_172 rt_64 rfl hV
                · have hc : v6 = 0 := Decidable.not_not.mp (fun z => hc (decide_eq_true z))
                  rw [if_pos hc] at hV
                  refine e_iconst (c := (-1000002)) f_64_111 (by decide) ?_
                  exact e_ireturn f_64_113 rt_64 rfl hV
              · have hc : v4 = 0 := Decidable.not_not.mp (fun z => hc (decide_eq_true z))
                rw [if_pos hc] at hV
                refine e_iconst (c := (-1000001)) f_64_83 (by decide) ?_
                exact e_ireturn f_64_85 rt_64 rfl hV
            · have hc : v3 = 0 := Decidable.not_not.mp (fun z => hc (decide_eq_true z))
              rw [if_pos hc] at hV
              refine e_aload f_64_66 rfl (by decide) ?_
              refine e_iconst (c := 2) f_64_67 (by decide) ?_
              obtain ⟨P9, hP9, hV⟩ := hV
              refine e_vi (n := 2) (A := [.ref 8, .int 2]) (R := []) f_64_68 na_45 rfl rfl (Nat.le_of_ble_eq_true rfl) (Nat.le_of_ble_eq_true rfl) (by rw [ml_45]; exact Nat.le_of_ble_eq_true rfl) rfl (by rw [cy_45]; decide) (by rw [cy_45]; exact (by decide : x_tg 8 = 5)) hP9 (fun v9 S9 hp9 => ?_)
              have hV := hV v9 S9 hp9
              exact e_ireturn f_64_71 rt_64 rfl hV
          · have hc : (S1 (x_rr 9 (Int32.toNatClampNeg a1)) 1) = 0 := Decidable.not_not.mp (fun z => hc (decide_eq_true z))
            rw [if_pos hc] at hV
            refine e_aload f_64_50 rfl (by decide) ?_
            refine e_iconst (c := 1) f_64_51 (by decide) ?_
            obtain ⟨P10, hP10, hV⟩ := hV
            refine e_vi (n := 2) (A := [.ref 8, .int 1]) (R := []) f_64_52 na_45 rfl rfl (Nat.le_of_ble_eq_true rfl) (Nat.le_of_ble_eq_true rfl) (by rw [ml_45]; exact Nat.le_of_ble_eq_true rfl) rfl (by rw [cy_45]; decide) (by rw [cy_45]; exact (by decide : x_tg 8 = 5)) hP10 (fun v10 S10 hp10 => ?_)
            have hV := hV v10 S10 hp10
            exact e_ireturn f_64_55 rt_64 rfl hV
        · have hc : ¬ a3 ≤ 14 := fun z => hc (decide_eq_true z)
          rw [if_neg hc] at hV
          refine e_iconst (c := (-1000001)) f_64_31 (by decide) ?_
          exact e_ireturn f_64_33 rt_64 rfl hV
  · have hc : (S 12 4) = 0 := Decidable.not_not.mp (fun z => hc (decide_eq_true z))
    rw [if_pos hc] at hV
    refine e_iconst (c := (-1000002)) f_64_10 (by decide) ?_
    exact e_ireturn f_64_12 rt_64 rfl hV
set_option maxRecDepth 20000 in
theorem T_65_0 {xs : List Int32} {d : Nat} {S : x_M} {Q : Option Value → x_M → Prop} {a1 : Nat} {a2 : Int32} {a3 : Int32} (ha1 : x_tg a1 = 2) (hV : x_E xs (d + 1) 65 3 [.ref 8, .ref a1, .int a2, .int a3, .int 0, .null] [] S Q) : x_E xs (d + 1) 65 0 [.ref 8, .ref a1, .int a2, .int a3, .null, .null] [] S Q := by
  refine e_iconst (c := 0) f_65_0 (by decide) ?_
  refine e_istore (L' := [.ref 8, .ref a1, .int a2, .int a3, .int 0, .null]) f_65_1 (Nat.le_of_ble_eq_true rfl) rfl ?_
  exact hV
set_option maxRecDepth 20000 in
theorem T_65_3 {xs : List Int32} {d : Nat} {S : x_M} {Q : Option Value → x_M → Prop} {a1 : Nat} {a2 : Int32} {a3 : Int32} {a4 : Int32} {a5 : Value} (ha1 : x_tg a1 = 2) (hV : if a3 ≤ a4 then (Q (some (.int 1)) S) else (∃ P1 : Int32 → x_M → Prop, x_Ci xs d 27 [.ref a1, .int (a2 + a4)] S P1 ∧ ∀ (v1 : Int32) (S1 : x_M), P1 v1 S1 → (if v1 < 0 then (Q (some (.int 0)) S1) else (if v1 < (8 * (S1 12 5)) then (x_E xs (d + 1) 65 3 [.ref 8, .ref a1, .int a2, .int a3, .int (a4 + 1), .int v1] [] S1 Q) else (Q (some (.int 0)) S1))))) : x_E xs (d + 1) 65 3 [.ref 8, .ref a1, .int a2, .int a3, .int a4, a5] [] S Q := by
  refine e_iload f_65_3 rfl ?_
  refine e_iload f_65_5 rfl ?_
  refine e_icmp f_65_6 (fun hc => ?_) (fun hc => ?_)
  · have hc : a3 ≤ a4 := of_decide_eq_true hc
    rw [if_pos hc] at hV
    refine e_iconst (c := 1) f_65_47 (by decide) ?_
    exact e_ireturn f_65_48 rt_65 (by decide) hV
  · have hc : ¬ a3 ≤ a4 := fun z => hc (decide_eq_true z)
    rw [if_neg hc] at hV
    refine e_aload f_65_9 rfl (x_n7 ha1 (by decide)) ?_
    refine e_iload f_65_10 rfl ?_
    refine e_iload f_65_11 rfl ?_
    refine e_iadd f_65_13 ?_
    obtain ⟨P1, hP1, hV⟩ := hV
    refine e_vi (n := 2) (A := [.ref a1, .int (a2 + a4)]) (R := []) f_65_14 na_27 rfl rfl (Nat.le_of_ble_eq_true rfl) (Nat.le_of_ble_eq_true rfl) (by rw [ml_27]; exact Nat.le_of_ble_eq_true rfl) rfl (by rw [cy_27]; decide) (by rw [cy_27]; exact ha1) hP1 (fun v1 S1 hp1 => ?_)
    have hV := hV v1 S1 hp1
    refine e_istore (L' := [.ref 8, .ref a1, .int a2, .int a3, .int a4, .int v1]) f_65_17 (Nat.le_of_ble_eq_true rfl) rfl ?_
    refine e_iload f_65_19 rfl ?_
    refine e_if f_65_21 (fun hc => ?_) (fun hc => ?_)
    · have hc : v1 < 0 := of_decide_eq_true hc
      rw [if_pos hc] at hV
      refine e_iconst (c := 0) f_65_39 (by decide) ?_
      exact e_ireturn f_65_40 rt_65 (by decide) hV
    · have hc : ¬ v1 < 0 := fun z => hc (decide_eq_true z)
      rw [if_neg hc] at hV
      refine e_iload f_65_24 rfl ?_
      refine e_iconst (c := 8) f_65_26 (by decide) ?_
      refine e_aload f_65_28 rfl (by decide) ?_
      refine e_gr (c := 5) (j := 2) (r := 12) f_65_29 (by decide) (by decide) (by decide) (by decide) ?_
      refine e_gf (c := 0) (j := 5) f_65_32 (by decide) (by decide) (by decide) ?_
      refine e_imul f_65_35 ?_
      refine e_icmp f_65_36 (fun hc => ?_) (fun hc => ?_)
      · have hc : v1 < (8 * (S1 12 5)) := of_decide_eq_true hc
        rw [if_pos hc] at hV
        refine e_inc (c := 1) (L' := [.ref 8, .ref a1, .int a2, .int a3, .int (a4 + 1), .int v1]) f_65_41 rfl (by decide) rfl ?_
        refine e_goto f_65_44 ?_
        exact hV
      · have hc : ¬ v1 < (8 * (S1 12 5)) := fun z => hc (decide_eq_true z)
        rw [if_neg hc] at hV
        refine e_iconst (c := 0) f_65_39 (by decide) ?_
        exact e_ireturn f_65_40 rt_65 (by decide) hV
set_option maxRecDepth 20000 in
theorem T_66_0 {xs : List Int32} {d : Nat} {S : x_M} {Q : Option Value → x_M → Prop} {a0 : Nat} {a1 : Nat} {a2 : Int32} {a3 : Int32} (ha0 : x_tg a0 = 0) (ha1 : x_tg a1 = 2) (hV : x_E xs (d + 1) 66 3 [.ref a0, .ref a1, .int a2, .int a3, .int 0, .null] [] S Q) : x_E xs (d + 1) 66 0 [.ref a0, .ref a1, .int a2, .int a3, .null, .null] [] S Q := by
  refine e_iconst (c := 0) f_66_0 (by decide) ?_
  refine e_istore (L' := [.ref a0, .ref a1, .int a2, .int a3, .int 0, .null]) f_66_1 (Nat.le_of_ble_eq_true rfl) rfl ?_
  exact hV
set_option maxRecDepth 20000 in
theorem T_66_3 {xs : List Int32} {d : Nat} {S : x_M} {Q : Option Value → x_M → Prop} {a0 : Nat} {a1 : Nat} {a2 : Int32} {a3 : Int32} {a4 : Int32} {a5 : Value} (ha0 : x_tg a0 = 0) (ha1 : x_tg a1 = 2) (hV : if a3 ≤ a4 then (Q (some (.int 1)) S) else (∃ P1 : Int32 → x_M → Prop, x_Ci xs d 27 [.ref a1, .int (a2 + a4)] S P1 ∧ ∀ (v1 : Int32) (S1 : x_M), P1 v1 S1 → (∃ P2 : Int32 → x_M → Prop, x_Ci xs d 10 [.ref a0, .int (v1 / 8)] S1 P2 ∧ ∀ (v2 : Int32) (S2 : x_M), P2 v2 S2 → (if v2 = 0 then (Q (some (.int 0)) S2) else (∃ P3 : Int32 → x_M → Prop, x_Ci xs d 12 [.ref a0, .int (v1 / 8), .int (v1 - v1 / 8 * 8)] S2 P3 ∧ ∀ (v3 : Int32) (S3 : x_M), P3 v3 S3 → (x_E xs (d + 1) 66 3 [.ref a0, .ref a1, .int a2, .int a3, .int (a4 + 1), .int v1] [] S3 Q)))))) : x_E xs (d + 1) 66 3 [.ref a0, .ref a1, .int a2, .int a3, .int a4, a5] [] S Q := by
  refine e_iload f_66_3 rfl ?_
  refine e_iload f_66_5 rfl ?_
  refine e_icmp f_66_6 (fun hc => ?_) (fun hc => ?_)
  · have hc : a3 ≤ a4 := of_decide_eq_true hc
    rw [if_pos hc] at hV
    refine e_iconst (c := 1) f_66_54 (by decide) ?_
    exact e_ireturn f_66_55 rt_66 (by decide) hV
  · have hc : ¬ a3 ≤ a4 := fun z => hc (decide_eq_true z)
    rw [if_neg hc] at hV
    refine e_aload f_66_9 rfl (x_n7 ha1 (by decide)) ?_
    refine e_iload f_66_10 rfl ?_
    refine e_iload f_66_11 rfl ?_
    refine e_iadd f_66_13 ?_
    obtain ⟨P1, hP1, hV⟩ := hV
    refine e_vi (n := 2) (A := [.ref a1, .int (a2 + a4)]) (R := []) f_66_14 na_27 rfl rfl (Nat.le_of_ble_eq_true rfl) (Nat.le_of_ble_eq_true rfl) (by rw [ml_27]; exact Nat.le_of_ble_eq_true rfl) rfl (by rw [cy_27]; decide) (by rw [cy_27]; exact ha1) hP1 (fun v1 S1 hp1 => ?_)
    have hV := hV v1 S1 hp1
    refine e_istore (L' := [.ref a0, .ref a1, .int a2, .int a3, .int a4, .int v1]) f_66_17 (Nat.le_of_ble_eq_true rfl) rfl ?_
    refine e_aload f_66_19 rfl (x_n7 ha0 (by decide)) ?_
    refine e_iload f_66_20 rfl ?_
    refine e_iconst (c := 8) f_66_22 (by decide) ?_
    refine e_idiv f_66_24 (by decide) ?_
    obtain ⟨P2, hP2, hV⟩ := hV
    refine e_vi (n := 2) (A := [.ref a0, .int (v1 / 8)]) (R := []) f_66_25 na_10 rfl rfl (Nat.le_of_ble_eq_true rfl) (Nat.le_of_ble_eq_true rfl) (by rw [ml_10]; exact Nat.le_of_ble_eq_true rfl) rfl (by rw [cy_10]; decide) (by rw [cy_10]; exact ha0) hP2 (fun v2 S2 hp2 => ?_)
    have hV := hV v2 S2 hp2
    refine e_if f_66_28 (fun hc => ?_) (fun hc => ?_)
    · have hc : ¬ v2 = 0 := of_decide_eq_true hc
      rw [if_neg hc] at hV
      refine e_aload f_66_33 rfl (x_n7 ha0 (by decide)) ?_
      refine e_iload f_66_34 rfl ?_
      refine e_iconst (c := 8) f_66_36 (by decide) ?_
      refine e_idiv f_66_38 (by decide) ?_
      refine e_iload f_66_39 rfl ?_
      refine e_iconst (c := 8) f_66_41 (by decide) ?_
      refine e_irem f_66_43 (by decide) ?_
      obtain ⟨P3, hP3, hV⟩ := hV
      refine e_vi (n := 3) (A := [.ref a0, .int (v1 / 8), .int (v1 - v1 / 8 * 8)]) (R := []) f_66_44 na_12 rfl rfl (Nat.le_of_ble_eq_true rfl) (Nat.le_of_ble_eq_true rfl) (by rw [ml_12]; exact Nat.le_of_ble_eq_true rfl) rfl (by rw [cy_12]; decide) (by rw [cy_12]; exact ha0) hP3 (fun v3 S3 hp3 => ?_)
      have hV := hV v3 S3 hp3
      refine e_pop f_66_47 rfl ?_
      refine e_inc (c := 1) (L' := [.ref a0, .ref a1, .int a2, .int a3, .int (a4 + 1), .int v1]) f_66_48 rfl (by decide) rfl ?_
      refine e_goto f_66_51 ?_
      exact hV
    · have hc : v2 = 0 := Decidable.not_not.mp (fun z => hc (decide_eq_true z))
      rw [if_pos hc] at hV
      refine e_iconst (c := 0) f_66_31 (by decide) ?_
      exact e_ireturn f_66_32 rt_66 (by decide) hV
set_option maxRecDepth 20000 in
theorem T_67_0 {xs : List Int32} {d : Nat} {S : x_M} {Q : Option Value → x_M → Prop} {a1 : Int32} {a2 : Int32}  (hV : if (S 12 4) = 0 then (Q (some (.int (-1000002))) S) else (if a1 < 1 then (Q (some (.int (-1000001))) S) else (if (14 : Int32) < a1 then (Q (some (.int (-1000001))) S) else (if a2 < 1 then (Q (some (.int (-1000001))) S) else (if a2 ≤ 999999 then (x_E xs (d + 1) 67 44 [.ref 8, .int a1, .int a2, .long (Int32.toInt64 a2), .null, .int 0] [] S Q) else (Q (some (.int (-1000001))) S)))))) : x_E xs (d + 1) 67 0 [.ref 8, .int a1, .int a2, .null, .null, .null] [] S Q := by
  refine e_aload f_67_0 rfl (by decide) ?_
  refine e_gr (c := 5) (j := 2) (r := 12) f_67_1 (by decide) (by decide) (by decide) (by decide) ?_
  refine e_gf (c := 0) (j := 4) f_67_4 (by decide) (by decide) (by decide) ?_
  refine e_if f_67_7 (fun hc => ?_) (fun hc => ?_)
  · have hc : ¬ (S 12 4) = 0 := of_decide_eq_true hc
    rw [if_neg hc] at hV
    refine e_iload f_67_13 rfl ?_
    refine e_iconst (c := 1) f_67_14 (by decide) ?_
    refine e_icmp f_67_15 (fun hc => ?_) (fun hc => ?_)
    · have hc : a1 < 1 := of_decide_eq_true hc
      rw [if_pos hc] at hV
      refine e_iconst (c := (-1000001)) f_67_35 (by decide) ?_
      exact e_ireturn f_67_37 rt_67 rfl hV
    · have hc : ¬ a1 < 1 := fun z => hc (decide_eq_true z)
      rw [if_neg hc] at hV
      refine e_iload f_67_18 rfl ?_
      refine e_iconst (c := 14) f_67_19 (by decide) ?_
      refine e_icmp f_67_21 (fun hc => ?_) (fun hc => ?_)
      · have hc : (14 : Int32) < a1 := of_decide_eq_true hc
        rw [if_pos hc] at hV
        refine e_iconst (c := (-1000001)) f_67_35 (by decide) ?_
        exact e_ireturn f_67_37 rt_67 rfl hV
      · have hc : ¬ (14 : Int32) < a1 := fun z => hc (decide_eq_true z)
        rw [if_neg hc] at hV
        refine e_iload f_67_24 rfl ?_
        refine e_iconst (c := 1) f_67_25 (by decide) ?_
        refine e_icmp f_67_26 (fun hc => ?_) (fun hc => ?_)
        · have hc : a2 < 1 := of_decide_eq_true hc
          rw [if_pos hc] at hV
          refine e_iconst (c := (-1000001)) f_67_35 (by decide) ?_
          exact e_ireturn f_67_37 rt_67 rfl hV
        · have hc : ¬ a2 < 1 := fun z => hc (decide_eq_true z)
          rw [if_neg hc] at hV
          refine e_iload f_67_29 rfl ?_
          refine e_iconst (c := 999999) f_67_30 (by decide) ?_
          refine e_icmp f_67_32 (fun hc => ?_) (fun hc => ?_)
          · have hc : a2 ≤ 999999 := of_decide_eq_true hc
            rw [if_pos hc] at hV
            refine e_iload f_67_38 rfl ?_
            refine e_i2l f_67_39 ?_
            refine e_lstore (L' := [.ref 8, .int a1, .int a2, .long (Int32.toInt64 a2), .null, .null]) f_67_40 (Nat.le_of_ble_eq_true rfl) rfl ?_
            refine e_iconst (c := 0) f_67_41 (by decide) ?_
            refine e_istore (L' := [.ref 8, .int a1, .int a2, .long (Int32.toInt64 a2), .null, .int 0]) f_67_42 (Nat.le_of_ble_eq_true rfl) rfl ?_
            exact hV
          · have hc : ¬ a2 ≤ 999999 := fun z => hc (decide_eq_true z)
            rw [if_neg hc] at hV
            refine e_iconst (c := (-1000001)) f_67_35 (by decide) ?_
            exact e_ireturn f_67_37 rt_67 rfl hV
  · have hc : (S 12 4) = 0 := Decidable.not_not.mp (fun z => hc (decide_eq_true z))
    rw [if_pos hc] at hV
    refine e_iconst (c := (-1000002)) f_67_10 (by decide) ?_
    exact e_ireturn f_67_12 rt_67 rfl hV
set_option maxRecDepth 20000 in
theorem T_67_44 {xs : List Int32} {d : Nat} {S : x_M} {Q : Option Value → x_M → Prop} {a1 : Int32} {a2 : Int32} {a3 : Int64} {a5 : Int32}  (hV : if a1 ≤ a5 then (Q (some (.int a5)) S) else (∃ P1 : Int32 → x_M → Prop, x_Ci xs d 11 [.ref 12] S P1 ∧ ∀ (v1 : Int32) (S1 : x_M), P1 v1 S1 → (if v1 = 0 then (Q (some (.int a5)) S1) else (∃ P2 : x_M → Prop, x_Cv xs d 68 [.ref 12, .long ((a3 * 16807) - (a3 * 16807) / 2147483647 * 2147483647)] S1 P2 ∧ ∀ (S2 : x_M), P2 S2 → (x_E xs (d + 1) 67 44 [.ref 8, .int a1, .int a2, .long ((a3 * 16807) - (a3 * 16807) / 2147483647 * 2147483647), .null, .int (a5 + 1)] [] S2 Q))))) : x_E xs (d + 1) 67 44 [.ref 8, .int a1, .int a2, .long a3, .null, .int a5] [] S Q := by
  refine e_iload f_67_44 rfl ?_
  refine e_iload f_67_46 rfl ?_
  refine e_icmp f_67_47 (fun hc => ?_) (fun hc => ?_)
  · have hc : a1 ≤ a5 := of_decide_eq_true hc
    rw [if_pos hc] at hV
    refine e_iload f_67_84 rfl ?_
    exact e_ireturn f_67_86 rt_67 rfl hV
  · have hc : ¬ a1 ≤ a5 := fun z => hc (decide_eq_true z)
    rw [if_neg hc] at hV
    refine e_aload f_67_50 rfl (by decide) ?_
    refine e_gr (c := 5) (j := 2) (r := 12) f_67_51 (by decide) (by decide) (by decide) (by decide) ?_
    obtain ⟨P1, hP1, hV⟩ := hV
    refine e_vi (n := 1) (A := [.ref 12]) (R := []) f_67_54 na_11 rfl rfl (Nat.le_of_ble_eq_true rfl) (Nat.le_of_ble_eq_true rfl) (by rw [ml_11]; exact Nat.le_of_ble_eq_true rfl) rfl (by rw [cy_11]; decide) (by rw [cy_11]; exact (by decide : x_tg 12 = 0)) hP1 (fun v1 S1 hp1 => ?_)
    have hV := hV v1 S1 hp1
    refine e_if f_67_57 (fun hc => ?_) (fun hc => ?_)
    · have hc : v1 = 0 := of_decide_eq_true hc
      rw [if_pos hc] at hV
      refine e_iload f_67_84 rfl ?_
      exact e_ireturn f_67_86 rt_67 rfl hV
    · have hc : ¬ v1 = 0 := fun z => hc (decide_eq_true z)
      rw [if_neg hc] at hV
      refine e_lload f_67_60 rfl ?_
      refine e_lconst (c := 16807) f_67_61 (by decide) ?_
      refine e_lmul f_67_64 ?_
      refine e_lconst (c := 2147483647) f_67_65 (by decide) ?_
      refine e_lrem f_67_68 (by decide) ?_
      refine e_lstore (L' := [.ref 8, .int a1, .int a2, .long ((a3 * 16807) - (a3 * 16807) / 2147483647 * 2147483647), .null, .int a5]) f_67_69 (Nat.le_of_ble_eq_true rfl) rfl ?_
      refine e_aload f_67_70 rfl (by decide) ?_
      refine e_gr (c := 5) (j := 2) (r := 12) f_67_71 (by decide) (by decide) (by decide) (by decide) ?_
      refine e_lload f_67_74 rfl ?_
      obtain ⟨P2, hP2, hV⟩ := hV
      refine e_sv (n := 2) (A := [.ref 12, .long ((a3 * 16807) - (a3 * 16807) / 2147483647 * 2147483647)]) (R := []) f_67_75 na_68 rfl rfl (Nat.le_of_ble_eq_true rfl) (Nat.le_of_ble_eq_true rfl) (by rw [ml_68]; exact Nat.le_of_ble_eq_true rfl) hP2 (fun S2 hp2 => ?_)
      have hV := hV S2 hp2
      refine e_inc (c := 1) (L' := [.ref 8, .int a1, .int a2, .long ((a3 * 16807) - (a3 * 16807) / 2147483647 * 2147483647), .null, .int (a5 + 1)]) f_67_78 rfl (by decide) rfl ?_
      refine e_goto f_67_81 ?_
      exact hV
set_option maxRecDepth 20000 in
theorem T_68_0 {xs : List Int32} {d : Nat} {S : x_M} {Q : Option Value → x_M → Prop} {a0 : Nat} {a1 : Int64} (ha0 : x_tg a0 = 0) (hV : ∃ P1 : Int32 → x_M → Prop, x_Ci xs d 11 [.ref a0] S P1 ∧ ∀ (v1 : Int32) (S1 : x_M), P1 v1 S1 → (∃ P2 : Int32 → x_M → Prop, x_Ci xs d 179 [.int v1] S1 P2 ∧ ∀ (v2 : Int32) (S2 : x_M), P2 v2 S2 → (if v2 = 0 then (Q none S2) else ((¬ (Int32.toInt64 (8 * v2)) = 0) ∧ (∃ P3 : Int32 → x_M → Prop, x_Ci xs d 11 [.ref a0] S2 P3 ∧ ∀ (v3 : Int32) (S3 : x_M), P3 v3 S3 → (∃ P4 : Int32 → x_M → Prop, x_Ci xs d 69 [.int v3, .int ((Int64.toInt32 (a1 - a1 / (Int32.toInt64 (8 * v2)) * (Int32.toInt64 (8 * v2)))) / 8)] S3 P4 ∧ ∀ (v4 : Int32) (S4 : x_M), P4 v4 S4 → (∃ P5 : Int32 → x_M → Prop, x_Ci xs d 12 [.ref a0, .int v4, .int ((Int64.toInt32 (a1 - a1 / (Int32.toInt64 (8 * v2)) * (Int32.toInt64 (8 * v2)))) - (Int64.toInt32 (a1 - a1 / (Int32.toInt64 (8 * v2)) * (Int32.toInt64 (8 * v2)))) / 8 * 8)] S4 P5 ∧ ∀ (v5 : Int32) (S5 : x_M), P5 v5 S5 → (Q none S5)))))))) : x_E xs (d + 1) 68 0 [.ref a0, .long a1, .null, .null, .null] [] S Q := by
  refine e_aload f_68_0 rfl (x_n7 ha0 (by decide)) ?_
  obtain ⟨P1, hP1, hV⟩ := hV
  refine e_vi (n := 1) (A := [.ref a0]) (R := []) f_68_1 na_11 rfl rfl (Nat.le_of_ble_eq_true rfl) (Nat.le_of_ble_eq_true rfl) (by rw [ml_11]; exact Nat.le_of_ble_eq_true rfl) rfl (by rw [cy_11]; decide) (by rw [cy_11]; exact ha0) hP1 (fun v1 S1 hp1 => ?_)
  have hV := hV v1 S1 hp1
  obtain ⟨P2, hP2, hV⟩ := hV
  refine e_si (n := 1) (A := [.int v1]) (R := []) f_68_4 na_179 rfl rfl (Nat.le_of_ble_eq_true rfl) (Nat.le_of_ble_eq_true rfl) (by rw [ml_179]; exact Nat.le_of_ble_eq_true rfl) hP2 (fun v2 S2 hp2 => ?_)
  have hV := hV v2 S2 hp2
  refine e_istore (L' := [.ref a0, .long a1, .null, .int v2, .null]) f_68_7 (Nat.le_of_ble_eq_true rfl) rfl ?_
  refine e_iload f_68_8 rfl ?_
  refine e_if f_68_9 (fun hc => ?_) (fun hc => ?_)
  · have hc : ¬ v2 = 0 := of_decide_eq_true hc
    rw [if_neg hc] at hV
    refine e_lload f_68_13 rfl ?_
    refine e_iconst (c := 8) f_68_14 (by decide) ?_
    refine e_iload f_68_16 rfl ?_
    refine e_imul f_68_17 ?_
    refine e_i2l f_68_18 ?_
    obtain ⟨hg, hV⟩ := hV
    refine e_lrem f_68_19 hg ?_
    refine e_l2i f_68_20 ?_
    refine e_istore (L' := [.ref a0, .long a1, .null, .int v2, .int (Int64.toInt32 (a1 - a1 / (Int32.toInt64 (8 * v2)) * (Int32.toInt64 (8 * v2))))]) f_68_21 (Nat.le_of_ble_eq_true rfl) rfl ?_
    refine e_aload f_68_23 rfl (x_n7 ha0 (by decide)) ?_
    refine e_aload f_68_24 rfl (x_n7 ha0 (by decide)) ?_
    obtain ⟨P3, hP3, hV⟩ := hV
    refine e_vi (n := 1) (A := [.ref a0]) (R := [.ref a0]) f_68_25 na_11 rfl rfl (Nat.le_of_ble_eq_true rfl) (Nat.le_of_ble_eq_true rfl) (by rw [ml_11]; exact Nat.le_of_ble_eq_true rfl) rfl (by rw [cy_11]; decide) (by rw [cy_11]; exact ha0) hP3 (fun v3 S3 hp3 => ?_)
    have hV := hV v3 S3 hp3
    refine e_iload f_68_28 rfl ?_
    refine e_iconst (c := 8) f_68_30 (by decide) ?_
    refine e_idiv f_68_32 (by decide) ?_
    obtain ⟨P4, hP4, hV⟩ := hV
    refine e_si (n := 2) (A := [.int v3, .int ((Int64.toInt32 (a1 - a1 / (Int32.toInt64 (8 * v2)) * (Int32.toInt64 (8 * v2)))) / 8)]) (R := [.ref a0]) f_68_33 na_69 rfl rfl (Nat.le_of_ble_eq_true rfl) (Nat.le_of_ble_eq_true rfl) (by rw [ml_69]; exact Nat.le_of_ble_eq_true rfl) hP4 (fun v4 S4 hp4 => ?_)
    have hV := hV v4 S4 hp4
    refine e_iload f_68_36 rfl ?_
    refine e_iconst (c := 8) f_68_38 (by decide) ?_
    refine e_irem f_68_40 (by decide) ?_
    obtain ⟨P5, hP5, hV⟩ := hV
    refine e_vi (n := 3) (A := [.ref a0, .int v4, .int ((Int64.toInt32 (a1 - a1 / (Int32.toInt64 (8 * v2)) * (Int32.toInt64 (8 * v2)))) - (Int64.toInt32 (a1 - a1 / (Int32.toInt64 (8 * v2)) * (Int32.toInt64 (8 * v2)))) / 8 * 8)]) (R := []) f_68_41 na_12 rfl rfl (Nat.le_of_ble_eq_true rfl) (Nat.le_of_ble_eq_true rfl) (by rw [ml_12]; exact Nat.le_of_ble_eq_true rfl) rfl (by rw [cy_12]; decide) (by rw [cy_12]; exact ha0) hP5 (fun v5 S5 hp5 => ?_)
    have hV := hV v5 S5 hp5
    refine e_pop f_68_44 rfl ?_
    exact e_return f_68_45 rt_68 hV
  · have hc : v2 = 0 := Decidable.not_not.mp (fun z => hc (decide_eq_true z))
    rw [if_pos hc] at hV
    exact e_return f_68_12 rt_68 hV
