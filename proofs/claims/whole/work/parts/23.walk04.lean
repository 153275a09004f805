set_option maxRecDepth 20000 in
theorem T_78_25 {xs : List Int32} {d : Nat} {S : x_M} {Q : Option Value → x_M → Prop} {a1 : Int32} {a2 : Int32} {a3 : Int32} {a4 : Value} {a5 : Value}  (hV : if (S 12 5) ≤ a3 then (if a1 = (-1) then (Q (some (.int a2)) S) else (Q (some (.int (-1000000))) S)) else (x_E xs (d + 1) 78 41 [.ref 8, .int a1, .int a2, .int a3, .int (a3 + 1), a5] [] S Q)) : x_E xs (d + 1) 78 25 [.ref 8, .int a1, .int a2, .int a3, a4, a5] [] S Q := by
  refine e_iload f_78_25 rfl ?_
  refine e_aload f_78_26 rfl (by decide) ?_
  refine e_gr (c := 5) (j := 2) (r := 12) f_78_27 (by decide) (by decide) (by decide) (by decide) ?_
  refine e_gf (c := 0) (j := 5) f_78_30 (by decide) (by decide) (by decide) ?_
  refine e_icmp f_78_33 (fun hc => ?_) (fun hc => ?_)
  · have hc : (S 12 5) ≤ a3 := of_decide_eq_true hc
    rw [if_pos hc] at hV
    refine e_iload f_78_130 rfl ?_
    refine e_iconst (c := (-1)) f_78_131 (by decide) ?_
    refine e_icmp f_78_132 (fun hc => ?_) (fun hc => ?_)
    · have hc : ¬ a1 = (-1) := of_decide_eq_true hc
      rw [if_neg hc] at hV
      refine e_iconst (c := (-1000000)) f_78_139 (by decide) ?_
      exact e_ireturn f_78_141 rt_78 rfl hV
    · have hc : a1 = (-1) := Decidable.not_not.mp (fun z => hc (decide_eq_true z))
      rw [if_pos hc] at hV
      refine e_iload f_78_135 rfl ?_
      refine e_goto f_78_136 ?_
      exact e_ireturn f_78_141 rt_78 rfl hV
  · have hc : ¬ (S 12 5) ≤ a3 := fun z => hc (decide_eq_true z)
    rw [if_neg hc] at hV
    refine e_iload f_78_36 rfl ?_
    refine e_iconst (c := 1) f_78_37 (by decide) ?_
    refine e_iadd f_78_38 ?_
    refine e_istore (L' := [.ref 8, .int a1, .int a2, .int a3, .int (a3 + 1), a5]) f_78_39 (Nat.le_of_ble_eq_true rfl) rfl ?_
    exact hV
set_option maxRecDepth 20000 in
theorem T_78_41 {xs : List Int32} {d : Nat} {S : x_M} {Q : Option Value → x_M → Prop} {a1 : Int32} {a2 : Int32} {a3 : Int32} {a4 : Int32} {a5 : Value}  (hV : if (S 12 5) ≤ a4 then (x_E xs (d + 1) 78 25 [.ref 8, .int a1, .int a2, .int (a3 + 1), .int a4, a5] [] S Q) else (x_E xs (d + 1) 78 59 [.ref 8, .int a1, .int a2, .int a3, .int a4, .int (a4 + 1)] [] S Q)) : x_E xs (d + 1) 78 41 [.ref 8, .int a1, .int a2, .int a3, .int a4, a5] [] S Q := by
  refine e_iload f_78_41 rfl ?_
  refine e_aload f_78_43 rfl (by decide) ?_
  refine e_gr (c := 5) (j := 2) (r := 12) f_78_44 (by decide) (by decide) (by decide) (by decide) ?_
  refine e_gf (c := 0) (j := 5) f_78_47 (by decide) (by decide) (by decide) ?_
  refine e_icmp f_78_50 (fun hc => ?_) (fun hc => ?_)
  · have hc : (S 12 5) ≤ a4 := of_decide_eq_true hc
    rw [if_pos hc] at hV
    refine e_inc (c := 1) (L' := [.ref 8, .int a1, .int a2, .int (a3 + 1), .int a4, a5]) f_78_124 rfl (by decide) rfl ?_
    refine e_goto f_78_127 ?_
    exact hV
  · have hc : ¬ (S 12 5) ≤ a4 := fun z => hc (decide_eq_true z)
    rw [if_neg hc] at hV
    refine e_iload f_78_53 rfl ?_
    refine e_iconst (c := 1) f_78_55 (by decide) ?_
    refine e_iadd f_78_56 ?_
    refine e_istore (L' := [.ref 8, .int a1, .int a2, .int a3, .int a4, .int (a4 + 1)]) f_78_57 (Nat.le_of_ble_eq_true rfl) rfl ?_
    exact hV
set_option maxRecDepth 20000 in
theorem T_78_59 {xs : List Int32} {d : Nat} {S : x_M} {Q : Option Value → x_M → Prop} {a1 : Int32} {a2 : Int32} {a3 : Int32} {a4 : Int32} {a5 : Int32}  (hV : if (S 12 5) ≤ a5 then (x_E xs (d + 1) 78 41 [.ref 8, .int a1, .int a2, .int a3, .int (a4 + 1), .int a5] [] S Q) else (∃ P1 : Int32 → x_M → Prop, x_Ci xs d 79 [.ref 12, .int a3, .int a4, .int a5] S P1 ∧ ∀ (v1 : Int32) (S1 : x_M), P1 v1 S1 → (if v1 = 0 then (x_E xs (d + 1) 78 59 [.ref 8, .int a1, .int a2, .int a3, .int a4, .int (a5 + 1)] [] S1 Q) else (if a2 = a1 then (Q (some (.int (((400 * a3) + (20 * a4)) + a5))) S1) else (x_E xs (d + 1) 78 59 [.ref 8, .int a1, .int (a2 + 1), .int a3, .int a4, .int (a5 + 1)] [] S1 Q))))) : x_E xs (d + 1) 78 59 [.ref 8, .int a1, .int a2, .int a3, .int a4, .int a5] [] S Q := by
  refine e_iload f_78_59 rfl ?_
  refine e_aload f_78_61 rfl (by decide) ?_
  refine e_gr (c := 5) (j := 2) (r := 12) f_78_62 (by decide) (by decide) (by decide) (by decide) ?_
  refine e_gf (c := 0) (j := 5) f_78_65 (by decide) (by decide) (by decide) ?_
  refine e_icmp f_78_68 (fun hc => ?_) (fun hc => ?_)
  · have hc : (S 12 5) ≤ a5 := of_decide_eq_true hc
    rw [if_pos hc] at hV
    refine e_inc (c := 1) (L' := [.ref 8, .int a1, .int a2, .int a3, .int (a4 + 1), .int a5]) f_78_118 rfl (by decide) rfl ?_
    refine e_goto f_78_121 ?_
    exact hV
  · have hc : ¬ (S 12 5) ≤ a5 := fun z => hc (decide_eq_true z)
    rw [if_neg hc] at hV
    refine e_aload f_78_71 rfl (by decide) ?_
    refine e_gr (c := 5) (j := 2) (r := 12) f_78_72 (by decide) (by decide) (by decide) (by decide) ?_
    refine e_iload f_78_75 rfl ?_
    refine e_iload f_78_76 rfl ?_
    refine e_iload f_78_78 rfl ?_
    obtain ⟨P1, hP1, hV⟩ := hV
    refine e_si (n := 4) (A := [.ref 12, .int a3, .int a4, .int a5]) (R := []) f_78_80 na_79 rfl rfl (Nat.le_of_ble_eq_true rfl) (Nat.le_of_ble_eq_true rfl) (by rw [ml_79]; exact Nat.le_of_ble_eq_true rfl) hP1 (fun v1 S1 hp1 => ?_)
    have hV := hV v1 S1 hp1
    refine e_if f_78_83 (fun hc => ?_) (fun hc => ?_)
    · have hc : ¬ v1 = 0 := of_decide_eq_true hc
      rw [if_neg hc] at hV
      refine e_iload f_78_89 rfl ?_
      refine e_iload f_78_90 rfl ?_
      refine e_icmp f_78_91 (fun hc => ?_) (fun hc => ?_)
      · have hc : ¬ a2 = a1 := of_decide_eq_true hc
        rw [if_neg hc] at hV
        refine e_inc (c := 1) (L' := [.ref 8, .int a1, .int (a2 + 1), .int a3, .int a4, .int a5]) f_78_109 rfl (by decide) rfl ?_
        refine e_inc (c := 1) (L' := [.ref 8, .int a1, .int (a2 + 1), .int a3, .int a4, .int (a5 + 1)]) f_78_112 rfl (by decide) rfl ?_
        refine e_goto f_78_115 ?_
        exact hV
      · have hc : a2 = a1 := Decidable.not_not.mp (fun z => hc (decide_eq_true z))
        rw [if_pos hc] at hV
        refine e_iconst (c := 400) f_78_94 (by decide) ?_
        refine e_iload f_78_97 rfl ?_
        refine e_imul f_78_98 ?_
        refine e_iconst (c := 20) f_78_99 (by decide) ?_
        refine e_iload f_78_101 rfl ?_
        refine e_imul f_78_103 ?_
        refine e_iadd f_78_104 ?_
        refine e_iload f_78_105 rfl ?_
        refine e_iadd f_78_107 ?_
        exact e_ireturn f_78_108 rt_78 rfl hV
    · have hc : v1 = 0 := Decidable.not_not.mp (fun z => hc (decide_eq_true z))
      rw [if_pos hc] at hV
      refine e_goto f_78_86 ?_
      refine e_inc (c := 1) (L' := [.ref 8, .int a1, .int a2, .int a3, .int a4, .int (a5 + 1)]) f_78_112 rfl (by decide) rfl ?_
      refine e_goto f_78_115 ?_
      exact hV
set_option maxRecDepth 20000 in
theorem T_79_0 {xs : List Int32} {d : Nat} {S : x_M} {Q : Option Value → x_M → Prop} {a0 : Nat} {a1 : Int32} {a2 : Int32} {a3 : Int32} (ha0 : x_tg a0 = 0) (hV : x_E xs (d + 1) 79 3 [.ref a0, .int a1, .int a2, .int a3, .int 0, .null, .null] [] S Q) : x_E xs (d + 1) 79 0 [.ref a0, .int a1, .int a2, .int a3, .null, .null, .null] [] S Q := by
  refine e_iconst (c := 0) f_79_0 (by decide) ?_
  refine e_istore (L' := [.ref a0, .int a1, .int a2, .int a3, .int 0, .null, .null]) f_79_1 (Nat.le_of_ble_eq_true rfl) rfl ?_
  exact hV
set_option maxRecDepth 20000 in
theorem T_79_3 {xs : List Int32} {d : Nat} {S : x_M} {Q : Option Value → x_M → Prop} {a0 : Nat} {a1 : Int32} {a2 : Int32} {a3 : Int32} {a4 : Int32} {a5 : Value} {a6 : Value} (ha0 : x_tg a0 = 0) (hV : if (8 : Int32) ≤ a4 then (Q (some (.int 0)) S) else (∃ P1 : Int32 → x_M → Prop, x_Ci xs d 8 [.ref a0, .int a1, .int 0] S P1 ∧ ∀ (v1 : Int32) (S1 : x_M), P1 v1 S1 → (∃ P2 : Int32 → x_M → Prop, x_Ci xs d 8 [.ref a0, .int a2, .int a4] S1 P2 ∧ ∀ (v2 : Int32) (S2 : x_M), P2 v2 S2 → (x_E xs (d + 1) 79 29 [.ref a0, .int a1, .int a2, .int a3, .int a4, .int (v1 &&& v2), .int 0] [] S2 Q)))) : x_E xs (d + 1) 79 3 [.ref a0, .int a1, .int a2, .int a3, .int a4, a5, a6] [] S Q := by
  refine e_iload f_79_3 rfl ?_
  refine e_iconst (c := 8) f_79_5 (by decide) ?_
  refine e_icmp f_79_7 (fun hc => ?_) (fun hc => ?_)
  · have hc : (8 : Int32) ≤ a4 := of_decide_eq_true hc
    rw [if_pos hc] at hV
    refine e_iconst (c := 0) f_79_63 (by decide) ?_
    exact e_ireturn f_79_64 rt_79 (by decide) hV
  · have hc : ¬ (8 : Int32) ≤ a4 := fun z => hc (decide_eq_true z)
    rw [if_neg hc] at hV
    refine e_aload f_79_10 rfl (x_n7 ha0 (by decide)) ?_
    refine e_iload f_79_11 rfl ?_
    refine e_iconst (c := 0) f_79_12 (by decide) ?_
    obtain ⟨P1, hP1, hV⟩ := hV
    refine e_vi (n := 3) (A := [.ref a0, .int a1, .int 0]) (R := []) f_79_13 na_8 rfl rfl (Nat.le_of_ble_eq_true rfl) (Nat.le_of_ble_eq_true rfl) (by rw [ml_8]; exact Nat.le_of_ble_eq_true rfl) rfl (by rw [cy_8]; decide) (by rw [cy_8]; exact ha0) hP1 (fun v1 S1 hp1 => ?_)
    have hV := hV v1 S1 hp1
    refine e_aload f_79_16 rfl (x_n7 ha0 (by decide)) ?_
    refine e_iload f_79_17 rfl ?_
    refine e_iload f_79_18 rfl ?_
    obtain ⟨P2, hP2, hV⟩ := hV
    refine e_vi (n := 3) (A := [.ref a0, .int a2, .int a4]) (R := [.int v1]) f_79_20 na_8 rfl rfl (Nat.le_of_ble_eq_true rfl) (Nat.le_of_ble_eq_true rfl) (by rw [ml_8]; exact Nat.le_of_ble_eq_true rfl) rfl (by rw [cy_8]; decide) (by rw [cy_8]; exact ha0) hP2 (fun v2 S2 hp2 => ?_)
    have hV := hV v2 S2 hp2
    refine e_iand f_79_23 ?_
    refine e_istore (L' := [.ref a0, .int a1, .int a2, .int a3, .int a4, .int (v1 &&& v2), a6]) f_79_24 (Nat.le_of_ble_eq_true rfl) rfl ?_
    refine e_iconst (c := 0) f_79_26 (by decide) ?_
    refine e_istore (L' := [.ref a0, .int a1, .int a2, .int a3, .int a4, .int (v1 &&& v2), .int 0]) f_79_27 (Nat.le_of_ble_eq_true rfl) rfl ?_
    exact hV
set_option maxRecDepth 20000 in
theorem T_79_29 {xs : List Int32} {d : Nat} {S : x_M} {Q : Option Value → x_M → Prop} {a0 : Nat} {a1 : Int32} {a2 : Int32} {a3 : Int32} {a4 : Int32} {a5 : Int32} {a6 : Int32} (ha0 : x_tg a0 = 0) (hV : if (8 : Int32) ≤ a6 then (x_E xs (d + 1) 79 3 [.ref a0, .int a1, .int a2, .int a3, .int (a4 + 1), .int a5, .int a6] [] S Q) else (∃ P1 : Int32 → x_M → Prop, x_Ci xs d 8 [.ref a0, .int a3, .int a6] S P1 ∧ ∀ (v1 : Int32) (S1 : x_M), P1 v1 S1 → (if (a5 &&& v1) = 0 then (Q (some (.int 1)) S1) else (x_E xs (d + 1) 79 29 [.ref a0, .int a1, .int a2, .int a3, .int a4, .int a5, .int (a6 + 1)] [] S1 Q)))) : x_E xs (d + 1) 79 29 [.ref a0, .int a1, .int a2, .int a3, .int a4, .int a5, .int a6] [] S Q := by
  refine e_iload f_79_29 rfl ?_
  refine e_iconst (c := 8) f_79_31 (by decide) ?_
  refine e_icmp f_79_33 (fun hc => ?_) (fun hc => ?_)
  · have hc : (8 : Int32) ≤ a6 := of_decide_eq_true hc
    rw [if_pos hc] at hV
    refine e_inc (c := 1) (L' := [.ref a0, .int a1, .int a2, .int a3, .int (a4 + 1), .int a5, .int a6]) f_79_57 rfl (by decide) rfl ?_
    refine e_goto f_79_60 ?_
    exact hV
  · have hc : ¬ (8 : Int32) ≤ a6 := fun z => hc (decide_eq_true z)
    rw [if_neg hc] at hV
    refine e_iload f_79_36 rfl ?_
    refine e_aload f_79_38 rfl (x_n7 ha0 (by decide)) ?_
    refine e_iload f_79_39 rfl ?_
    refine e_iload f_79_40 rfl ?_
    obtain ⟨P1, hP1, hV⟩ := hV
    refine e_vi (n := 3) (A := [.ref a0, .int a3, .int a6]) (R := [.int a5]) f_79_42 na_8 rfl rfl (Nat.le_of_ble_eq_true rfl) (Nat.le_of_ble_eq_true rfl) (by rw [ml_8]; exact Nat.le_of_ble_eq_true rfl) rfl (by rw [cy_8]; decide) (by rw [cy_8]; exact ha0) hP1 (fun v1 S1 hp1 => ?_)
    have hV := hV v1 S1 hp1
    refine e_iand f_79_45 ?_
    refine e_if f_79_46 (fun hc => ?_) (fun hc => ?_)
    · have hc : ¬ (a5 &&& v1) = 0 := of_decide_eq_true hc
      rw [if_neg hc] at hV
      refine e_inc (c := 1) (L' := [.ref a0, .int a1, .int a2, .int a3, .int a4, .int a5, .int (a6 + 1)]) f_79_51 rfl (by decide) rfl ?_
      refine e_goto f_79_54 ?_
      exact hV
    · have hc : (a5 &&& v1) = 0 := Decidable.not_not.mp (fun z => hc (decide_eq_true z))
      rw [if_pos hc] at hV
      refine e_iconst (c := 1) f_79_49 (by decide) ?_
      exact e_ireturn f_79_50 rt_79 (by decide) hV
set_option maxRecDepth 20000 in
theorem T_80_0 {xs : List Int32} {d : Nat} {S : x_M} {Q : Option Value → x_M → Prop} {a1 : Int32} {a2 : Int32}  (hV : ∃ P1 : Int32 → x_M → Prop, x_Ci xs d 60 [.ref 8, .int a1] S P1 ∧ ∀ (v1 : Int32) (S1 : x_M), P1 v1 S1 → (if v1 = 0 then (Q (some (.int (-1000001))) S1) else (if a2 < 0 then (Q (some (.int (-1000001))) S1) else (if a2 ≤ 1 then (if a2 = 0 then (∃ P3 : Int32 → x_M → Prop, x_Ci xs d 81 [.ref 12, .int a1] S1 P3 ∧ ∀ (v3 : Int32) (S3 : x_M), P3 v3 S3 → (Q (some (.int v3)) S3)) else (∃ P2 : Int32 → x_M → Prop, x_Ci xs d 15 [.ref 12, .int a1] S1 P2 ∧ ∀ (v2 : Int32) (S2 : x_M), P2 v2 S2 → (Q (some (.int v2)) S2))) else (Q (some (.int (-1000001))) S1))))) : x_E xs (d + 1) 80 0 [.ref 8, .int a1, .int a2] [] S Q := by
  refine e_aload f_80_0 rfl (by decide) ?_
  refine e_iload f_80_1 rfl ?_
  obtain ⟨P1, hP1, hV⟩ := hV
  refine e_vi (n := 2) (A := [.ref 8, .int a1]) (R := []) f_80_2 na_60 rfl rfl (Nat.le_of_ble_eq_true rfl) (Nat.le_of_ble_eq_true rfl) (by rw [ml_60]; exact Nat.le_of_ble_eq_true rfl) rfl (by rw [cy_60]; decide) (by rw [cy_60]; exact (by decide : x_tg 8 = 5)) hP1 (fun v1 S1 hp1 => ?_)
  have hV := hV v1 S1 hp1
  refine e_if f_80_5 (fun hc => ?_) (fun hc => ?_)
  · have hc : v1 = 0 := of_decide_eq_true hc
    rw [if_pos hc] at hV
    refine e_iconst (c := (-1000001)) f_80_17 (by decide) ?_
    exact e_ireturn f_80_19 rt_80 rfl hV
  · have hc : ¬ v1 = 0 := fun z => hc (decide_eq_true z)
    rw [if_neg hc] at hV
    refine e_iload f_80_8 rfl ?_
    refine e_if f_80_9 (fun hc => ?_) (fun hc => ?_)
    · have hc : a2 < 0 := of_decide_eq_true hc
      rw [if_pos hc] at hV
      refine e_iconst (c := (-1000001)) f_80_17 (by decide) ?_
      exact e_ireturn f_80_19 rt_80 rfl hV
    · have hc : ¬ a2 < 0 := fun z => hc (decide_eq_true z)
      rw [if_neg hc] at hV
      refine e_iload f_80_12 rfl ?_
      refine e_iconst (c := 1) f_80_13 (by decide) ?_
      refine e_icmp f_80_14 (fun hc => ?_) (fun hc => ?_)
      · have hc : a2 ≤ 1 := of_decide_eq_true hc
        rw [if_pos hc] at hV
        refine e_iload f_80_20 rfl ?_
        refine e_if f_80_21 (fun hc => ?_) (fun hc => ?_)
        · have hc : ¬ a2 = 0 := of_decide_eq_true hc
          rw [if_neg hc] at hV
          refine e_aload f_80_35 rfl (by decide) ?_
          refine e_gr (c := 5) (j := 2) (r := 12) f_80_36 (by decide) (by decide) (by decide) (by decide) ?_
          refine e_iload f_80_39 rfl ?_
          obtain ⟨P2, hP2, hV⟩ := hV
          refine e_vi (n := 2) (A := [.ref 12, .int a1]) (R := []) f_80_40 na_15 rfl rfl (Nat.le_of_ble_eq_true rfl) (Nat.le_of_ble_eq_true rfl) (by rw [ml_15]; exact Nat.le_of_ble_eq_true rfl) rfl (by rw [cy_15]; decide) (by rw [cy_15]; exact (by decide : x_tg 12 = 0)) hP2 (fun v2 S2 hp2 => ?_)
          have hV := hV v2 S2 hp2
          exact e_ireturn f_80_43 rt_80 rfl hV
        · have hc : a2 = 0 := Decidable.not_not.mp (fun z => hc (decide_eq_true z))
          rw [if_pos hc] at hV
          refine e_aload f_80_24 rfl (by decide) ?_
          refine e_gr (c := 5) (j := 2) (r := 12) f_80_25 (by decide) (by decide) (by decide) (by decide) ?_
          refine e_iload f_80_28 rfl ?_
          obtain ⟨P3, hP3, hV⟩ := hV
          refine e_si (n := 2) (A := [.ref 12, .int a1]) (R := []) f_80_29 na_81 rfl rfl (Nat.le_of_ble_eq_true rfl) (Nat.le_of_ble_eq_true rfl) (by rw [ml_81]; exact Nat.le_of_ble_eq_true rfl) hP3 (fun v3 S3 hp3 => ?_)
          have hV := hV v3 S3 hp3
          refine e_goto f_80_32 ?_
          exact e_ireturn f_80_43 rt_80 rfl hV
      · have hc : ¬ a2 ≤ 1 := fun z => hc (decide_eq_true z)
        rw [if_neg hc] at hV
        refine e_iconst (c := (-1000001)) f_80_17 (by decide) ?_
        exact e_ireturn f_80_19 rt_80 rfl hV
set_option maxRecDepth 20000 in
theorem T_81_0 {xs : List Int32} {d : Nat} {S : x_M} {Q : Option Value → x_M → Prop} {a0 : Nat} {a1 : Int32} (ha0 : x_tg a0 = 0) (hV : ∃ P1 : Int32 → x_M → Prop, x_Ci xs d 82 [.ref a0, .int a1] S P1 ∧ ∀ (v1 : Int32) (S1 : x_M), P1 v1 S1 → (x_E xs (d + 1) 81 11 [.ref a0, .int a1, .int v1, .int 0, .int 0] [] S1 Q)) : x_E xs (d + 1) 81 0 [.ref a0, .int a1, .null, .null, .null] [] S Q := by
  refine e_aload f_81_0 rfl (x_n7 ha0 (by decide)) ?_
  refine e_iload f_81_1 rfl ?_
  obtain ⟨P1, hP1, hV⟩ := hV
  refine e_si (n := 2) (A := [.ref a0, .int a1]) (R := []) f_81_2 na_82 rfl rfl (Nat.le_of_ble_eq_true rfl) (Nat.le_of_ble_eq_true rfl) (by rw [ml_82]; exact Nat.le_of_ble_eq_true rfl) hP1 (fun v1 S1 hp1 => ?_)
  have hV := hV v1 S1 hp1
  refine e_istore (L' := [.ref a0, .int a1, .int v1, .null, .null]) f_81_5 (Nat.le_of_ble_eq_true rfl) rfl ?_
  refine e_iconst (c := 0) f_81_6 (by decide) ?_
  refine e_istore (L' := [.ref a0, .int a1, .int v1, .int 0, .null]) f_81_7 (Nat.le_of_ble_eq_true rfl) rfl ?_
  refine e_iconst (c := 0) f_81_8 (by decide) ?_
  refine e_istore (L' := [.ref a0, .int a1, .int v1, .int 0, .int 0]) f_81_9 (Nat.le_of_ble_eq_true rfl) rfl ?_
  exact hV
set_option maxRecDepth 20000 in
theorem T_81_11 {xs : List Int32} {d : Nat} {S : x_M} {Q : Option Value → x_M → Prop} {a0 : Nat} {a1 : Int32} {a2 : Int32} {a3 : Int32} {a4 : Int32} (ha0 : x_tg a0 = 0) (hV : if a2 ≤ a4 then (Q (some (.int a3)) S) else (∃ P1 : Int32 → x_M → Prop, x_Ci xs d 82 [.ref a0, .int a4] S P1 ∧ ∀ (v1 : Int32) (S1 : x_M), P1 v1 S1 → (if v1 = a4 then (x_E xs (d + 1) 81 11 [.ref a0, .int a1, .int a2, .int (a3 + 1), .int (a4 + 1)] [] S1 Q) else (x_E xs (d + 1) 81 11 [.ref a0, .int a1, .int a2, .int a3, .int (a4 + 1)] [] S1 Q)))) : x_E xs (d + 1) 81 11 [.ref a0, .int a1, .int a2, .int a3, .int a4] [] S Q := by
  refine e_iload f_81_11 rfl ?_
  refine e_iload f_81_13 rfl ?_
  refine e_icmp f_81_14 (fun hc => ?_) (fun hc => ?_)
  · have hc : a2 ≤ a4 := of_decide_eq_true hc
    rw [if_pos hc] at hV
    refine e_iload f_81_37 rfl ?_
    exact e_ireturn f_81_38 rt_81 rfl hV
  · have hc : ¬ a2 ≤ a4 := fun z => hc (decide_eq_true z)
    rw [if_neg hc] at hV
    refine e_aload f_81_17 rfl (x_n7 ha0 (by decide)) ?_
    refine e_iload f_81_18 rfl ?_
    obtain ⟨P1, hP1, hV⟩ := hV
    refine e_si (n := 2) (A := [.ref a0, .int a4]) (R := []) f_81_20 na_82 rfl rfl (Nat.le_of_ble_eq_true rfl) (Nat.le_of_ble_eq_true rfl) (by rw [ml_82]; exact Nat.le_of_ble_eq_true rfl) hP1 (fun v1 S1 hp1 => ?_)
    have hV := hV v1 S1 hp1
    refine e_iload f_81_23 rfl ?_
    refine e_icmp f_81_25 (fun hc => ?_) (fun hc => ?_)
    · have hc : ¬ v1 = a4 := of_decide_eq_true hc
      rw [if_neg hc] at hV
      refine e_inc (c := 1) (L' := [.ref a0, .int a1, .int a2, .int a3, .int (a4 + 1)]) f_81_31 rfl (by decide) rfl ?_
      refine e_goto f_81_34 ?_
      exact hV
    · have hc : v1 = a4 := Decidable.not_not.mp (fun z => hc (decide_eq_true z))
      rw [if_pos hc] at hV
      refine e_inc (c := 1) (L' := [.ref a0, .int a1, .int a2, .int (a3 + 1), .int a4]) f_81_28 rfl (by decide) rfl ?_
      refine e_inc (c := 1) (L' := [.ref a0, .int a1, .int a2, .int (a3 + 1), .int (a4 + 1)]) f_81_31 rfl (by decide) rfl ?_
      refine e_goto f_81_34 ?_
      exact hV
set_option maxRecDepth 20000 in
theorem T_82_0 {xs : List Int32} {d : Nat} {S : x_M} {Q : Option Value → x_M → Prop} {a0 : Nat} {a1 : Int32} (ha0 : x_tg a0 = 0) (hV : x_E xs (d + 1) 82 2 [.ref a0, .int a1, .int 0, .null] [] S Q) : x_E xs (d + 1) 82 0 [.ref a0, .int a1, .null, .null] [] S Q := by
  refine e_iconst (c := 0) f_82_0 (by decide) ?_
  refine e_istore (L' := [.ref a0, .int a1, .int 0, .null]) f_82_1 (Nat.le_of_ble_eq_true rfl) rfl ?_
  exact hV
set_option maxRecDepth 20000 in
theorem T_82_2 {xs : List Int32} {d : Nat} {S : x_M} {Q : Option Value → x_M → Prop} {a0 : Nat} {a1 : Int32} {a2 : Int32} {a3 : Value} (ha0 : x_tg a0 = 0) (hV : if a1 ≤ a2 then (Q (some (.int a1)) S) else (x_E xs (d + 1) 82 9 [.ref a0, .int a1, .int a2, .int 0] [] S Q)) : x_E xs (d + 1) 82 2 [.ref a0, .int a1, .int a2, a3] [] S Q := by
  refine e_iload f_82_2 rfl ?_
  refine e_iload f_82_3 rfl ?_
  refine e_icmp f_82_4 (fun hc => ?_) (fun hc => ?_)
  · have hc : a1 ≤ a2 := of_decide_eq_true hc
    rw [if_pos hc] at hV
    refine e_iload f_82_44 rfl ?_
    exact e_ireturn f_82_45 rt_82 rfl hV
  · have hc : ¬ a1 ≤ a2 := fun z => hc (decide_eq_true z)
    rw [if_neg hc] at hV
    refine e_iconst (c := 0) f_82_7 (by decide) ?_
    refine e_istore (L' := [.ref a0, .int a1, .int a2, .int 0]) f_82_8 (Nat.le_of_ble_eq_true rfl) rfl ?_
    exact hV
set_option maxRecDepth 20000 in
theorem T_82_9 {xs : List Int32} {d : Nat} {S : x_M} {Q : Option Value → x_M → Prop} {a0 : Nat} {a1 : Int32} {a2 : Int32} {a3 : Int32} (ha0 : x_tg a0 = 0) (hV : if (8 : Int32) ≤ a3 then (x_E xs (d + 1) 82 2 [.ref a0, .int a1, .int (a2 + 1), .int a3] [] S Q) else (∃ P1 : Int32 → x_M → Prop, x_Ci xs d 8 [.ref a0, .int a2, .int a3] S P1 ∧ ∀ (v1 : Int32) (S1 : x_M), P1 v1 S1 → (∃ P2 : Int32 → x_M → Prop, x_Ci xs d 8 [.ref a0, .int a1, .int 0] S1 P2 ∧ ∀ (v2 : Int32) (S2 : x_M), P2 v2 S2 → (if v1 = v2 then (Q (some (.int a2)) S2) else (x_E xs (d + 1) 82 9 [.ref a0, .int a1, .int a2, .int (a3 + 1)] [] S2 Q))))) : x_E xs (d + 1) 82 9 [.ref a0, .int a1, .int a2, .int a3] [] S Q := by
  refine e_iload f_82_9 rfl ?_
  refine e_iconst (c := 8) f_82_10 (by decide) ?_
  refine e_icmp f_82_12 (fun hc => ?_) (fun hc => ?_)
  · have hc : (8 : Int32) ≤ a3 := of_decide_eq_true hc
    rw [if_pos hc] at hV
    refine e_inc (c := 1) (L' := [.ref a0, .int a1, .int (a2 + 1), .int a3]) f_82_38 rfl (by decide) rfl ?_
    refine e_goto f_82_41 ?_
    exact hV
  · have hc : ¬ (8 : Int32) ≤ a3 := fun z => hc (decide_eq_true z)
    rw [if_neg hc] at hV
    refine e_aload f_82_15 rfl (x_n7 ha0 (by decide)) ?_
    refine e_iload f_82_16 rfl ?_
    refine e_iload f_82_17 rfl ?_
    obtain ⟨P1, hP1, hV⟩ := hV
    refine e_vi (n := 3) (A := [.ref a0, .int a2, .int a3]) (R := []) f_82_18 na_8 rfl rfl (Nat.le_of_ble_eq_true rfl) (Nat.le_of_ble_eq_true rfl) (by rw [ml_8]; exact Nat.le_of_ble_eq_true rfl) rfl (by rw [cy_8]; decide) (by rw [cy_8]; exact ha0) hP1 (fun v1 S1 hp1 => ?_)
    have hV := hV v1 S1 hp1
    refine e_aload f_82_21 rfl (x_n7 ha0 (by decide)) ?_
    refine e_iload f_82_22 rfl ?_
    refine e_iconst (c := 0) f_82_23 (by decide) ?_
    obtain ⟨P2, hP2, hV⟩ := hV
    refine e_vi (n := 3) (A := [.ref a0, .int a1, .int 0]) (R := [.int v1]) f_82_24 na_8 rfl rfl (Nat.le_of_ble_eq_true rfl) (Nat.le_of_ble_eq_true rfl) (by rw [ml_8]; exact Nat.le_of_ble_eq_true rfl) rfl (by rw [cy_8]; decide) (by rw [cy_8]; exact ha0) hP2 (fun v2 S2 hp2 => ?_)
    have hV := hV v2 S2 hp2
    refine e_icmp f_82_27 (fun hc => ?_) (fun hc => ?_)
    · have hc : ¬ v1 = v2 := of_decide_eq_true hc
      rw [if_neg hc] at hV
      refine e_inc (c := 1) (L' := [.ref a0, .int a1, .int a2, .int (a3 + 1)]) f_82_32 rfl (by decide) rfl ?_
      refine e_goto f_82_35 ?_
      exact hV
    · have hc : v1 = v2 := Decidable.not_not.mp (fun z => hc (decide_eq_true z))
      rw [if_pos hc] at hV
      refine e_iload f_82_30 rfl ?_
      exact e_ireturn f_82_31 rt_82 rfl hV
set_option maxRecDepth 20000 in
theorem T_83_0 {xs : List Int32} {d : Nat} {S : x_M} {Q : Option Value → x_M → Prop} {a1 : Int32} {a2 : Int32} {a3 : Int32}  (hV : if (S 12 4) = 0 then (Q (some (.int (-1000002))) S) else (∃ P1 : Int32 → x_M → Prop, x_Ci xs d 62 [.int a1] S P1 ∧ ∀ (v1 : Int32) (S1 : x_M), P1 v1 S1 → (if v1 = 0 then (Q (some (.int (-1000001))) S1) else (∃ P2 : Int32 → x_M → Prop, x_Ci xs d 62 [.int a2] S1 P2 ∧ ∀ (v2 : Int32) (S2 : x_M), P2 v2 S2 → (if v2 = 0 then (Q (some (.int (-1000001))) S2) else (if a3 = (-1) then (if a3 = (-1) then (x_E xs (d + 1) 83 65 [.ref 8, .int a1, .int a2, .int a3, .int 0, .int 0] [] S2 Q) else (∃ P3 : Int32 → x_M → Prop, x_Ci xs d 84 [.ref 12, .int a1, .int a2, .int a3] S2 P3 ∧ ∀ (v3 : Int32) (S3 : x_M), P3 v3 S3 → (Q (some (.int v3)) S3))) else (∃ P4 : Int32 → x_M → Prop, x_Ci xs d 60 [.ref 8, .int a3] S2 P4 ∧ ∀ (v4 : Int32) (S4 : x_M), P4 v4 S4 → (if v4 = 0 then (Q (some (.int (-1000001))) S4) else (if a3 = (-1) then (x_E xs (d + 1) 83 65 [.ref 8, .int a1, .int a2, .int a3, .int 0, .int 0] [] S4 Q) else (∃ P5 : Int32 → x_M → Prop, x_Ci xs d 84 [.ref 12, .int a1, .int a2, .int a3] S4 P5 ∧ ∀ (v5 : Int32) (S5 : x_M), P5 v5 S5 → (Q (some (.int v5)) S5))))))))))) : x_E xs (d + 1) 83 0 [.ref 8, .int a1, .int a2, .int a3, .null, .null] [] S Q := by
  refine e_aload f_83_0 rfl (by decide) ?_
  refine e_gr (c := 5) (j := 2) (r := 12) f_83_1 (by decide) (by decide) (by decide) (by decide) ?_
  refine e_gf (c := 0) (j := 4) f_83_4 (by decide) (by decide) (by decide) ?_
  refine e_if f_83_7 (fun hc => ?_) (fun hc => ?_)
  · have hc : ¬ (S 12 4) = 0 := of_decide_eq_true hc
    rw [if_neg hc] at hV
    refine e_iload f_83_13 rfl ?_
    obtain ⟨P1, hP1, hV⟩ := hV
    refine e_si (n := 1) (A := [.int a1]) (R := []) f_83_14 na_62 rfl rfl (Nat.le_of_ble_eq_true rfl) (Nat.le_of_ble_eq_true rfl) (by rw [ml_62]; exact Nat.le_of_ble_eq_true rfl) hP1 (fun v1 S1 hp1 => ?_)
    have hV := hV v1 S1 hp1
    refine e_if f_83_17 (fun hc => ?_) (fun hc => ?_)
    · have hc : v1 = 0 := of_decide_eq_true hc
      rw [if_pos hc] at hV
      refine e_iconst (c := (-1000001)) f_83_40 (by decide) ?_
      exact e_ireturn f_83_42 rt_83 rfl hV
    · have hc : ¬ v1 = 0 := fun z => hc (decide_eq_true z)
      rw [if_neg hc] at hV
      refine e_iload f_83_20 rfl ?_
      obtain ⟨P2, hP2, hV⟩ := hV
      refine e_si (n := 1) (A := [.int a2]) (R := []) f_83_21 na_62 rfl rfl (Nat.le_of_ble_eq_true rfl) (Nat.le_of_ble_eq_true rfl) (by rw [ml_62]; exact Nat.le_of_ble_eq_true rfl) hP2 (fun v2 S2 hp2 => ?_)
      have hV := hV v2 S2 hp2
      refine e_if f_83_24 (fun hc => ?_) (fun hc => ?_)
      · have hc : v2 = 0 := of_decide_eq_true hc
        rw [if_pos hc] at hV
        refine e_iconst (c := (-1000001)) f_83_40 (by decide) ?_
        exact e_ireturn f_83_42 rt_83 rfl hV
      · have hc : ¬ v2 = 0 := fun z => hc (decide_eq_true z)
        rw [if_neg hc] at hV
        refine e_iload f_83_27 rfl ?_
        refine e_iconst (c := (-1)) f_83_28 (by decide) ?_
        refine e_icmp f_83_29 (fun hc => ?_) (fun hc => ?_)
        · have hc : a3 = (-1) := of_decide_eq_true hc
          rw [if_pos hc] at hV
          refine e_iload f_83_43 rfl ?_
          refine e_iconst (c := (-1)) f_83_44 (by decide) ?_
          refine e_icmp f_83_45 (fun hc => ?_) (fun hc => ?_)
          · have hc : a3 = (-1) := of_decide_eq_true hc
            rw [if_pos hc] at hV
            refine e_iconst (c := 0) f_83_59 (by decide) ?_
            refine e_istore (L' := [.ref 8, .int a1, .int a2, .int a3, .int 0, .null]) f_83_60 (Nat.le_of_ble_eq_true rfl) rfl ?_
            refine e_iconst (c := 0) f_83_62 (by decide) ?_
            refine e_istore (L' := [.ref 8, .int a1, .int a2, .int a3, .int 0, .int 0]) f_83_63 (Nat.le_of_ble_eq_true rfl) rfl ?_
            exact hV
          · have hc : ¬ a3 = (-1) := fun z => hc (decide_eq_true z)
            rw [if_neg hc] at hV
            refine e_aload f_83_48 rfl (by decide) ?_
            refine e_gr (c := 5) (j := 2) (r := 12) f_83_49 (by decide) (by decide) (by decide) (by decide) ?_
            refine e_iload f_83_52 rfl ?_
            refine e_iload f_83_53 rfl ?_
            refine e_iload f_83_54 rfl ?_
            obtain ⟨P3, hP3, hV⟩ := hV
            refine e_si (n := 4) (A := [.ref 12, .int a1, .int a2, .int a3]) (R := []) f_83_55 na_84 rfl rfl (Nat.le_of_ble_eq_true rfl) (Nat.le_of_ble_eq_true rfl) (by rw [ml_84]; exact Nat.le_of_ble_eq_true rfl) hP3 (fun v3 S3 hp3 => ?_)
            have hV := hV v3 S3 hp3
            exact e_ireturn f_83_58 rt_83 rfl hV
        · have hc : ¬ a3 = (-1) := fun z => hc (decide_eq_true z)
          rw [if_neg hc] at hV
          refine e_aload f_83_32 rfl (by decide) ?_
          refine e_iload f_83_33 rfl ?_
          obtain ⟨P4, hP4, hV⟩ := hV
          refine e_vi (n := 2) (A := [.ref 8, .int a3]) (R := []) f_83_34 na_60 rfl rfl (Nat.le_of_ble_eq_true rfl) (Nat.le_of_ble_eq_true rfl) (by rw [ml_60]; exact Nat.le_of_ble_eq_true rfl) rfl (by rw [cy_60]; decide) (by rw [cy_60]; exact (by decide : x_tg 8 = 5)) hP4 (fun v4 S4 hp4 => ?_)
          have hV := hV v4 S4 hp4
          refine e_if f_83_37 (fun hc => ?_) (fun hc => ?_)
          · have hc : ¬ v4 = 0 := of_decide_eq_true hc
            rw [if_neg hc] at hV
            refine e_iload f_83_43 rfl ?_
            refine e_iconst (c := (-1)) f_83_44 (by decide) ?_
            refine e_icmp f_83_45 (fun hc => ?_) (fun hc => ?_)
            · have hc : a3 = (-1) := of_decide_eq_true hc
              rw [if_pos hc] at hV
              refine e_iconst (c := 0) f_83_59 (by decide) ?_
              refine e_istore (L' := [.ref 8, .int a1, .int a2, .int a3, .int 0, .null]) f_83_60 (Nat.le_of_ble_eq_true rfl) rfl ?_
              refine e_iconst (c := 0) f_83_62 (by decide) ?_
              refine e_istore (L' := [.ref 8, .int a1, .int a2, .int a3, .int 0, .int 0]) f_83_63 (Nat.le_of_ble_eq_true rfl) rfl ?_
              exact hV
            · have hc : ¬ a3 = (-1) := fun z => hc (decide_eq_true z)
              rw [if_neg hc] at hV
              refine e_aload f_83_48 rfl (by decide) ?_
              refine e_gr (c := 5) (j := 2) (r := 12) f_83_49 (by decide) (by decide) (by decide) (by decide) ?_
              refine e_iload f_83_52 rfl ?_
              refine e_iload f_83_53 rfl ?_
              refine e_iload f_83_54 rfl ?_
              obtain ⟨P5, hP5, hV⟩ := hV
              refine e_si (n := 4) (A := [.ref 12, .int a1, .int a2, .int a3]) (R := []) f_83_55 na_84 rfl rfl (Nat.le_of_ble_eq_true rfl) (Nat.le_of_ble_eq_true rfl) (by rw [ml_84]; exact Nat.le_of_ble_eq_true rfl) hP5 (fun v5 S5 hp5 => ?_)
              have hV := hV v5 S5 hp5
              exact e_ireturn f_83_58 rt_83 rfl hV
          · have hc : v4 = 0 := Decidable.not_not.mp (fun z => hc (decide_eq_true z))
            rw [if_pos hc] at hV
            refine e_iconst (c := (-1000001)) f_83_40 (by decide) ?_
            exact e_ireturn f_83_42 rt_83 rfl hV
  · have hc : (S 12 4) = 0 := Decidable.not_not.mp (fun z => hc (decide_eq_true z))
    rw [if_pos hc] at hV
    refine e_iconst (c := (-1000002)) f_83_10 (by decide) ?_
    exact e_ireturn f_83_12 rt_83 rfl hV
set_option maxRecDepth 20000 in
theorem T_83_65 {xs : List Int32} {d : Nat} {S : x_M} {Q : Option Value → x_M → Prop} {a1 : Int32} {a2 : Int32} {a3 : Int32} {a4 : Int32} {a5 : Int32}  (hV : if (S 12 5) ≤ a5 then (Q (some (.int a4)) S) else (∃ P1 : Int32 → x_M → Prop, x_Ci xs d 84 [.ref 12, .int a1, .int a2, .int a5] S P1 ∧ ∀ (v1 : Int32) (S1 : x_M), P1 v1 S1 → (if v1 = (-1000000) then (x_E xs (d + 1) 83 65 [.ref 8, .int a1, .int a2, .int a3, .int a4, .int (a5 + 1)] [] S1 Q) else (x_E xs (d + 1) 83 65 [.ref 8, .int a1, .int a2, .int a3, .int (a4 ||| (1 <<< (a5 &&& 31))), .int (a5 + 1)] [] S1 Q)))) : x_E xs (d + 1) 83 65 [.ref 8, .int a1, .int a2, .int a3, .int a4, .int a5] [] S Q := by
  refine e_iload f_83_65 rfl ?_
  refine e_aload f_83_67 rfl (by decide) ?_
  refine e_gr (c := 5) (j := 2) (r := 12) f_83_68 (by decide) (by decide) (by decide) (by decide) ?_
  refine e_gf (c := 0) (j := 5) f_83_71 (by decide) (by decide) (by decide) ?_
  refine e_icmp f_83_74 (fun hc => ?_) (fun hc => ?_)
  · have hc : (S 12 5) ≤ a5 := of_decide_eq_true hc
    rw [if_pos hc] at hV
    refine e_iload f_83_108 rfl ?_
    exact e_ireturn f_83_110 rt_83 rfl hV
  · have hc : ¬ (S 12 5) ≤ a5 := fun z => hc (decide_eq_true z)
    rw [if_neg hc] at hV
    refine e_aload f_83_77 rfl (by decide) ?_
    refine e_gr (c := 5) (j := 2) (r := 12) f_83_78 (by decide) (by decide) (by decide) (by decide) ?_
    refine e_iload f_83_81 rfl ?_
    refine e_iload f_83_82 rfl ?_
    refine e_iload f_83_83 rfl ?_
    obtain ⟨P1, hP1, hV⟩ := hV
    refine e_si (n := 4) (A := [.ref 12, .int a1, .int a2, .int a5]) (R := []) f_83_85 na_84 rfl rfl (Nat.le_of_ble_eq_true rfl) (Nat.le_of_ble_eq_true rfl) (by rw [ml_84]; exact Nat.le_of_ble_eq_true rfl) hP1 (fun v1 S1 hp1 => ?_)
    have hV := hV v1 S1 hp1
    refine e_iconst (c := (-1000000)) f_83_88 (by decide) ?_
    refine e_icmp f_83_90 (fun hc => ?_) (fun hc => ?_)
    · have hc : v1 = (-1000000) := of_decide_eq_true hc
      rw [if_pos hc] at hV
      refine e_inc (c := 1) (L' := [.ref 8, .int a1, .int a2, .int a3, .int a4, .int (a5 + 1)]) f_83_102 rfl (by decide) rfl ?_
      refine e_goto f_83_105 ?_
      exact hV
    · have hc : ¬ v1 = (-1000000) := fun z => hc (decide_eq_true z)
      rw [if_neg hc] at hV
      refine e_iload f_83_93 rfl ?_
      refine e_iconst (c := 1) f_83_95 (by decide) ?_
      refine e_iload f_83_96 rfl ?_
      refine e_ishl f_83_98 ?_
      refine e_ior f_83_99 ?_
      refine e_istore (L' := [.ref 8, .int a1, .int a2, .int a3, .int (a4 ||| (1 <<< (a5 &&& 31))), .int a5]) f_83_100 (Nat.le_of_ble_eq_true rfl) rfl ?_
      refine e_inc (c := 1) (L' := [.ref 8, .int a1, .int a2, .int a3, .int (a4 ||| (1 <<< (a5 &&& 31))), .int (a5 + 1)]) f_83_102 rfl (by decide) rfl ?_
      refine e_goto f_83_105 ?_
      exact hV
set_option maxRecDepth 20000 in
theorem T_84_0 {xs : List Int32} {d : Nat} {S : x_M} {Q : Option Value → x_M → Prop} {a0 : Nat} {a1 : Int32} {a2 : Int32} {a3 : Int32} (ha0 : x_tg a0 = 0) (hV : x_E xs (d + 1) 84 3 [.ref a0, .int a1, .int a2, .int a3, .int 0] [] S Q) : x_E xs (d + 1) 84 0 [.ref a0, .int a1, .int a2, .int a3, .null] [] S Q := by
  refine e_iconst (c := 0) f_84_0 (by decide) ?_
  refine e_istore (L' := [.ref a0, .int a1, .int a2, .int a3, .int 0]) f_84_1 (Nat.le_of_ble_eq_true rfl) rfl ?_
  exact hV
set_option maxRecDepth 20000 in
theorem T_84_3 {xs : List Int32} {d : Nat} {S : x_M} {Q : Option Value → x_M → Prop} {a0 : Nat} {a1 : Int32} {a2 : Int32} {a3 : Int32} {a4 : Int32} (ha0 : x_tg a0 = 0) (hV : if (8 : Int32) ≤ a4 then (Q (some (.int (-1000000))) S) else (∃ P1 : Int32 → x_M → Prop, x_Ci xs d 8 [.ref a0, .int a3, .int a4] S P1 ∧ ∀ (v1 : Int32) (S1 : x_M), P1 v1 S1 → (if (a1 &&& v1) = a2 then (Q (some (.int a4)) S1) else (x_E xs (d + 1) 84 3 [.ref a0, .int a1, .int a2, .int a3, .int (a4 + 1)] [] S1 Q)))) : x_E xs (d + 1) 84 3 [.ref a0, .int a1, .int a2, .int a3, .int a4] [] S Q := by
  refine e_iload f_84_3 rfl ?_
  refine e_iconst (c := 8) f_84_5 (by decide) ?_
  refine e_icmp f_84_7 (fun hc => ?_) (fun hc => ?_)
  · have hc : (8 : Int32) ≤ a4 := of_decide_eq_true hc
    rw [if_pos hc] at hV
    refine e_iconst (c := (-1000000)) f_84_32 (by decide) ?_
    exact e_ireturn f_84_34 rt_84 rfl hV
  · have hc : ¬ (8 : Int32) ≤ a4 := fun z => hc (decide_eq_true z)
    rw [if_neg hc] at hV
    refine e_iload f_84_10 rfl ?_
    refine e_aload f_84_11 rfl (x_n7 ha0 (by decide)) ?_
    refine e_iload f_84_12 rfl ?_
    refine e_iload f_84_13 rfl ?_
    obtain ⟨P1, hP1, hV⟩ := hV
    refine e_vi (n := 3) (A := [.ref a0, .int a3, .int a4]) (R := [.int a1]) f_84_15 na_8 rfl rfl (Nat.le_of_ble_eq_true rfl) (Nat.le_of_ble_eq_true rfl) (by rw [ml_8]; exact Nat.le_of_ble_eq_true rfl) rfl (by rw [cy_8]; decide) (by rw [cy_8]; exact ha0) hP1 (fun v1 S1 hp1 => ?_)
    have hV := hV v1 S1 hp1
    refine e_iand f_84_18 ?_
    refine e_iload f_84_19 rfl ?_
    refine e_icmp f_84_20 (fun hc => ?_) (fun hc => ?_)
    · have hc : ¬ (a1 &&& v1) = a2 := of_decide_eq_true hc
      rw [if_neg hc] at hV
      refine e_inc (c := 1) (L' := [.ref a0, .int a1, .int a2, .int a3, .int (a4 + 1)]) f_84_26 rfl (by decide) rfl ?_
      refine e_goto f_84_29 ?_
      exact hV
    · have hc : (a1 &&& v1) = a2 := Decidable.not_not.mp (fun z => hc (decide_eq_true z))
      rw [if_pos hc] at hV
      refine e_iload f_84_23 rfl ?_
      exact e_ireturn f_84_25 rt_84 rfl hV
set_option maxRecDepth 20000 in
theorem T_85_0 {xs : List Int32} {d : Nat} {S : x_M} {Q : Option Value → x_M → Prop} {a1 : Int32}  (hV : if a1 < 0 then (Q (some (.int (-1000001))) S) else (if a1 < 2 then (if (S 12 4) = 0 then (Q (some (.int (-1000002))) S) else ((x_ib a1 2) ∧ (∃ P2 : x_M → Prop, x_Cv xs d 7 [.ref (x_rr 22 (Int32.toNatClampNeg a1)), .ref 12] S P2 ∧ ∀ (S2 : x_M), P2 S2 → (Q (some (.int 1)) S2)))) else (Q (some (.int (-1000001))) S))) : x_E xs (d + 1) 85 0 [.ref 8, .int a1] [] S Q := by
  refine e_iload f_85_0 rfl ?_
  refine e_if f_85_1 (fun hc => ?_) (fun hc => ?_)
  · have hc : a1 < 0 := of_decide_eq_true hc
    rw [if_pos hc] at hV
    refine e_iconst (c := (-1000001)) f_85_9 (by decide) ?_
    exact e_ireturn f_85_11 rt_85 rfl hV
  · have hc : ¬ a1 < 0 := fun z => hc (decide_eq_true z)
    rw [if_neg hc] at hV
    refine e_iload f_85_4 rfl ?_
    refine e_iconst (c := 2) f_85_5 (by decide) ?_
    refine e_icmp f_85_6 (fun hc => ?_) (fun hc => ?_)
    · have hc : a1 < 2 := of_decide_eq_true hc
      rw [if_pos hc] at hV
      refine e_aload f_85_12 rfl (by decide) ?_
      refine e_gr (c := 5) (j := 2) (r := 12) f_85_13 (by decide) (by decide) (by decide) (by decide) ?_
      refine e_gf (c := 0) (j := 4) f_85_16 (by decide) (by decide) (by decide) ?_
      refine e_if f_85_19 (fun hc => ?_) (fun hc => ?_)
      · have hc : ¬ (S 12 4) = 0 := of_decide_eq_true hc
        rw [if_neg hc] at hV
        refine e_aload f_85_25 rfl (by decide) ?_
        refine e_gr (c := 5) (j := 4) (r := 22) f_85_26 (by decide) (by decide) (by decide) (by decide) ?_
        refine e_iload f_85_29 rfl ?_
        obtain ⟨hg, hV⟩ := hV
        refine e_aa (c := 12) (n := 2) f_85_30 (by decide) (by decide) (by decide) hg (fun hq1 => ?_)
        have hq1 : x_tg (x_rr 22 (Int32.toNatClampNeg a1)) = 0 := hq1
        refine e_aload f_85_31 rfl (by decide) ?_
        refine e_gr (c := 5) (j := 2) (r := 12) f_85_32 (by decide) (by decide) (by decide) (by decide) ?_
        obtain ⟨P2, hP2, hV⟩ := hV
        refine e_vv (n := 2) (A := [.ref (x_rr 22 (Int32.toNatClampNeg a1)), .ref 12]) (R := []) f_85_35 na_7 rfl rfl (Nat.le_of_ble_eq_true rfl) (Nat.le_of_ble_eq_true rfl) (by rw [ml_7]; exact Nat.le_of_ble_eq_true rfl) rfl (by rw [cy_7]; decide) (by rw [cy_7]; exact hq1) hP2 (fun S2 hp2 => ?_)
        have hV := hV S2 hp2
        refine e_iconst (c := 1) f_85_38 (by decide) ?_
        exact e_ireturn f_85_39 rt_85 rfl hV
      · have hc : (S 12 4) = 0 := Decidable.not_not.mp (fun z => hc (decide_eq_true z))
        rw [if_pos hc] at hV
        refine e_iconst (c := (-1000002)) f_85_22 (by decide) ?_
        exact e_ireturn f_85_24 rt_85 rfl hV
    · have hc : ¬ a1 < 2 := fun z => hc (decide_eq_true z)
      rw [if_neg hc] at hV
      refine e_iconst (c := (-1000001)) f_85_9 (by decide) ?_
      exact e_ireturn f_85_11 rt_85 rfl hV
set_option maxRecDepth 20000 in
theorem T_86_0 {xs : List Int32} {d : Nat} {S : x_M} {Q : Option Value → x_M → Prop} {a1 : Int32}  (hV : if a1 < 0 then (Q (some (.int (-1000001))) S) else (if a1 < 2 then ((x_ib a1 2) ∧ (if (S (x_rr 22 (Int32.toNatClampNeg a1)) 4) = 0 then (Q (some (.int (-1000002))) S) else ((x_ib a1 2) ∧ (∃ P3 : x_M → Prop, x_Cv xs d 7 [.ref 12, .ref (x_rr 22 (Int32.toNatClampNeg a1))] S P3 ∧ ∀ (S3 : x_M), P3 S3 → (Q (some (.int 1)) S3))))) else (Q (some (.int (-1000001))) S))) : x_E xs (d + 1) 86 0 [.ref 8, .int a1] [] S Q := by
  refine e_iload f_86_0 rfl ?_
  refine e_if f_86_1 (fun hc => ?_) (fun hc => ?_)
  · have hc : a1 < 0 := of_decide_eq_true hc
    rw [if_pos hc] at hV
    refine e_iconst (c := (-1000001)) f_86_9 (by decide) ?_
    exact e_ireturn f_86_11 rt_86 rfl hV
  · have hc : ¬ a1 < 0 := fun z => hc (decide_eq_true z)
    rw [if_neg hc] at hV
    refine e_iload f_86_4 rfl ?_
    refine e_iconst (c := 2) f_86_5 (by decide) ?_
    refine e_icmp f_86_6 (fun hc => ?_) (fun hc => ?_)
    · have hc : a1 < 2 := of_decide_eq_true hc
      rw [if_pos hc] at hV
      refine e_aload f_86_12 rfl (by decide) ?_
      refine e_gr (c := 5) (j := 4) (r := 22) f_86_13 (by decide) (by decide) (by decide) (by decide) ?_
      refine e_iload f_86_16 rfl ?_
      obtain ⟨hg, hV⟩ := hV
      refine e_aa (c := 12) (n := 2) f_86_17 (by decide) (by decide) (by decide) hg (fun hq1 => ?_)
      have hq1 : x_tg (x_rr 22 (Int32.toNatClampNeg a1)) = 0 := hq1
      refine e_gf (c := 0) (j := 4) f_86_18 (by decide) (by decide) hq1 ?_
      refine e_if f_86_21 (fun hc => ?_) (fun hc => ?_)
      · have hc : ¬ (S (x_rr 22 (Int32.toNatClampNeg a1)) 4) = 0 := of_decide_eq_true hc
        rw [if_neg hc] at hV
        refine e_aload f_86_27 rfl (by decide) ?_
        refine e_gr (c := 5) (j := 2) (r := 12) f_86_28 (by decide) (by decide) (by decide) (by decide) ?_
        refine e_aload f_86_31 rfl (by decide) ?_
        refine e_gr (c := 5) (j := 4) (r := 22) f_86_32 (by decide) (by decide) (by decide) (by decide) ?_
        refine e_iload f_86_35 rfl ?_
        obtain ⟨hg, hV⟩ := hV
        refine e_aa (c := 12) (n := 2) f_86_36 (by decide) (by decide) (by decide) hg (fun hq2 => ?_)
        have hq2 : x_tg (x_rr 22 (Int32.toNatClampNeg a1)) = 0 := hq2
        obtain ⟨P3, hP3, hV⟩ := hV
        refine e_vv (n := 2) (A := [.ref 12, .ref (x_rr 22 (Int32.toNatClampNeg a1))]) (R := []) f_86_37 na_7 rfl rfl (Nat.le_of_ble_eq_true rfl) (Nat.le_of_ble_eq_true rfl) (by rw [ml_7]; exact Nat.le_of_ble_eq_true rfl) rfl (by rw [cy_7]; decide) (by rw [cy_7]; exact (by decide : x_tg 12 = 0)) hP3 (fun S3 hp3 => ?_)
        have hV := hV S3 hp3
        refine e_iconst (c := 1) f_86_40 (by decide) ?_
        exact e_ireturn f_86_41 rt_86 rfl hV
      · have hc : (S (x_rr 22 (Int32.toNatClampNeg a1)) 4) = 0 := Decidable.not_not.mp (fun z => hc (decide_eq_true z))
        rw [if_pos hc] at hV
        refine e_iconst (c := (-1000002)) f_86_24 (by decide) ?_
        exact e_ireturn f_86_26 rt_86 rfl hV
    · have hc : ¬ a1 < 2 := fun z => hc (decide_eq_true z)
      rw [if_neg hc] at hV
      refine e_iconst (c := (-1000001)) f_86_9 (by decide) ?_
      exact e_ireturn f_86_11 rt_86 rfl hV
set_option maxRecDepth 20000 in
theorem T_87_0 {xs : List Int32} {d : Nat} {S : x_M} {Q : Option Value → x_M → Prop} {a1 : Int32}  (hV : ∃ P1 : Int32 → x_M → Prop, x_Ci xs d 60 [.ref 8, .int a1] S P1 ∧ ∀ (v1 : Int32) (S1 : x_M), P1 v1 S1 → (if v1 = 0 then (Q (some (.int (-1000001))) S1) else (∃ P2 : Int32 → x_M → Prop, x_Ci xs d 88 [.ref 12, .int a1] S1 P2 ∧ ∀ (v2 : Int32) (S2 : x_M), P2 v2 S2 → (Q (some (.int v2)) S2)))) : x_E xs (d + 1) 87 0 [.ref 8, .int a1] [] S Q := by
  refine e_aload f_87_0 rfl (by decide) ?_
  refine e_iload f_87_1 rfl ?_
  obtain ⟨P1, hP1, hV⟩ := hV
  refine e_vi (n := 2) (A := [.ref 8, .int a1]) (R := []) f_87_2 na_60 rfl rfl (Nat.le_of_ble_eq_true rfl) (Nat.le_of_ble_eq_true rfl) (by rw [ml_60]; exact Nat.le_of_ble_eq_true rfl) rfl (by rw [cy_60]; decide) (by rw [cy_60]; exact (by decide : x_tg 8 = 5)) hP1 (fun v1 S1 hp1 => ?_)
  have hV := hV v1 S1 hp1
  refine e_if f_87_5 (fun hc => ?_) (fun hc => ?_)
  · have hc : v1 = 0 := of_decide_eq_true hc
    rw [if_pos hc] at hV
    refine e_iconst (c := (-1000001)) f_87_19 (by decide) ?_
    exact e_ireturn f_87_21 rt_87 rfl hV
  · have hc : ¬ v1 = 0 := fun z => hc (decide_eq_true z)
    rw [if_neg hc] at hV
    refine e_aload f_87_8 rfl (by decide) ?_
    refine e_gr (c := 5) (j := 2) (r := 12) f_87_9 (by decide) (by decide) (by decide) (by decide) ?_
    refine e_iload f_87_12 rfl ?_
    obtain ⟨P2, hP2, hV⟩ := hV
    refine e_si (n := 2) (A := [.ref 12, .int a1]) (R := []) f_87_13 na_88 rfl rfl (Nat.le_of_ble_eq_true rfl) (Nat.le_of_ble_eq_true rfl) (by rw [ml_88]; exact Nat.le_of_ble_eq_true rfl) hP2 (fun v2 S2 hp2 => ?_)
    have hV := hV v2 S2 hp2
    refine e_goto f_87_16 ?_
    exact e_ireturn f_87_21 rt_87 rfl hV
set_option maxRecDepth 20000 in
theorem T_88_0 {xs : List Int32} {d : Nat} {S : x_M} {Q : Option Value → x_M → Prop} {a0 : Nat} {a1 : Int32} (ha0 : x_tg a0 = 0) (hV : ∃ P1 : Int32 → x_M → Prop, x_Ci xs d 89 [.ref a0, .int a1, .int 2] S P1 ∧ ∀ (v1 : Int32) (S1 : x_M), P1 v1 S1 → (if v1 = 0 then (∃ P2 : Int32 → x_M → Prop, x_Ci xs d 89 [.ref a0, .int a1, .int 5] S1 P2 ∧ ∀ (v2 : Int32) (S2 : x_M), P2 v2 S2 → (if v2 = 0 then (∃ P3 : Int32 → x_M → Prop, x_Ci xs d 89 [.ref a0, .int a1, .int 3] S2 P3 ∧ ∀ (v3 : Int32) (S3 : x_M), P3 v3 S3 → (if v3 = 0 then (∃ P4 : Int32 → x_M → Prop, x_Ci xs d 89 [.ref a0, .int a1, .int 4] S3 P4 ∧ ∀ (v4 : Int32) (S4 : x_M), P4 v4 S4 → (if v4 = 0 then (Q (some (.int 1)) S4) else (Q (some (.int 4)) S4))) else (Q (some (.int 3)) S3))) else (Q (some (.int 5)) S2))) else (Q (some (.int 2)) S1))) : x_E xs (d + 1) 88 0 [.ref a0, .int a1] [] S Q := by
  refine e_aload f_88_0 rfl (x_n7 ha0 (by decide)) ?_
  refine e_iload f_88_1 rfl ?_
  refine e_iconst (c := 2) f_88_2 (by decide) ?_
  obtain ⟨P1, hP1, hV⟩ := hV
  refine e_si (n := 3) (A := [.ref a0, .int a1, .int 2]) (R := []) f_88_3 na_89 rfl rfl (Nat.le_of_ble_eq_true rfl) (Nat.le_of_ble_eq_true rfl) (by rw [ml_89]; exact Nat.le_of_ble_eq_true rfl) hP1 (fun v1 S1 hp1 => ?_)
  have hV := hV v1 S1 hp1
  refine e_if f_88_6 (fun hc => ?_) (fun hc => ?_)
  · have hc : v1 = 0 := of_decide_eq_true hc
    rw [if_pos hc] at hV
    refine e_aload f_88_11 rfl (x_n7 ha0 (by decide)) ?_
    refine e_iload f_88_12 rfl ?_
    refine e_iconst (c := 5) f_88_13 (by decide) ?_
    obtain ⟨P2, hP2, hV⟩ := hV
    refine e_si (n := 3) (A := [.ref a0, .int a1, .int 5]) (R := []) f_88_14 na_89 rfl rfl (Nat.le_of_ble_eq_true rfl) (Nat.le_of_ble_eq_true rfl) (by rw [ml_89]; exact Nat.le_of_ble_eq_true rfl) hP2 (fun v2 S2 hp2 => ?_)
    have hV := hV v2 S2 hp2
    refine e_if f_88_17 (fun hc => ?_) (fun hc => ?_)
    · have hc : v2 = 0 := of_decide_eq_true hc
      rw [if_pos hc] at hV
      refine e_aload f_88_22 rfl (x_n7 ha0 (by decide)) ?_
      refine e_iload f_88_23 rfl ?_
      refine e_iconst (c := 3) f_88_24 (by decide) ?_
      obtain ⟨P3, hP3, hV⟩ := hV
      refine e_si (n := 3) (A := [.ref a0, .int a1, .int 3]) (R := []) f_88_25 na_89 rfl rfl (Nat.le_of_ble_eq_true rfl) (Nat.le_of_ble_eq_true rfl) (by rw [ml_89]; exact Nat.le_of_ble_eq_true rfl) hP3 (fun v3 S3 hp3 => ?_)
      have hV := hV v3 S3 hp3
      refine e_if f_88_28 (fun hc => ?_) (fun hc => ?_)
      · have hc : v3 = 0 := of_decide_eq_true hc
        rw [if_pos hc] at hV
        refine e_aload f_88_33 rfl (x_n7 ha0 (by decide)) ?_
        refine e_iload f_88_34 rfl ?_
        refine e_iconst (c := 4) f_88_35 (by decide) ?_
        obtain ⟨P4, hP4, hV⟩ := hV
        refine e_si (n := 3) (A := [.ref a0, .int a1, .int 4]) (R := []) f_88_36 na_89 rfl rfl (Nat.le_of_ble_eq_true rfl) (Nat.le_of_ble_eq_true rfl) (by rw [ml_89]; exact Nat.le_of_ble_eq_true rfl) hP4 (fun v4 S4 hp4 => ?_)
        have hV := hV v4 S4 hp4
        refine e_if f_88_39 (fun hc => ?_) (fun hc => ?_)
        · have hc : v4 = 0 := of_decide_eq_true hc
          rw [if_pos hc] at hV
          refine e_iconst (c := 1) f_88_46 (by decide) ?_
          exact e_ireturn f_88_47 rt_88 rfl hV
        · have hc : ¬ v4 = 0 := fun z => hc (decide_eq_true z)
          rw [if_neg hc] at hV
          refine e_iconst (c := 4) f_88_42 (by decide) ?_
          refine e_goto f_88_43 ?_
          exact e_ireturn f_88_47 rt_88 rfl hV
      · have hc : ¬ v3 = 0 := fun z => hc (decide_eq_true z)
        rw [if_neg hc] at hV
        refine e_iconst (c := 3) f_88_31 (by decide) ?_
        exact e_ireturn f_88_32 rt_88 rfl hV
    · have hc : ¬ v2 = 0 := fun z => hc (decide_eq_true z)
      rw [if_neg hc] at hV
      refine e_iconst (c := 5) f_88_20 (by decide) ?_
      exact e_ireturn f_88_21 rt_88 rfl hV
  · have hc : ¬ v1 = 0 := fun z => hc (decide_eq_true z)
    rw [if_neg hc] at hV
    refine e_iconst (c := 2) f_88_9 (by decide) ?_
    exact e_ireturn f_88_10 rt_88 rfl hV
set_option maxRecDepth 20000 in
theorem T_89_0 {xs : List Int32} {d : Nat} {S : x_M} {Q : Option Value → x_M → Prop} {a0 : Nat} {a1 : Int32} {a2 : Int32} (ha0 : x_tg a0 = 0) (hV : ∃ P1 : Int32 → x_M → Prop, x_Ci xs d 8 [.ref a0, .int a1, .int 0] S P1 ∧ ∀ (v1 : Int32) (S1 : x_M), P1 v1 S1 → (∃ P2 : Int32 → x_M → Prop, x_Ci xs d 179 [.int v1] S1 P2 ∧ ∀ (v2 : Int32) (S2 : x_M), P2 v2 S2 → (if v2 ≤ 0 then (x_E xs (d + 1) 89 28 [.ref a0, .int a1, .int a2, .int v2, .null] [.int 0] S2 Q) else (∃ P3 : Int32 → x_M → Prop, x_Ci xs d 15 [.ref a0, .int a1] S2 P3 ∧ ∀ (v3 : Int32) (S3 : x_M), P3 v3 S3 → (if v3 = 1 then (x_E xs (d + 1) 89 28 [.ref a0, .int a1, .int a2, .int v2, .null] [.int 1] S3 Q) else (x_E xs (d + 1) 89 28 [.ref a0, .int a1, .int a2, .int v2, .null] [.int 0] S3 Q)))))) : x_E xs (d + 1) 89 0 [.ref a0, .int a1, .int a2, .null, .null] [] S Q := by
  refine e_aload f_89_0 rfl (x_n7 ha0 (by decide)) ?_
  refine e_iload f_89_1 rfl ?_
  refine e_iconst (c := 0) f_89_2 (by decide) ?_
  obtain ⟨P1, hP1, hV⟩ := hV
  refine e_vi (n := 3) (A := [.ref a0, .int a1, .int 0]) (R := []) f_89_3 na_8 rfl rfl (Nat.le_of_ble_eq_true rfl) (Nat.le_of_ble_eq_true rfl) (by rw [ml_8]; exact Nat.le_of_ble_eq_true rfl) rfl (by rw [cy_8]; decide) (by rw [cy_8]; exact ha0) hP1 (fun v1 S1 hp1 => ?_)
  have hV := hV v1 S1 hp1
  obtain ⟨P2, hP2, hV⟩ := hV
  refine e_si (n := 1) (A := [.int v1]) (R := []) f_89_6 na_179 rfl rfl (Nat.le_of_ble_eq_true rfl) (Nat.le_of_ble_eq_true rfl) (by rw [ml_179]; exact Nat.le_of_ble_eq_true rfl) hP2 (fun v2 S2 hp2 => ?_)
  have hV := hV v2 S2 hp2
  refine e_istore (L' := [.ref a0, .int a1, .int a2, .int v2, .null]) f_89_9 (Nat.le_of_ble_eq_true rfl) rfl ?_
  refine e_iload f_89_10 rfl ?_
  refine e_if f_89_11 (fun hc => ?_) (fun hc => ?_)
  · have hc : v2 ≤ 0 := of_decide_eq_true hc
    rw [if_pos hc] at hV
    refine e_iconst (c := 0) f_89_27 (by decide) ?_
    exact hV
  · have hc : ¬ v2 ≤ 0 := fun z => hc (decide_eq_true z)
    rw [if_neg hc] at hV
    refine e_aload f_89_14 rfl (x_n7 ha0 (by decide)) ?_
    refine e_iload f_89_15 rfl ?_
    obtain ⟨P3, hP3, hV⟩ := hV
    refine e_vi (n := 2) (A := [.ref a0, .int a1]) (R := []) f_89_16 na_15 rfl rfl (Nat.le_of_ble_eq_true rfl) (Nat.le_of_ble_eq_true rfl) (by rw [ml_15]; exact Nat.le_of_ble_eq_true rfl) rfl (by rw [cy_15]; decide) (by rw [cy_15]; exact ha0) hP3 (fun v3 S3 hp3 => ?_)
    have hV := hV v3 S3 hp3
    refine e_iconst (c := 1) f_89_19 (by decide) ?_
    refine e_icmp f_89_20 (fun hc => ?_) (fun hc => ?_)
    · have hc : ¬ v3 = 1 := of_decide_eq_true hc
      rw [if_neg hc] at hV
      refine e_iconst (c := 0) f_89_27 (by decide) ?_
      exact hV
    · have hc : v3 = 1 := Decidable.not_not.mp (fun z => hc (decide_eq_true z))
      rw [if_pos hc] at hV
      refine e_iconst (c := 1) f_89_23 (by decide) ?_
      refine e_goto f_89_24 ?_
      exact hV
set_option maxRecDepth 20000 in
theorem T_89_28 {xs : List Int32} {d : Nat} {S : x_M} {Q : Option Value → x_M → Prop} {a0 : Nat} {a1 : Int32} {a2 : Int32} {a3 : Int32} {s0 : Int32} (ha0 : x_tg a0 = 0) (hV : if a2 = 0 then (Q (some (.int 1)) S) else (if a2 = 1 then (if a3 ≤ 0 then (Q (some (.int 0)) S) else (Q (some (.int 1)) S)) else (if a2 = 2 then (if a3 = 0 then (Q (some (.int 1)) S) else (Q (some (.int 0)) S)) else (if a2 = 3 then ((s0 = 0 ∨ s0 = 1) ∧ Q (some (.int s0)) S) else (if a2 = 4 then (if s0 = 0 then (if a3 < 6 then (Q (some (.int 0)) S) else (Q (some (.int 1)) S)) else (Q (some (.int 0)) S)) else (if a2 = 5 then (if s0 = 0 then (Q (some (.int 0)) S) else (if a3 < 6 then (Q (some (.int 0)) S) else (Q (some (.int 1)) S))) else (Q (some (.int 0)) S))))))) : x_E xs (d + 1) 89 28 [.ref a0, .int a1, .int a2, .int a3, .null] [.int s0] S Q := by
  refine e_istore (L' := [.ref a0, .int a1, .int a2, .int a3, .int s0]) f_89_28 (Nat.le_of_ble_eq_true rfl) rfl ?_
  refine e_iload f_89_30 rfl ?_
  by_cases hx0 : a2 = 0
  · rw [if_pos hx0] at hV
    refine e_ts f_89_31 hx0 (t := 68) (by decide) ?_
    refine e_iconst (c := 1) f_89_68 (by decide) ?_
    exact e_ireturn f_89_69 rt_89 (by decide) hV
  rw [if_neg hx0] at hV
  by_cases hx1 : a2 = 1
  · rw [if_pos hx1] at hV
    refine e_ts f_89_31 hx1 (t := 70) (by decide) ?_
    refine e_iload f_89_70 rfl ?_
    refine e_if f_89_71 (fun hc => ?_) (fun hc => ?_)
    · have hc : a3 ≤ 0 := of_decide_eq_true hc
      rw [if_pos hc] at hV
      refine e_iconst (c := 0) f_89_78 (by decide) ?_
      exact e_ireturn f_89_79 rt_89 (by decide) hV
    · have hc : ¬ a3 ≤ 0 := fun z => hc (decide_eq_true z)
      rw [if_neg hc] at hV
      refine e_iconst (c := 1) f_89_74 (by decide) ?_
      refine e_goto f_89_75 ?_
      exact e_ireturn f_89_79 rt_89 (by decide) hV
  rw [if_neg hx1] at hV
  by_cases hx2 : a2 = 2
  · rw [if_pos hx2] at hV
    refine e_ts f_89_31 hx2 (t := 80) (by decide) ?_
    refine e_iload f_89_80 rfl ?_
    refine e_if f_89_81 (fun hc => ?_) (fun hc => ?_)
    · have hc : ¬ a3 = 0 := of_decide_eq_true hc
      rw [if_neg hc] at hV
      refine e_iconst (c := 0) f_89_88 (by decide) ?_
      exact e_ireturn f_89_89 rt_89 (by decide) hV
    · have hc : a3 = 0 := Decidable.not_not.mp (fun z => hc (decide_eq_true z))
      rw [if_pos hc] at hV
      refine e_iconst (c := 1) f_89_84 (by decide) ?_
      refine e_goto f_89_85 ?_
      exact e_ireturn f_89_89 rt_89 (by decide) hV
  rw [if_neg hx2] at hV
  by_cases hx3 : a2 = 3
  · rw [if_pos hx3] at hV
    refine e_ts f_89_31 hx3 (t := 90) (by decide) ?_
    refine e_iload f_89_90 rfl ?_
    obtain ⟨hg, hV⟩ := hV
    exact e_ireturn f_89_92 rt_89 (x_nz hg) hV
  rw [if_neg hx3] at hV
  by_cases hx4 : a2 = 4
  · rw [if_pos hx4] at hV
    refine e_ts f_89_31 hx4 (t := 93) (by decide) ?_
    refine e_iload f_89_93 rfl ?_
    refine e_if f_89_95 (fun hc => ?_) (fun hc => ?_)
    · have hc : ¬ s0 = 0 := of_decide_eq_true hc
      rw [if_neg hc] at hV
      refine e_iconst (c := 0) f_89_108 (by decide) ?_
      exact e_ireturn f_89_109 rt_89 (by decide) hV
    · have hc : s0 = 0 := Decidable.not_not.mp (fun z => hc (decide_eq_true z))
      rw [if_pos hc] at hV
      refine e_iload f_89_98 rfl ?_
      refine e_iconst (c := 6) f_89_99 (by decide) ?_
      refine e_icmp f_89_101 (fun hc => ?_) (fun hc => ?_)
      · have hc : a3 < 6 := of_decide_eq_true hc
        rw [if_pos hc] at hV
        refine e_iconst (c := 0) f_89_108 (by decide) ?_
        exact e_ireturn f_89_109 rt_89 (by decide) hV
      · have hc : ¬ a3 < 6 := fun z => hc (decide_eq_true z)
        rw [if_neg hc] at hV
        refine e_iconst (c := 1) f_89_104 (by decide) ?_
        refine e_goto f_89_105 ?_
        exact e_ireturn f_89_109 rt_89 (by decide) hV
  rw [if_neg hx4] at hV
  by_cases hx5 : a2 = 5
  · rw [if_pos hx5] at hV
    refine e_ts f_89_31 hx5 (t := 110) (by decide) ?_
    refine e_iload f_89_110 rfl ?_
    refine e_if f_89_112 (fun hc => ?_) (fun hc => ?_)
    · have hc : s0 = 0 := of_decide_eq_true hc
      rw [if_pos hc] at hV
      refine e_iconst (c := 0) f_89_125 (by decide) ?_
      exact e_ireturn f_89_126 rt_89 (by decide) hV
    · have hc : ¬ s0 = 0 := fun z => hc (decide_eq_true z)
      rw [if_neg hc] at hV
      refine e_iload f_89_115 rfl ?_
      refine e_iconst (c := 6) f_89_116 (by decide) ?_
      refine e_icmp f_89_118 (fun hc => ?_) (fun hc => ?_)
      · have hc : a3 < 6 := of_decide_eq_true hc
        rw [if_pos hc] at hV
        refine e_iconst (c := 0) f_89_125 (by decide) ?_
        exact e_ireturn f_89_126 rt_89 (by decide) hV
      · have hc : ¬ a3 < 6 := fun z => hc (decide_eq_true z)
        rw [if_neg hc] at hV
        refine e_iconst (c := 1) f_89_121 (by decide) ?_
        refine e_goto f_89_122 ?_
        exact e_ireturn f_89_126 rt_89 (by decide) hV
  rw [if_neg hx5] at hV
  have hy0 := lv_neT (a := 0) hx0 (by decide)
  have hy1 := lv_neT (a := 1) hx1 (by decide)
  have hy2 := lv_neT (a := 2) hx2 (by decide)
  have hy3 := lv_neT (a := 3) hx3 (by decide)
  have hy4 := lv_neT (a := 4) hx4 (by decide)
  have hy5 := lv_neT (a := 5) hx5 (by decide)
  refine e_tsd f_89_31 (by omega) (t := 127) (by decide) ?_
  refine e_iconst (c := 0) f_89_127 (by decide) ?_
  exact e_ireturn f_89_128 rt_89 (by decide) hV
set_option maxRecDepth 20000 in
theorem T_90_0 {xs : List Int32} {d : Nat} {S : x_M} {Q : Option Value → x_M → Prop} {a1 : Int32} {a2 : Int32}  (hV : ∃ P1 : Int32 → x_M → Prop, x_Ci xs d 60 [.ref 8, .int a1] S P1 ∧ ∀ (v1 : Int32) (S1 : x_M), P1 v1 S1 → (if v1 = 0 then (Q (some (.int (-1000001))) S1) else (if a2 < 0 then (Q (some (.int (-1000001))) S1) else (if a2 < 6 then (∃ P2 : Int32 → x_M → Prop, x_Ci xs d 89 [.ref 12, .int a1, .int a2] S1 P2 ∧ ∀ (v2 : Int32) (S2 : x_M), P2 v2 S2 → (if v2 = 0 then (∃ P3 : Int32 → x_M → Prop, x_Ci xs d 45 [.ref 8, .int 3] S2 P3 ∧ ∀ (v3 : Int32) (S3 : x_M), P3 v3 S3 → (Q (some (.int v3)) S3)) else (∃ P4 : Int32 → x_M → Prop, x_Ci xs d 46 [.ref 8, .int a1] S2 P4 ∧ ∀ (v4 : Int32) (S4 : x_M), P4 v4 S4 → (Q (some (.int v4)) S4)))) else (Q (some (.int (-1000001))) S1))))) : x_E xs (d + 1) 90 0 [.ref 8, .int a1, .int a2] [] S Q := by
  refine e_aload f_90_0 rfl (by decide) ?_
  refine e_iload f_90_1 rfl ?_
  obtain ⟨P1, hP1, hV⟩ := hV
  refine e_vi (n := 2) (A := [.ref 8, .int a1]) (R := []) f_90_2 na_60 rfl rfl (Nat.le_of_ble_eq_true rfl) (Nat.le_of_ble_eq_true rfl) (by rw [ml_60]; exact Nat.le_of_ble_eq_true rfl) rfl (by rw [cy_60]; decide) (by rw [cy_60]; exact (by decide : x_tg 8 = 5)) hP1 (fun v1 S1 hp1 => ?_)
  have hV := hV v1 S1 hp1
  refine e_if f_90_5 (fun hc => ?_) (fun hc => ?_)
  · have hc : v1 = 0 := of_decide_eq_true hc
    rw [if_pos hc] at hV
    refine e_iconst (c := (-1000001)) f_90_18 (by decide) ?_
    exact e_ireturn f_90_20 rt_90 rfl hV
  · have hc : ¬ v1 = 0 := fun z => hc (decide_eq_true z)
    rw [if_neg hc] at hV
    refine e_iload f_90_8 rfl ?_
    refine e_if f_90_9 (fun hc => ?_) (fun hc => ?_)
    · have hc : a2 < 0 := of_decide_eq_true hc
      rw [if_pos hc] at hV
      refine e_iconst (c := (-1000001)) f_90_18 (by decide) ?_
      exact e_ireturn f_90_20 rt_90 rfl hV
    · have hc : ¬ a2 < 0 := fun z => hc (decide_eq_true z)
      rw [if_neg hc] at hV
      refine e_iload f_90_12 rfl ?_
      refine e_iconst (c := 6) f_90_13 (by decide) ?_
      refine e_icmp f_90_15 (fun hc => ?_) (fun hc => ?_)
      · have hc : a2 < 6 := of_decide_eq_true hc
        rw [if_pos hc] at hV
        refine e_aload f_90_21 rfl (by decide) ?_
        refine e_gr (c := 5) (j := 2) (r := 12) f_90_22 (by decide) (by decide) (by decide) (by decide) ?_
        refine e_iload f_90_25 rfl ?_
        refine e_iload f_90_26 rfl ?_
        obtain ⟨P2, hP2, hV⟩ := hV
        refine e_si (n := 3) (A := [.ref 12, .int a1, .int a2]) (R := []) f_90_27 na_89 rfl rfl (Nat.le_of_ble_eq_true rfl) (Nat.le_of_ble_eq_true rfl) (by rw [ml_89]; exact Nat.le_of_ble_eq_true rfl) hP2 (fun v2 S2 hp2 => ?_)
        have hV := hV v2 S2 hp2
        refine e_if f_90_30 (fun hc => ?_) (fun hc => ?_)
        · have hc : v2 = 0 := of_decide_eq_true hc
          rw [if_pos hc] at hV
          refine e_aload f_90_41 rfl (by decide) ?_
          refine e_iconst (c := 3) f_90_42 (by decide) ?_
          obtain ⟨P3, hP3, hV⟩ := hV
          refine e_vi (n := 2) (A := [.ref 8, .int 3]) (R := []) f_90_43 na_45 rfl rfl (Nat.le_of_ble_eq_true rfl) (Nat.le_of_ble_eq_true rfl) (by rw [ml_45]; exact Nat.le_of_ble_eq_true rfl) rfl (by rw [cy_45]; decide) (by rw [cy_45]; exact (by decide : x_tg 8 = 5)) hP3 (fun v3 S3 hp3 => ?_)
          have hV := hV v3 S3 hp3
          exact e_ireturn f_90_46 rt_90 rfl hV
        · have hc : ¬ v2 = 0 := fun z => hc (decide_eq_true z)
          rw [if_neg hc] at hV
          refine e_aload f_90_33 rfl (by decide) ?_
          refine e_iload f_90_34 rfl ?_
          obtain ⟨P4, hP4, hV⟩ := hV
          refine e_vi (n := 2) (A := [.ref 8, .int a1]) (R := []) f_90_35 na_46 rfl rfl (Nat.le_of_ble_eq_true rfl) (Nat.le_of_ble_eq_true rfl) (by rw [ml_46]; exact Nat.le_of_ble_eq_true rfl) rfl (by rw [cy_46]; decide) (by rw [cy_46]; exact (by decide : x_tg 8 = 5)) hP4 (fun v4 S4 hp4 => ?_)
          have hV := hV v4 S4 hp4
          refine e_goto f_90_38 ?_
          exact e_ireturn f_90_46 rt_90 rfl hV
      · have hc : ¬ a2 < 6 := fun z => hc (decide_eq_true z)
        rw [if_neg hc] at hV
        refine e_iconst (c := (-1000001)) f_90_18 (by decide) ?_
        exact e_ireturn f_90_20 rt_90 rfl hV
set_option maxRecDepth 20000 in
theorem T_91_0 {xs : List Int32} {d : Nat} {S : x_M} {Q : Option Value → x_M → Prop} {a1 : Int32} {a2 : Int32}  (hV : ∃ P1 : Int32 → x_M → Prop, x_Ci xs d 60 [.ref 8, .int a1] S P1 ∧ ∀ (v1 : Int32) (S1 : x_M), P1 v1 S1 → (if v1 = 0 then (Q (some (.int (-1000001))) S1) else (if a2 = 0 then (x_E xs (d + 1) 91 20 [.ref 8, .int a1, .int a2] [] S1 Q) else (if a2 = 1 then (x_E xs (d + 1) 91 20 [.ref 8, .int a1, .int a2] [] S1 Q) else (Q (some (.int (-1000001))) S1))))) : x_E xs (d + 1) 91 0 [.ref 8, .int a1, .int a2] [] S Q := by
  refine e_aload f_91_0 rfl (by decide) ?_
  refine e_iload f_91_1 rfl ?_
  obtain ⟨P1, hP1, hV⟩ := hV
  refine e_vi (n := 2) (A := [.ref 8, .int a1]) (R := []) f_91_2 na_60 rfl rfl (Nat.le_of_ble_eq_true rfl) (Nat.le_of_ble_eq_true rfl) (by rw [ml_60]; exact Nat.le_of_ble_eq_true rfl) rfl (by rw [cy_60]; decide) (by rw [cy_60]; exact (by decide : x_tg 8 = 5)) hP1 (fun v1 S1 hp1 => ?_)
  have hV := hV v1 S1 hp1
  refine e_if f_91_5 (fun hc => ?_) (fun hc => ?_)
  · have hc : v1 = 0 := of_decide_eq_true hc
    rw [if_pos hc] at hV
    refine e_iconst (c := (-1000001)) f_91_17 (by decide) ?_
    exact e_ireturn f_91_19 rt_91 rfl hV
  · have hc : ¬ v1 = 0 := fun z => hc (decide_eq_true z)
    rw [if_neg hc] at hV
    refine e_iload f_91_8 rfl ?_
    refine e_if f_91_9 (fun hc => ?_) (fun hc => ?_)
    · have hc : a2 = 0 := of_decide_eq_true hc
      rw [if_pos hc] at hV
      exact hV
    · have hc : ¬ a2 = 0 := fun z => hc (decide_eq_true z)
      rw [if_neg hc] at hV
      refine e_iload f_91_12 rfl ?_
      refine e_iconst (c := 1) f_91_13 (by decide) ?_
      refine e_icmp f_91_14 (fun hc => ?_) (fun hc => ?_)
      · have hc : a2 = 1 := of_decide_eq_true hc
        rw [if_pos hc] at hV
        exact hV
      · have hc : ¬ a2 = 1 := fun z => hc (decide_eq_true z)
        rw [if_neg hc] at hV
        refine e_iconst (c := (-1000001)) f_91_17 (by decide) ?_
        exact e_ireturn f_91_19 rt_91 rfl hV
set_option maxRecDepth 20000 in
theorem T_91_20 {xs : List Int32} {d : Nat} {S : x_M} {Q : Option Value → x_M → Prop} {a1 : Int32} {a2 : Int32}  (hV : ∃ P1 : Int32 → x_M → Prop, x_Ci xs d 92 [.ref 12, .int a1, .int a2] (x_up S 28 1 0) P1 ∧ ∀ (v1 : Int32) (S1 : x_M), P1 v1 S1 → (∃ P2 : Int32 → x_M → Prop, x_Ci xs d 93 [.int v1, .ref 12, .int a1, .ref 28, .int 0] S1 P2 ∧ ∀ (v2 : Int32) (S2 : x_M), P2 v2 S2 → (Q (some (.int v2)) S2))) : x_E xs (d + 1) 91 20 [.ref 8, .int a1, .int a2] [] S Q := by
  refine e_aload f_91_20 rfl (by decide) ?_
  refine e_gr (c := 5) (j := 7) (r := 28) f_91_21 (by decide) (by decide) (by decide) (by decide) ?_
  refine e_iconst (c := 0) f_91_24 (by decide) ?_
  refine e_pf (c := 4) (j := 1) f_91_25 (by decide) (by decide) (by decide) (x_fit_i rfl) ?_
  refine e_aload f_91_28 rfl (by decide) ?_
  refine e_gr (c := 5) (j := 2) (r := 12) f_91_29 (by decide) (by decide) (by decide) (by decide) ?_
  refine e_iload f_91_32 rfl ?_
  refine e_iload f_91_33 rfl ?_
  obtain ⟨P1, hP1, hV⟩ := hV
  refine e_si (n := 3) (A := [.ref 12, .int a1, .int a2]) (R := []) f_91_34 na_92 rfl rfl (Nat.le_of_ble_eq_true rfl) (Nat.le_of_ble_eq_true rfl) (by rw [ml_92]; exact Nat.le_of_ble_eq_true rfl) hP1 (fun v1 S1 hp1 => ?_)
  have hV := hV v1 S1 hp1
  refine e_aload f_91_37 rfl (by decide) ?_
  refine e_gr (c := 5) (j := 2) (r := 12) f_91_38 (by decide) (by decide) (by decide) (by decide) ?_
  refine e_iload f_91_41 rfl ?_
  refine e_aload f_91_42 rfl (by decide) ?_
  refine e_gr (c := 5) (j := 7) (r := 28) f_91_43 (by decide) (by decide) (by decide) (by decide) ?_
  refine e_iconst (c := 0) f_91_46 (by decide) ?_
  obtain ⟨P2, hP2, hV⟩ := hV
  refine e_si (n := 5) (A := [.int v1, .ref 12, .int a1, .ref 28, .int 0]) (R := []) f_91_47 na_93 rfl rfl (Nat.le_of_ble_eq_true rfl) (Nat.le_of_ble_eq_true rfl) (by rw [ml_93]; exact Nat.le_of_ble_eq_true rfl) hP2 (fun v2 S2 hp2 => ?_)
  have hV := hV v2 S2 hp2
  exact e_ireturn f_91_50 rt_91 rfl hV
set_option maxRecDepth 20000 in
theorem T_92_0 {xs : List Int32} {d : Nat} {S : x_M} {Q : Option Value → x_M → Prop} {a0 : Nat} {a1 : Int32} {a2 : Int32} (ha0 : x_tg a0 = 0) (hV : if a2 = 0 then (x_E xs (d + 1) 92 13 [.ref a0, .int a1, .int a2, .null, .null] [.ref 1] S Q) else (x_E xs (d + 1) 92 13 [.ref a0, .int a1, .int a2, .null, .null] [.ref 2] S Q)) : x_E xs (d + 1) 92 0 [.ref a0, .int a1, .int a2, .null, .null] [] S Q := by
  refine e_iload f_92_0 rfl ?_
  refine e_if f_92_1 (fun hc => ?_) (fun hc => ?_)
  · have hc : ¬ a2 = 0 := of_decide_eq_true hc
    rw [if_neg hc] at hV
    refine e_gs1 f_92_10 ?_
    exact hV
  · have hc : a2 = 0 := Decidable.not_not.mp (fun z => hc (decide_eq_true z))
    rw [if_pos hc] at hV
    refine e_gs0 f_92_4 ?_
    refine e_goto f_92_7 ?_
    exact hV
set_option maxRecDepth 20000 in
theorem T_92_13 {xs : List Int32} {d : Nat} {S : x_M} {Q : Option Value → x_M → Prop} {a0 : Nat} {a1 : Int32} {a2 : Int32} {s0 : Nat} (ha0 : x_tg a0 = 0) (hs0 : s0 ≤ 2) (hV : ∃ P1 : Int32 → x_M → Prop, x_Ci xs d 88 [.ref a0, .int a1] S P1 ∧ ∀ (v1 : Int32) (S1 : x_M), P1 v1 S1 → (if v1 < 0 then ((x_ib 0 (x_ol xs s0)) ∧ (Q (some (.int (x_oa xs s0 (Int32.toNatClampNeg 0)))) S1)) else (if (Int32.ofNat (x_ol xs s0)) ≤ v1 then ((x_ib 0 (x_ol xs s0)) ∧ (Q (some (.int (x_oa xs s0 (Int32.toNatClampNeg 0)))) S1)) else ((x_ib v1 (x_ol xs s0)) ∧ (Q (some (.int (x_oa xs s0 (Int32.toNatClampNeg v1)))) S1))))) : x_E xs (d + 1) 92 13 [.ref a0, .int a1, .int a2, .null, .null] [.ref s0] S Q := by
  refine e_astore (L' := [.ref a0, .int a1, .int a2, .ref s0, .null]) f_92_13 (Nat.le_of_ble_eq_true rfl) (by omega) rfl ?_
  refine e_aload f_92_14 rfl (x_n7 ha0 (by decide)) ?_
  refine e_iload f_92_15 rfl ?_
  obtain ⟨P1, hP1, hV⟩ := hV
  refine e_si (n := 2) (A := [.ref a0, .int a1]) (R := []) f_92_16 na_88 rfl rfl (Nat.le_of_ble_eq_true rfl) (Nat.le_of_ble_eq_true rfl) (by rw [ml_88]; exact Nat.le_of_ble_eq_true rfl) hP1 (fun v1 S1 hp1 => ?_)
  have hV := hV v1 S1 hp1
  refine e_istore (L' := [.ref a0, .int a1, .int a2, .ref s0, .int v1]) f_92_19 (Nat.le_of_ble_eq_true rfl) rfl ?_
  refine e_iload f_92_21 rfl ?_
  refine e_if f_92_23 (fun hc => ?_) (fun hc => ?_)
  · have hc : v1 < 0 := of_decide_eq_true hc
    rw [if_pos hc] at hV
    refine e_aload f_92_40 rfl (by omega) ?_
    refine e_iconst (c := 0) f_92_41 (by decide) ?_
    obtain ⟨hg, hV⟩ := hV
    refine e_iao f_92_42 hs0 hg ?_
    exact e_ireturn f_92_43 rt_92 rfl hV
  · have hc : ¬ v1 < 0 := fun z => hc (decide_eq_true z)
    rw [if_neg hc] at hV
    refine e_iload f_92_26 rfl ?_
    refine e_aload f_92_28 rfl (by omega) ?_
    refine e_alo f_92_29 hs0 ?_
    refine e_icmp f_92_30 (fun hc => ?_) (fun hc => ?_)
    · have hc : (Int32.ofNat (x_ol xs s0)) ≤ v1 := of_decide_eq_true hc
      rw [if_pos hc] at hV
      refine e_aload f_92_40 rfl (by omega) ?_
      refine e_iconst (c := 0) f_92_41 (by decide) ?_
      obtain ⟨hg, hV⟩ := hV
      refine e_iao f_92_42 hs0 hg ?_
      exact e_ireturn f_92_43 rt_92 rfl hV
    · have hc : ¬ (Int32.ofNat (x_ol xs s0)) ≤ v1 := fun z => hc (decide_eq_true z)
      rw [if_neg hc] at hV
      refine e_aload f_92_33 rfl (by omega) ?_
      refine e_iload f_92_34 rfl ?_
      obtain ⟨hg, hV⟩ := hV
      refine e_iao f_92_36 hs0 hg ?_
      refine e_goto f_92_37 ?_
      exact e_ireturn f_92_43 rt_92 rfl hV
set_option maxRecDepth 20000 in
theorem T_93_0 {xs : List Int32} {d : Nat} {S : x_M} {Q : Option Value → x_M → Prop} {a0 : Int32} {a1 : Nat} {a2 : Int32} {a4 : Int32} (ha1 : x_tg a1 = 0) (hV : if a4 ≤ 12 then (∃ P1 : x_M → Prop, x_Cv xs d 41 [.ref 28, .int a0] S P1 ∧ ∀ (S1 : x_M), P1 S1 → (if a0 = 10 then (∃ P2 : Int32 → x_M → Prop, x_Ci xs d 8 [.ref a1, .int a2, .int 0] S1 P2 ∧ ∀ (v2 : Int32) (S2 : x_M), P2 v2 S2 → (∃ P3 : Int32 → x_M → Prop, x_Ci xs d 179 [.int v2] S2 P3 ∧ ∀ (v3 : Int32) (S3 : x_M), P3 v3 S3 → (Q (some (.int v3)) S3))) else (if a0 = 11 then (∃ P4 : Int32 → x_M → Prop, x_Ci xs d 93 [.int 10, .ref a1, .int a2, .ref 28, .int (a4 + 1)] S1 P4 ∧ ∀ (v4 : Int32) (S4 : x_M), P4 v4 S4 → (∃ P5 : Int32 → x_M → Prop, x_Ci xs d 92 [.ref a1, .int a2, .int 1] S4 P5 ∧ ∀ (v5 : Int32) (S5 : x_M), P5 v5 S5 → (∃ P6 : Int32 → x_M → Prop, x_Ci xs d 93 [.int v5, .ref a1, .int a2, .ref 28, .int (a4 + 1)] S5 P6 ∧ ∀ (v6 : Int32) (S6 : x_M), P6 v6 S6 → (Q (some (.int (v4 + v6))) S6)))) else (if a0 = 12 then (∃ P7 : Int32 → x_M → Prop, x_Ci xs d 93 [.int 11, .ref a1, .int a2, .ref 28, .int (a4 + 1)] S1 P7 ∧ ∀ (v7 : Int32) (S7 : x_M), P7 v7 S7 → (Q (some (.int (2 * v7))) S7)) else (if a0 = 13 then (∃ P8 : Int32 → x_M → Prop, x_Ci xs d 93 [.int 11, .ref a1, .int a2, .ref 28, .int (a4 + 1)] S1 P8 ∧ ∀ (v8 : Int32) (S8 : x_M), P8 v8 S8 → (Q (some (.int (-v8))) S8)) else (if a0 = 14 then (∃ P9 : Int32 → x_M → Prop, x_Ci xs d 93 [.int 10, .ref a1, .int a2, .ref 28, .int (a4 + 1)] S1 P9 ∧ ∀ (v9 : Int32) (S9 : x_M), P9 v9 S9 → (Q (some (.int (v9 - 100))) S9)) else (if a0 = 15 then (Q (some (.int 0)) S1) else (if a0 = 16 then (Q (some (.int 0)) S1) else (if a0 = 17 then (Q (some (.int 0)) S1) else (if a0 = 18 then (Q (some (.int 0)) S1) else (if a0 = 19 then (Q (some (.int 0)) S1) else (if a0 = 20 then (Q (some (.int a2)) S1) else (if a0 = 21 then (∃ P10 : Int32 → x_M → Prop, x_Ci xs d 93 [.int 20, .ref a1, .int a2, .ref 28, .int (a4 + 1)] S1 P10 ∧ ∀ (v10 : Int32) (S10 : x_M), P10 v10 S10 → (∃ P11 : Int32 → x_M → Prop, x_Ci xs d 8 [.ref a1, .int a2, .int 0] S10 P11 ∧ ∀ (v11 : Int32) (S11 : x_M), P11 v11 S11 → (∃ P12 : Int32 → x_M → Prop, x_Ci xs d 9 [.ref a1, .int v11] S11 P12 ∧ ∀ (v12 : Int32) (S12 : x_M), P12 v12 S12 → (Q (some (.int (v10 + v12))) S12)))) else (if a0 = 22 then (∃ P13 : Int32 → x_M → Prop, x_Ci xs d 93 [.int 21, .ref a1, .int a2, .ref 28, .int (a4 + 1)] S1 P13 ∧ ∀ (v13 : Int32) (S13 : x_M), P13 v13 S13 → (Q (some (.int (v13 - 1000))) S13)) else (if a0 = 23 then (∃ P14 : Int32 → x_M → Prop, x_Ci xs d 93 [.int 20, .ref a1, .int a2, .ref 28, .int (a4 + 1)] S1 P14 ∧ ∀ (v14 : Int32) (S14 : x_M), P14 v14 S14 → (∃ P15 : Int32 → x_M → Prop, x_Ci xs d 92 [.ref a1, .int a2, .int 0] S14 P15 ∧ ∀ (v15 : Int32) (S15 : x_M), P15 v15 S15 → (∃ P16 : Int32 → x_M → Prop, x_Ci xs d 93 [.int v15, .ref a1, .int a2, .ref 28, .int (a4 + 1)] S15 P16 ∧ ∀ (v16 : Int32) (S16 : x_M), P16 v16 S16 → (Q (some (.int (v14 + v16))) S16)))) else (if a0 = 24 then (∃ P17 : Int32 → x_M → Prop, x_Ci xs d 93 [.int 21, .ref a1, .int a2, .ref 28, .int (a4 + 1)] S1 P17 ∧ ∀ (v17 : Int32) (S17 : x_M), P17 v17 S17 → (Q (some (.int (v17 + 500))) S17)) else (Q (some (.int 0)) S1))))))))))))))))) else (Q (some (.int 0)) S)) : x_E xs (d + 1) 93 0 [.int a0, .ref a1, .int a2, .ref 28, .int a4, .null, .null] [] S Q := by
  refine e_iload f_93_0 rfl ?_
  refine e_iconst (c := 12) f_93_2 (by decide) ?_
  refine e_icmp f_93_4 (fun hc => ?_) (fun hc => ?_)
  · have hc : a4 ≤ 12 := of_decide_eq_true hc
    rw [if_pos hc] at hV
    refine e_aload f_93_9 rfl (by decide) ?_
    refine e_iload f_93_10 rfl ?_
    obtain ⟨P1, hP1, hV⟩ := hV
    refine e_vv (n := 2) (A := [.ref 28, .int a0]) (R := []) f_93_11 na_41 rfl rfl (Nat.le_of_ble_eq_true rfl) (Nat.le_of_ble_eq_true rfl) (by rw [ml_41]; exact Nat.le_of_ble_eq_true rfl) rfl (by rw [cy_41]; decide) (by rw [cy_41]; exact (by decide : x_tg 28 = 4)) hP1 (fun S1 hp1 => ?_)
    have hV := hV S1 hp1
    refine e_iload f_93_14 rfl ?_
    refine e_iconst (c := 1) f_93_16 (by decide) ?_
    refine e_iadd f_93_17 ?_
    refine e_istore (L' := [.int a0, .ref a1, .int a2, .ref 28, .int a4, .int (a4 + 1), .null]) f_93_18 (Nat.le_of_ble_eq_true rfl) rfl ?_
    refine e_iload f_93_20 rfl ?_
    by_cases hx0 : a0 = 10
    · rw [if_pos hx0] at hV
      refine e_ts f_93_21 hx0 (t := 96) (by decide) ?_
      refine e_aload f_93_96 rfl (x_n7 ha1 (by decide)) ?_
      refine e_iload f_93_97 rfl ?_
      refine e_iconst (c := 0) f_93_98 (by decide) ?_
      obtain ⟨P2, hP2, hV⟩ := hV
      refine e_vi (n := 3) (A := [.ref a1, .int a2, .int 0]) (R := []) f_93_99 na_8 rfl rfl (Nat.le_of_ble_eq_true rfl) (Nat.le_of_ble_eq_true rfl) (by rw [ml_8]; exact Nat.le_of_ble_eq_true rfl) rfl (by rw [cy_8]; decide) (by rw [cy_8]; exact ha1) hP2 (fun v2 S2 hp2 => ?_)
      have hV := hV v2 S2 hp2
      obtain ⟨P3, hP3, hV⟩ := hV
      refine e_si (n := 1) (A := [.int v2]) (R := []) f_93_102 na_179 rfl rfl (Nat.le_of_ble_eq_true rfl) (Nat.le_of_ble_eq_true rfl) (by rw [ml_179]; exact Nat.le_of_ble_eq_true rfl) hP3 (fun v3 S3 hp3 => ?_)
      have hV := hV v3 S3 hp3
      exact e_ireturn f_93_105 rt_93 rfl hV
    rw [if_neg hx0] at hV
    by_cases hx1 : a0 = 11
    · rw [if_pos hx1] at hV
      refine e_ts f_93_21 hx1 (t := 106) (by decide) ?_
      refine e_iconst (c := 10) f_93_106 (by decide) ?_
      refine e_aload f_93_108 rfl (x_n7 ha1 (by decide)) ?_
      refine e_iload f_93_109 rfl ?_
      refine e_aload f_93_110 rfl (by decide) ?_
      refine e_iload f_93_111 rfl ?_
      obtain ⟨P4, hP4, hV⟩ := hV
      refine e_si (n := 5) (A := [.int 10, .ref a1, .int a2, .ref 28, .int (a4 + 1)]) (R := []) f_93_113 na_93 rfl rfl (Nat.le_of_ble_eq_true rfl) (Nat.le_of_ble_eq_true rfl) (by rw [ml_93]; exact Nat.le_of_ble_eq_true rfl) hP4 (fun v4 S4 hp4 => ?_)
      have hV := hV v4 S4 hp4
      refine e_istore (L' := [.int a0, .ref a1, .int a2, .ref 28, .int a4, .int (a4 + 1), .int v4]) f_93_116 (Nat.le_of_ble_eq_true rfl) rfl ?_
      refine e_iload f_93_118 rfl ?_
      refine e_aload f_93_120 rfl (x_n7 ha1 (by decide)) ?_
      refine e_iload f_93_121 rfl ?_
      refine e_iconst (c := 1) f_93_122 (by decide) ?_
      obtain ⟨P5, hP5, hV⟩ := hV
      refine e_si (n := 3) (A := [.ref a1, .int a2, .int 1]) (R := [.int v4]) f_93_123 na_92 rfl rfl (Nat.le_of_ble_eq_true rfl) (Nat.le_of_ble_eq_true rfl) (by rw [ml_92]; exact Nat.le_of_ble_eq_true rfl) hP5 (fun v5 S5 hp5 => ?_)
      have hV := hV v5 S5 hp5
      refine e_aload f_93_126 rfl (x_n7 ha1 (by decide)) ?_
      refine e_iload f_93_127 rfl ?_
      refine e_aload f_93_128 rfl (by decide) ?_
      refine e_iload f_93_129 rfl ?_
      obtain ⟨P6, hP6, hV⟩ := hV
      refine e_si (n := 5) (A := [.int v5, .ref a1, .int a2, .ref 28, .int (a4 + 1)]) (R := [.int v4]) f_93_131 na_93 rfl rfl (Nat.le_of_ble_eq_true rfl) (Nat.le_of_ble_eq_true rfl) (by rw [ml_93]; exact Nat.le_of_ble_eq_true rfl) hP6 (fun v6 S6 hp6 => ?_)
      have hV := hV v6 S6 hp6
      refine e_iadd f_93_134 ?_
      exact e_ireturn f_93_135 rt_93 rfl hV
    rw [if_neg hx1] at hV
    by_cases hx2 : a0 = 12
    · rw [if_pos hx2] at hV
      refine e_ts f_93_21 hx2 (t := 136) (by decide) ?_
      refine e_iconst (c := 2) f_93_136 (by decide) ?_
      refine e_iconst (c := 11) f_93_137 (by decide) ?_
      refine e_aload f_93_139 rfl (x_n7 ha1 (by decide)) ?_
      refine e_iload f_93_140 rfl ?_
      refine e_aload f_93_141 rfl (by decide) ?_
      refine e_iload f_93_142 rfl ?_
      obtain ⟨P7, hP7, hV⟩ := hV
      refine e_si (n := 5) (A := [.int 11, .ref a1, .int a2, .ref 28, .int (a4 + 1)]) (R := [.int 2]) f_93_144 na_93 rfl rfl (Nat.le_of_ble_eq_true rfl) (Nat.le_of_ble_eq_true rfl) (by rw [ml_93]; exact Nat.le_of_ble_eq_true rfl) hP7 (fun v7 S7 hp7 => ?_)
      have hV := hV v7 S7 hp7
      refine e_imul f_93_147 ?_
      exact e_ireturn f_93_148 rt_93 rfl hV
    rw [if_neg hx2] at hV
    by_cases hx3 : a0 = 13
    · rw [if_pos hx3] at hV
      refine e_ts f_93_21 hx3 (t := 149) (by decide) ?_
      refine e_iconst (c := 11) f_93_149 (by decide) ?_
      refine e_aload f_93_151 rfl (x_n7 ha1 (by decide)) ?_
      refine e_iload f_93_152 rfl ?_
      refine e_aload f_93_153 rfl (by decide) ?_
      refine e_iload f_93_154 rfl ?_
      obtain ⟨P8, hP8, hV⟩ := hV
      refine e_si (n := 5) (A := [.int 11, .ref a1, .int a2, .ref 28, .int (a4 + 1)]) (R := []) f_93_156 na_93 rfl rfl (Nat.le_of_ble_eq_true rfl) (Nat.le_of_ble_eq_true rfl) (by rw [ml_93]; exact Nat.le_of_ble_eq_true rfl) hP8 (fun v8 S8 hp8 => ?_)
      have hV := hV v8 S8 hp8
      refine e_ineg f_93_159 ?_
      exact e_ireturn f_93_160 rt_93 rfl hV
    rw [if_neg hx3] at hV
    by_cases hx4 : a0 = 14
    · rw [if_pos hx4] at hV
      refine e_ts f_93_21 hx4 (t := 161) (by decide) ?_
      refine e_iconst (c := 10) f_93_161 (by decide) ?_
      refine e_aload f_93_163 rfl (x_n7 ha1 (by decide)) ?_
      refine e_iload f_93_164 rfl ?_
      refine e_aload f_93_165 rfl (by decide) ?_
      refine e_iload f_93_166 rfl ?_
      obtain ⟨P9, hP9, hV⟩ := hV
      refine e_si (n := 5) (A := [.int 10, .ref a1, .int a2, .ref 28, .int (a4 + 1)]) (R := []) f_93_168 na_93 rfl rfl (Nat.le_of_ble_eq_true rfl) (Nat.le_of_ble_eq_true rfl) (by rw [ml_93]; exact Nat.le_of_ble_eq_true rfl) hP9 (fun v9 S9 hp9 => ?_)
      have hV := hV v9 S9 hp9
      refine e_iconst (c := 100) f_93_171 (by decide) ?_
      refine e_isub f_93_173 ?_
      exact e_ireturn f_93_174 rt_93 rfl hV
    rw [if_neg hx4] at hV
    by_cases hx5 : a0 = 15
    · rw [if_pos hx5] at hV
      refine e_ts f_93_21 hx5 (t := 259) (by decide) ?_
      refine e_iconst (c := 0) f_93_259 (by decide) ?_
      exact e_ireturn f_93_260 rt_93 rfl hV
    rw [if_neg hx5] at hV
    by_cases hx6 : a0 = 16
    · rw [if_pos hx6] at hV
      refine e_ts f_93_21 hx6 (t := 259) (by decide) ?_
      refine e_iconst (c := 0) f_93_259 (by decide) ?_
      exact e_ireturn f_93_260 rt_93 rfl hV
    rw [if_neg hx6] at hV
    by_cases hx7 : a0 = 17
    · rw [if_pos hx7] at hV
      refine e_ts f_93_21 hx7 (t := 259) (by decide) ?_
      refine e_iconst (c := 0) f_93_259 (by decide) ?_
      exact e_ireturn f_93_260 rt_93 rfl hV
    rw [if_neg hx7] at hV
    by_cases hx8 : a0 = 18
    · rw [if_pos hx8] at hV
      refine e_ts f_93_21 hx8 (t := 259) (by decide) ?_
      refine e_iconst (c := 0) f_93_259 (by decide) ?_
      exact e_ireturn f_93_260 rt_93 rfl hV
    rw [if_neg hx8] at hV
    by_cases hx9 : a0 = 19
    · rw [if_pos hx9] at hV
      refine e_ts f_93_21 hx9 (t := 259) (by decide) ?_
      refine e_iconst (c := 0) f_93_259 (by decide) ?_
      exact e_ireturn f_93_260 rt_93 rfl hV
    rw [if_neg hx9] at hV
    by_cases hx10 : a0 = 20
    · rw [if_pos hx10] at hV
      refine e_ts f_93_21 hx10 (t := 175) (by decide) ?_
      refine e_iload f_93_175 rfl ?_
      exact e_ireturn f_93_176 rt_93 rfl hV
    rw [if_neg hx10] at hV
    by_cases hx11 : a0 = 21
    · rw [if_pos hx11] at hV
      refine e_ts f_93_21 hx11 (t := 177) (by decide) ?_
      refine e_iconst (c := 20) f_93_177 (by decide) ?_
      refine e_aload f_93_179 rfl (x_n7 ha1 (by decide)) ?_
      refine e_iload f_93_180 rfl ?_
      refine e_aload f_93_181 rfl (by decide) ?_
      refine e_iload f_93_182 rfl ?_
      obtain ⟨P10, hP10, hV⟩ := hV
      refine e_si (n := 5) (A := [.int 20, .ref a1, .int a2, .ref 28, .int (a4 + 1)]) (R := []) f_93_184 na_93 rfl rfl (Nat.le_of_ble_eq_true rfl) (Nat.le_of_ble_eq_true rfl) (by rw [ml_93]; exact Nat.le_of_ble_eq_true rfl) hP10 (fun v10 S10 hp10 => ?_)
      have hV := hV v10 S10 hp10
      refine e_aload f_93_187 rfl (x_n7 ha1 (by decide)) ?_
      refine e_aload f_93_188 rfl (x_n7 ha1 (by decide)) ?_
      refine e_iload f_93_189 rfl ?_
      refine e_iconst (c := 0) f_93_190 (by decide) ?_
      obtain ⟨P11, hP11, hV⟩ := hV
      refine e_vi (n := 3) (A := [.ref a1, .int a2, .int 0]) (R := [.ref a1, .int v10]) f_93_191 na_8 rfl rfl (Nat.le_of_ble_eq_true rfl) (Nat.le_of_ble_eq_true rfl) (by rw [ml_8]; exact Nat.le_of_ble_eq_true rfl) rfl (by rw [cy_8]; decide) (by rw [cy_8]; exact ha1) hP11 (fun v11 S11 hp11 => ?_)
      have hV := hV v11 S11 hp11
      obtain ⟨P12, hP12, hV⟩ := hV
      refine e_vi (n := 2) (A := [.ref a1, .int v11]) (R := [.int v10]) f_93_194 na_9 rfl rfl (Nat.le_of_ble_eq_true rfl) (Nat.le_of_ble_eq_true rfl) (by rw [ml_9]; exact Nat.le_of_ble_eq_true rfl) rfl (by rw [cy_9]; decide) (by rw [cy_9]; exact ha1) hP12 (fun v12 S12 hp12 => ?_)
      have hV := hV v12 S12 hp12
      refine e_iadd f_93_197 ?_
      exact e_ireturn f_93_198 rt_93 rfl hV
    rw [if_neg hx11] at hV
    by_cases hx12 : a0 = 22
    · rw [if_pos hx12] at hV
      refine e_ts f_93_21 hx12 (t := 199) (by decide) ?_
      refine e_iconst (c := 21) f_93_199 (by decide) ?_
      refine e_aload f_93_201 rfl (x_n7 ha1 (by decide)) ?_
      refine e_iload f_93_202 rfl ?_
      refine e_aload f_93_203 rfl (by decide) ?_
      refine e_iload f_93_204 rfl ?_
      obtain ⟨P13, hP13, hV⟩ := hV
      refine e_si (n := 5) (A := [.int 21, .ref a1, .int a2, .ref 28, .int (a4 + 1)]) (R := []) f_93_206 na_93 rfl rfl (Nat.le_of_ble_eq_true rfl) (Nat.le_of_ble_eq_true rfl) (by rw [ml_93]; exact Nat.le_of_ble_eq_true rfl) hP13 (fun v13 S13 hp13 => ?_)
      have hV := hV v13 S13 hp13
      refine e_iconst (c := 1000) f_93_209 (by decide) ?_
      refine e_isub f_93_212 ?_
      exact e_ireturn f_93_213 rt_93 rfl hV
    rw [if_neg hx12] at hV
    by_cases hx13 : a0 = 23
    · rw [if_pos hx13] at hV
      refine e_ts f_93_21 hx13 (t := 214) (by decide) ?_
      refine e_iconst (c := 20) f_93_214 (by decide) ?_
      refine e_aload f_93_216 rfl (x_n7 ha1 (by decide)) ?_
      refine e_iload f_93_217 rfl ?_
      refine e_aload f_93_218 rfl (by decide) ?_
      refine e_iload f_93_219 rfl ?_
      obtain ⟨P14, hP14, hV⟩ := hV
      refine e_si (n := 5) (A := [.int 20, .ref a1, .int a2, .ref 28, .int (a4 + 1)]) (R := []) f_93_221 na_93 rfl rfl (Nat.le_of_ble_eq_true rfl) (Nat.le_of_ble_eq_true rfl) (by rw [ml_93]; exact Nat.le_of_ble_eq_true rfl) hP14 (fun v14 S14 hp14 => ?_)
      have hV := hV v14 S14 hp14
      refine e_istore (L' := [.int a0, .ref a1, .int a2, .ref 28, .int a4, .int (a4 + 1), .int v14]) f_93_224 (Nat.le_of_ble_eq_true rfl) rfl ?_
      refine e_iload f_93_226 rfl ?_
      refine e_aload f_93_228 rfl (x_n7 ha1 (by decide)) ?_
      refine e_iload f_93_229 rfl ?_
      refine e_iconst (c := 0) f_93_230 (by decide) ?_
      obtain ⟨P15, hP15, hV⟩ := hV
      refine e_si (n := 3) (A := [.ref a1, .int a2, .int 0]) (R := [.int v14]) f_93_231 na_92 rfl rfl (Nat.le_of_ble_eq_true rfl) (Nat.le_of_ble_eq_true rfl) (by rw [ml_92]; exact Nat.le_of_ble_eq_true rfl) hP15 (fun v15 S15 hp15 => ?_)
      have hV := hV v15 S15 hp15
      refine e_aload f_93_234 rfl (x_n7 ha1 (by decide)) ?_
      refine e_iload f_93_235 rfl ?_
      refine e_aload f_93_236 rfl (by decide) ?_
      refine e_iload f_93_237 rfl ?_
      obtain ⟨P16, hP16, hV⟩ := hV
      refine e_si (n := 5) (A := [.int v15, .ref a1, .int a2, .ref 28, .int (a4 + 1)]) (R := [.int v14]) f_93_239 na_93 rfl rfl (Nat.le_of_ble_eq_true rfl) (Nat.le_of_ble_eq_true rfl) (by rw [ml_93]; exact Nat.le_of_ble_eq_true rfl) hP16 (fun v16 S16 hp16 => ?_)
      have hV := hV v16 S16 hp16
      refine e_iadd f_93_242 ?_
      exact e_ireturn f_93_243 rt_93 rfl hV
    rw [if_neg hx13] at hV
    by_cases hx14 : a0 = 24
    · rw [if_pos hx14] at hV
      refine e_ts f_93_21 hx14 (t := 244) (by decide) ?_
      refine e_iconst (c := 21) f_93_244 (by decide) ?_
      refine e_aload f_93_246 rfl (x_n7 ha1 (by decide)) ?_
      refine e_iload f_93_247 rfl ?_
      refine e_aload f_93_248 rfl (by decide) ?_
      refine e_iload f_93_249 rfl ?_
      obtain ⟨P17, hP17, hV⟩ := hV
      refine e_si (n := 5) (A := [.int 21, .ref a1, .int a2, .ref 28, .int (a4 + 1)]) (R := []) f_93_251 na_93 rfl rfl (Nat.le_of_ble_eq_true rfl) (Nat.le_of_ble_eq_true rfl) (by rw [ml_93]; exact Nat.le_of_ble_eq_true rfl) hP17 (fun v17 S17 hp17 => ?_)
      have hV := hV v17 S17 hp17
      refine e_iconst (c := 500) f_93_254 (by decide) ?_
      refine e_iadd f_93_257 ?_
      exact e_ireturn f_93_258 rt_93 rfl hV
    rw [if_neg hx14] at hV
    have hy0 := lv_neT (a := 10) hx0 (by decide)
    have hy1 := lv_neT (a := 11) hx1 (by decide)
    have hy2 := lv_neT (a := 12) hx2 (by decide)
    have hy3 := lv_neT (a := 13) hx3 (by decide)
    have hy4 := lv_neT (a := 14) hx4 (by decide)
    have hy5 := lv_neT (a := 15) hx5 (by decide)
    have hy6 := lv_neT (a := 16) hx6 (by decide)
    have hy7 := lv_neT (a := 17) hx7 (by decide)
    have hy8 := lv_neT (a := 18) hx8 (by decide)
    have hy9 := lv_neT (a := 19) hx9 (by decide)
    have hy10 := lv_neT (a := 20) hx10 (by decide)
    have hy11 := lv_neT (a := 21) hx11 (by decide)
    have hy12 := lv_neT (a := 22) hx12 (by decide)
    have hy13 := lv_neT (a := 23) hx13 (by decide)
    have hy14 := lv_neT (a := 24) hx14 (by decide)
    refine e_tsd f_93_21 (by omega) (t := 259) (by decide) ?_
    refine e_iconst (c := 0) f_93_259 (by decide) ?_
    exact e_ireturn f_93_260 rt_93 rfl hV
  · have hc : ¬ a4 ≤ 12 := fun z => hc (decide_eq_true z)
    rw [if_neg hc] at hV
    refine e_iconst (c := 0) f_93_7 (by decide) ?_
    exact e_ireturn f_93_8 rt_93 rfl hV
