set_option maxRecDepth 20000 in
theorem T_94_0 {xs : List Int32} {d : Nat} {S : x_M} {Q : Option Value → x_M → Prop} {a1 : Int32}  (hV : if a1 < 0 then (Q (some (.int (-1000000))) S) else (if (S 28 1) ≤ a1 then (Q (some (.int (-1000000))) S) else ((x_ib a1 16) ∧ (Q (some (.int (S 29 (Int32.toNatClampNeg a1)))) S)))) : x_E xs (d + 1) 94 0 [.ref 8, .int a1] [] S Q := by
  refine e_iload f_94_0 rfl ?_
  refine e_if f_94_1 (fun hc => ?_) (fun hc => ?_)
  · have hc : a1 < 0 := of_decide_eq_true hc
    rw [if_pos hc] at hV
    refine e_iconst (c := (-1000000)) f_94_27 (by decide) ?_
    exact e_ireturn f_94_29 rt_94 rfl hV
  · have hc : ¬ a1 < 0 := fun z => hc (decide_eq_true z)
    rw [if_neg hc] at hV
    refine e_iload f_94_4 rfl ?_
    refine e_aload f_94_5 rfl (by decide) ?_
    refine e_gr (c := 5) (j := 7) (r := 28) f_94_6 (by decide) (by decide) (by decide) (by decide) ?_
    refine e_gf (c := 4) (j := 1) f_94_9 (by decide) (by decide) (by decide) ?_
    refine e_icmp f_94_12 (fun hc => ?_) (fun hc => ?_)
    · have hc : (S 28 1) ≤ a1 := of_decide_eq_true hc
      rw [if_pos hc] at hV
      refine e_iconst (c := (-1000000)) f_94_27 (by decide) ?_
      exact e_ireturn f_94_29 rt_94 rfl hV
    · have hc : ¬ (S 28 1) ≤ a1 := fun z => hc (decide_eq_true z)
      rw [if_neg hc] at hV
      refine e_aload f_94_15 rfl (by decide) ?_
      refine e_gr (c := 5) (j := 7) (r := 28) f_94_16 (by decide) (by decide) (by decide) (by decide) ?_
      refine e_gr (c := 4) (j := 0) (r := 29) f_94_19 (by decide) (by decide) (by decide) (by decide) ?_
      refine e_iload f_94_22 rfl ?_
      obtain ⟨hg, hV⟩ := hV
      refine e_ia (n := 16) f_94_23 (by decide) (by decide) hg ?_
      refine e_goto f_94_24 ?_
      exact e_ireturn f_94_29 rt_94 rfl hV
set_option maxRecDepth 20000 in
theorem T_95_0 {xs : List Int32} {d : Nat} {S : x_M} {Q : Option Value → x_M → Prop} {a1 : Int32}  (hV : if a1 = 0 then (∃ P1 : Int32 → x_M → Prop, x_Ci xs d 96 [.ref 8] S P1 ∧ ∀ (v1 : Int32) (S1 : x_M), P1 v1 S1 → (Q (some (.int v1)) S1)) else (if a1 = 1 then (Q (some (.int (S 12 5))) S) else (if a1 = 2 then (∃ P2 : Int32 → x_M → Prop, x_Ci xs d 13 [.ref 12] S P2 ∧ ∀ (v2 : Int32) (S2 : x_M), P2 v2 S2 → (Q (some (.int ((S 12 5) - v2))) S2)) else (if a1 = 3 then (Q (some (.int (S 10 1))) S) else (Q (some (.int (-1000001))) S))))) : x_E xs (d + 1) 95 0 [.ref 8, .int a1] [] S Q := by
  refine e_iload f_95_0 rfl ?_
  by_cases hx0 : a1 = 0
  · rw [if_pos hx0] at hV
    refine e_ts f_95_1 hx0 (t := 32) (by decide) ?_
    refine e_aload f_95_32 rfl (by decide) ?_
    obtain ⟨P1, hP1, hV⟩ := hV
    refine e_vi (n := 1) (A := [.ref 8]) (R := []) f_95_33 na_96 rfl rfl (Nat.le_of_ble_eq_true rfl) (Nat.le_of_ble_eq_true rfl) (by rw [ml_96]; exact Nat.le_of_ble_eq_true rfl) rfl (by rw [cy_96]; decide) (by rw [cy_96]; exact (by decide : x_tg 8 = 5)) hP1 (fun v1 S1 hp1 => ?_)
    have hV := hV v1 S1 hp1
    exact e_ireturn f_95_36 rt_95 rfl hV
  rw [if_neg hx0] at hV
  by_cases hx1 : a1 = 1
  · rw [if_pos hx1] at hV
    refine e_ts f_95_1 hx1 (t := 37) (by decide) ?_
    refine e_aload f_95_37 rfl (by decide) ?_
    refine e_gr (c := 5) (j := 2) (r := 12) f_95_38 (by decide) (by decide) (by decide) (by decide) ?_
    refine e_gf (c := 0) (j := 5) f_95_41 (by decide) (by decide) (by decide) ?_
    exact e_ireturn f_95_44 rt_95 rfl hV
  rw [if_neg hx1] at hV
  by_cases hx2 : a1 = 2
  · rw [if_pos hx2] at hV
    refine e_ts f_95_1 hx2 (t := 45) (by decide) ?_
    refine e_aload f_95_45 rfl (by decide) ?_
    refine e_gr (c := 5) (j := 2) (r := 12) f_95_46 (by decide) (by decide) (by decide) (by decide) ?_
    refine e_gf (c := 0) (j := 5) f_95_49 (by decide) (by decide) (by decide) ?_
    refine e_aload f_95_52 rfl (by decide) ?_
    refine e_gr (c := 5) (j := 2) (r := 12) f_95_53 (by decide) (by decide) (by decide) (by decide) ?_
    obtain ⟨P2, hP2, hV⟩ := hV
    refine e_vi (n := 1) (A := [.ref 12]) (R := [.int (S 12 5)]) f_95_56 na_13 rfl rfl (Nat.le_of_ble_eq_true rfl) (Nat.le_of_ble_eq_true rfl) (by rw [ml_13]; exact Nat.le_of_ble_eq_true rfl) rfl (by rw [cy_13]; decide) (by rw [cy_13]; exact (by decide : x_tg 12 = 0)) hP2 (fun v2 S2 hp2 => ?_)
    have hV := hV v2 S2 hp2
    refine e_isub f_95_59 ?_
    exact e_ireturn f_95_60 rt_95 rfl hV
  rw [if_neg hx2] at hV
  by_cases hx3 : a1 = 3
  · rw [if_pos hx3] at hV
    refine e_ts f_95_1 hx3 (t := 61) (by decide) ?_
    refine e_aload f_95_61 rfl (by decide) ?_
    refine e_gr (c := 5) (j := 1) (r := 10) f_95_62 (by decide) (by decide) (by decide) (by decide) ?_
    refine e_gf (c := 3) (j := 1) f_95_65 (by decide) (by decide) (by decide) ?_
    exact e_ireturn f_95_68 rt_95 rfl hV
  rw [if_neg hx3] at hV
  have hy0 := lv_neT (a := 0) hx0 (by decide)
  have hy1 := lv_neT (a := 1) hx1 (by decide)
  have hy2 := lv_neT (a := 2) hx2 (by decide)
  have hy3 := lv_neT (a := 3) hx3 (by decide)
  refine e_tsd f_95_1 (by omega) (t := 69) (by decide) ?_
  refine e_iconst (c := (-1000001)) f_95_69 (by decide) ?_
  exact e_ireturn f_95_71 rt_95 rfl hV
set_option maxRecDepth 20000 in
theorem T_96_0 {xs : List Int32} {d : Nat} {S : x_M} {Q : Option Value → x_M → Prop}   (hV : x_E xs (d + 1) 96 4 [.ref 8, .int 0, .int 0] [] S Q) : x_E xs (d + 1) 96 0 [.ref 8, .null, .null] [] S Q := by
  refine e_iconst (c := 0) f_96_0 (by decide) ?_
  refine e_istore (L' := [.ref 8, .int 0, .null]) f_96_1 (Nat.le_of_ble_eq_true rfl) rfl ?_
  refine e_iconst (c := 0) f_96_2 (by decide) ?_
  refine e_istore (L' := [.ref 8, .int 0, .int 0]) f_96_3 (Nat.le_of_ble_eq_true rfl) rfl ?_
  exact hV
set_option maxRecDepth 20000 in
theorem T_96_4 {xs : List Int32} {d : Nat} {S : x_M} {Q : Option Value → x_M → Prop} {a1 : Int32} {a2 : Int32}  (hV : if (8 : Int32) ≤ a2 then (Q (some (.int a1)) S) else ((x_ib a2 8) ∧ (if (S (x_rr 9 (Int32.toNatClampNeg a2)) 1) = 0 then (x_E xs (d + 1) 96 4 [.ref 8, .int a1, .int (a2 + 1)] [] S Q) else (x_E xs (d + 1) 96 4 [.ref 8, .int (a1 + 1), .int (a2 + 1)] [] S Q)))) : x_E xs (d + 1) 96 4 [.ref 8, .int a1, .int a2] [] S Q := by
  refine e_iload f_96_4 rfl ?_
  refine e_iconst (c := 8) f_96_5 (by decide) ?_
  refine e_icmp f_96_7 (fun hc => ?_) (fun hc => ?_)
  · have hc : (8 : Int32) ≤ a2 := of_decide_eq_true hc
    rw [if_pos hc] at hV
    refine e_iload f_96_31 rfl ?_
    exact e_ireturn f_96_32 rt_96 rfl hV
  · have hc : ¬ (8 : Int32) ≤ a2 := fun z => hc (decide_eq_true z)
    rw [if_neg hc] at hV
    refine e_aload f_96_10 rfl (by decide) ?_
    refine e_gr (c := 5) (j := 0) (r := 9) f_96_11 (by decide) (by decide) (by decide) (by decide) ?_
    refine e_iload f_96_14 rfl ?_
    obtain ⟨hg, hV⟩ := hV
    refine e_aa (c := 11) (n := 8) f_96_15 (by decide) (by decide) (by decide) hg (fun hq1 => ?_)
    have hq1 : x_tg (x_rr 9 (Int32.toNatClampNeg a2)) = 2 := hq1
    refine e_gf (c := 2) (j := 1) f_96_16 (by decide) (by decide) hq1 ?_
    refine e_if f_96_19 (fun hc => ?_) (fun hc => ?_)
    · have hc : (S (x_rr 9 (Int32.toNatClampNeg a2)) 1) = 0 := of_decide_eq_true hc
      rw [if_pos hc] at hV
      refine e_inc (c := 1) (L' := [.ref 8, .int a1, .int (a2 + 1)]) f_96_25 rfl (by decide) rfl ?_
      refine e_goto f_96_28 ?_
      exact hV
    · have hc : ¬ (S (x_rr 9 (Int32.toNatClampNeg a2)) 1) = 0 := fun z => hc (decide_eq_true z)
      rw [if_neg hc] at hV
      refine e_inc (c := 1) (L' := [.ref 8, .int (a1 + 1), .int a2]) f_96_22 rfl (by decide) rfl ?_
      refine e_inc (c := 1) (L' := [.ref 8, .int (a1 + 1), .int (a2 + 1)]) f_96_25 rfl (by decide) rfl ?_
      refine e_goto f_96_28 ?_
      exact hV
set_option maxRecDepth 20000 in
theorem T_97_0 {xs : List Int32} {d : Nat} {S : x_M} {Q : Option Value → x_M → Prop}   (hV : Q (some (.int (S 8 9))) S) : x_E xs (d + 1) 97 0 [.ref 8] [] S Q := by
  refine e_aload f_97_0 rfl (by decide) ?_
  refine e_gf (c := 5) (j := 9) f_97_1 (by decide) (by decide) (by decide) ?_
  exact e_ireturn f_97_4 rt_97 rfl hV
set_option maxRecDepth 20000 in
theorem T_99_0 {xs : List Int32} {d : Nat} {S : x_M} {Q : Option Value → x_M → Prop} {a1 : Int32} {a2 : Int32} {a3 : Int32}  (hV : ∃ P1 : Int32 → x_M → Prop, x_Ci xs d 100 [.int a1] S P1 ∧ ∀ (v1 : Int32) (S1 : x_M), P1 v1 S1 → (if v1 = 0 then (Q (some (.int (-1000001))) S1) else (∃ P2 : Int32 → x_M → Prop, x_Ci xs d 101 [.long (Int32.toInt64 a2), .long 0, .long 2] S1 P2 ∧ ∀ (v2 : Int32) (S2 : x_M), P2 v2 S2 → (if v2 = 0 then (Q (some (.int (-1000001))) S2) else (if a3 ≤ 40 then (if (0 : Int32) ≤ a3 then ((x_ib a1 8) ∧ ((x_ib a1 8) ∧ (x_E xs (d + 1) 99 55 [.ref 56, .int a1, .int a2, .int a3, .int 0] [] (x_up (x_up S2 59 (Int32.toNatClampNeg a1) a2) 60 (Int32.toNatClampNeg a1) a3) Q))) else (∃ P3 : Int32 → x_M → Prop, x_Ci xs d 102 [.ref 56, .int 4] S2 P3 ∧ ∀ (v3 : Int32) (S3 : x_M), P3 v3 S3 → (Q (some (.int v3)) S3))) else (Q (some (.int (-1000001))) S2)))))) : x_E xs (d + 1) 99 0 [.ref 56, .int a1, .int a2, .int a3, .null] [] S Q := by
  refine e_iload f_99_0 rfl ?_
  obtain ⟨P1, hP1, hV⟩ := hV
  refine e_si (n := 1) (A := [.int a1]) (R := []) f_99_1 na_100 rfl rfl (Nat.le_of_ble_eq_true rfl) (Nat.le_of_ble_eq_true rfl) (by rw [ml_100]; exact Nat.le_of_ble_eq_true rfl) hP1 (fun v1 S1 hp1 => ?_)
  have hV := hV v1 S1 hp1
  refine e_if f_99_4 (fun hc => ?_) (fun hc => ?_)
  · have hc : v1 = 0 := of_decide_eq_true hc
    rw [if_pos hc] at hV
    refine e_iconst (c := (-1000001)) f_99_25 (by decide) ?_
    exact e_ireturn f_99_27 rt_99 rfl hV
  · have hc : ¬ v1 = 0 := fun z => hc (decide_eq_true z)
    rw [if_neg hc] at hV
    refine e_iload f_99_7 rfl ?_
    refine e_i2l f_99_8 ?_
    refine e_lconst (c := 0) f_99_9 (by decide) ?_
    refine e_lconst (c := 2) f_99_10 (by decide) ?_
    obtain ⟨P2, hP2, hV⟩ := hV
    refine e_si (n := 3) (A := [.long (Int32.toInt64 a2), .long 0, .long 2]) (R := []) f_99_13 na_101 rfl rfl (Nat.le_of_ble_eq_true rfl) (Nat.le_of_ble_eq_true rfl) (by rw [ml_101]; exact Nat.le_of_ble_eq_true rfl) hP2 (fun v2 S2 hp2 => ?_)
    have hV := hV v2 S2 hp2
    refine e_if f_99_16 (fun hc => ?_) (fun hc => ?_)
    · have hc : v2 = 0 := of_decide_eq_true hc
      rw [if_pos hc] at hV
      refine e_iconst (c := (-1000001)) f_99_25 (by decide) ?_
      exact e_ireturn f_99_27 rt_99 rfl hV
    · have hc : ¬ v2 = 0 := fun z => hc (decide_eq_true z)
      rw [if_neg hc] at hV
      refine e_iload f_99_19 rfl ?_
      refine e_iconst (c := 40) f_99_20 (by decide) ?_
      refine e_icmp f_99_22 (fun hc => ?_) (fun hc => ?_)
      · have hc : a3 ≤ 40 := of_decide_eq_true hc
        rw [if_pos hc] at hV
        refine e_iload f_99_28 rfl ?_
        refine e_if f_99_29 (fun hc => ?_) (fun hc => ?_)
        · have hc : (0 : Int32) ≤ a3 := of_decide_eq_true hc
          rw [if_pos hc] at hV
          refine e_aload f_99_38 rfl (by decide) ?_
          refine e_gr (c := 6) (j := 5) (r := 59) f_99_39 (by decide) (by decide) (by decide) (by decide) ?_
          refine e_iload f_99_42 rfl ?_
          refine e_iload f_99_43 rfl ?_
          obtain ⟨hg, hV⟩ := hV
          refine e_is (n := 8) f_99_44 (by decide) (by decide) hg ?_
          refine e_aload f_99_45 rfl (by decide) ?_
          refine e_gr (c := 6) (j := 6) (r := 60) f_99_46 (by decide) (by decide) (by decide) (by decide) ?_
          refine e_iload f_99_49 rfl ?_
          refine e_iload f_99_50 rfl ?_
          obtain ⟨hg, hV⟩ := hV
          refine e_is (n := 8) f_99_51 (by decide) (by decide) hg ?_
          refine e_iconst (c := 0) f_99_52 (by decide) ?_
          refine e_istore (L' := [.ref 56, .int a1, .int a2, .int a3, .int 0]) f_99_53 (Nat.le_of_ble_eq_true rfl) rfl ?_
          exact hV
        · have hc : ¬ (0 : Int32) ≤ a3 := fun z => hc (decide_eq_true z)
          rw [if_neg hc] at hV
          refine e_aload f_99_32 rfl (by decide) ?_
          refine e_iconst (c := 4) f_99_33 (by decide) ?_
          obtain ⟨P3, hP3, hV⟩ := hV
          refine e_vi (n := 2) (A := [.ref 56, .int 4]) (R := []) f_99_34 na_102 rfl rfl (Nat.le_of_ble_eq_true rfl) (Nat.le_of_ble_eq_true rfl) (by rw [ml_102]; exact Nat.le_of_ble_eq_true rfl) rfl (by rw [cy_102]; decide) (by rw [cy_102]; exact (by decide : x_tg 56 = 6)) hP3 (fun v3 S3 hp3 => ?_)
          have hV := hV v3 S3 hp3
          exact e_ireturn f_99_37 rt_99 rfl hV
      · have hc : ¬ a3 ≤ 40 := fun z => hc (decide_eq_true z)
        rw [if_neg hc] at hV
        refine e_iconst (c := (-1000001)) f_99_25 (by decide) ?_
        exact e_ireturn f_99_27 rt_99 rfl hV
set_option maxRecDepth 20000 in
theorem T_99_55 {xs : List Int32} {d : Nat} {S : x_M} {Q : Option Value → x_M → Prop} {a1 : Int32} {a2 : Int32} {a3 : Int32} {a4 : Int32}  (hV : if a3 ≤ a4 then (∃ P1 : Int32 → x_M → Prop, x_Ci xs d 103 [.ref 56, .int a3] S P1 ∧ ∀ (v1 : Int32) (S1 : x_M), P1 v1 S1 → (Q (some (.int v1)) S1)) else ((x_ib ((40 * a1) + a4) 320) ∧ (x_E xs (d + 1) 99 55 [.ref 56, .int a1, .int a2, .int a3, .int (a4 + 1)] [] (x_up S 61 (Int32.toNatClampNeg ((40 * a1) + a4)) 0) Q))) : x_E xs (d + 1) 99 55 [.ref 56, .int a1, .int a2, .int a3, .int a4] [] S Q := by
  refine e_iload f_99_55 rfl ?_
  refine e_iload f_99_57 rfl ?_
  refine e_icmp f_99_58 (fun hc => ?_) (fun hc => ?_)
  · have hc : a3 ≤ a4 := of_decide_eq_true hc
    rw [if_pos hc] at hV
    refine e_aload f_99_80 rfl (by decide) ?_
    refine e_iload f_99_81 rfl ?_
    obtain ⟨P1, hP1, hV⟩ := hV
    refine e_vi (n := 2) (A := [.ref 56, .int a3]) (R := []) f_99_82 na_103 rfl rfl (Nat.le_of_ble_eq_true rfl) (Nat.le_of_ble_eq_true rfl) (by rw [ml_103]; exact Nat.le_of_ble_eq_true rfl) rfl (by rw [cy_103]; decide) (by rw [cy_103]; exact (by decide : x_tg 56 = 6)) hP1 (fun v1 S1 hp1 => ?_)
    have hV := hV v1 S1 hp1
    exact e_ireturn f_99_85 rt_99 rfl hV
  · have hc : ¬ a3 ≤ a4 := fun z => hc (decide_eq_true z)
    rw [if_neg hc] at hV
    refine e_aload f_99_61 rfl (by decide) ?_
    refine e_gr (c := 6) (j := 7) (r := 61) f_99_62 (by decide) (by decide) (by decide) (by decide) ?_
    refine e_iconst (c := 40) f_99_65 (by decide) ?_
    refine e_iload f_99_67 rfl ?_
    refine e_imul f_99_68 ?_
    refine e_iload f_99_69 rfl ?_
    refine e_iadd f_99_71 ?_
    refine e_iconst (c := 0) f_99_72 (by decide) ?_
    obtain ⟨hg, hV⟩ := hV
    refine e_is (n := 320) f_99_73 (by decide) (by decide) hg ?_
    refine e_inc (c := 1) (L' := [.ref 56, .int a1, .int a2, .int a3, .int (a4 + 1)]) f_99_74 rfl (by decide) rfl ?_
    refine e_goto f_99_77 ?_
    exact hV
set_option maxRecDepth 20000 in
theorem T_100_0 {xs : List Int32} {d : Nat} {S : x_M} {Q : Option Value → x_M → Prop} {a0 : Int32}  (hV : ∃ P1 : Int32 → x_M → Prop, x_Ci xs d 101 [.long (Int32.toInt64 a0), .long 0, .long 7] S P1 ∧ ∀ (v1 : Int32) (S1 : x_M), P1 v1 S1 → ((v1 = 0 ∨ v1 = 1) ∧ Q (some (.int v1)) S1)) : x_E xs (d + 1) 100 0 [.int a0] [] S Q := by
  refine e_iload f_100_0 rfl ?_
  refine e_i2l f_100_1 ?_
  refine e_lconst (c := 0) f_100_2 (by decide) ?_
  refine e_lconst (c := 7) f_100_3 (by decide) ?_
  obtain ⟨P1, hP1, hV⟩ := hV
  refine e_si (n := 3) (A := [.long (Int32.toInt64 a0), .long 0, .long 7]) (R := []) f_100_6 na_101 rfl rfl (Nat.le_of_ble_eq_true rfl) (Nat.le_of_ble_eq_true rfl) (by rw [ml_101]; exact Nat.le_of_ble_eq_true rfl) hP1 (fun v1 S1 hp1 => ?_)
  have hV := hV v1 S1 hp1
  obtain ⟨hg, hV⟩ := hV
  exact e_ireturn f_100_9 rt_100 (x_nz hg) hV
set_option maxRecDepth 20000 in
theorem T_101_0 {xs : List Int32} {d : Nat} {S : x_M} {Q : Option Value → x_M → Prop} {a0 : Int64} {a2 : Int64} {a4 : Int64}  (hV : if (lg_cmp a0 a2) < 0 then (Q (some (.int 0)) S) else (if (0 : Int32) < (lg_cmp a0 a4) then (Q (some (.int 0)) S) else (Q (some (.int 1)) S))) : x_E xs (d + 1) 101 0 [.long a0, .null, .long a2, .null, .long a4, .null] [] S Q := by
  refine e_lload f_101_0 rfl ?_
  refine e_lload f_101_1 rfl ?_
  refine e_lcmp f_101_2 ?_
  refine e_if f_101_3 (fun hc => ?_) (fun hc => ?_)
  · have hc : (lg_cmp a0 a2) < 0 := of_decide_eq_true hc
    rw [if_pos hc] at hV
    refine e_iconst (c := 0) f_101_17 (by decide) ?_
    exact e_ireturn f_101_18 rt_101 (by decide) hV
  · have hc : ¬ (lg_cmp a0 a2) < 0 := fun z => hc (decide_eq_true z)
    rw [if_neg hc] at hV
    refine e_lload f_101_6 rfl ?_
    refine e_lload f_101_7 rfl ?_
    refine e_lcmp f_101_9 ?_
    refine e_if f_101_10 (fun hc => ?_) (fun hc => ?_)
    · have hc : (0 : Int32) < (lg_cmp a0 a4) := of_decide_eq_true hc
      rw [if_pos hc] at hV
      refine e_iconst (c := 0) f_101_17 (by decide) ?_
      exact e_ireturn f_101_18 rt_101 (by decide) hV
    · have hc : ¬ (0 : Int32) < (lg_cmp a0 a4) := fun z => hc (decide_eq_true z)
      rw [if_neg hc] at hV
      refine e_iconst (c := 1) f_101_13 (by decide) ?_
      refine e_goto f_101_14 ?_
      exact e_ireturn f_101_18 rt_101 (by decide) hV
set_option maxRecDepth 20000 in
theorem T_102_0 {xs : List Int32} {d : Nat} {S : x_M} {Q : Option Value → x_M → Prop} {a1 : Int32}  (hV : Q (some (.int ((-1000010) - a1))) (x_up S 56 4 a1)) : x_E xs (d + 1) 102 0 [.ref 56, .int a1] [] S Q := by
  refine e_aload f_102_0 rfl (by decide) ?_
  refine e_iload f_102_1 rfl ?_
  refine e_pf (c := 6) (j := 4) f_102_2 (by decide) (by decide) (by decide) (x_fit_i rfl) ?_
  refine e_iconst (c := (-1000010)) f_102_5 (by decide) ?_
  refine e_iload f_102_7 rfl ?_
  refine e_isub f_102_8 ?_
  exact e_ireturn f_102_9 rt_102 rfl hV
set_option maxRecDepth 20000 in
theorem T_103_0 {xs : List Int32} {d : Nat} {S : x_M} {Q : Option Value → x_M → Prop} {a1 : Int32}  (hV : Q (some (.int a1)) (x_up S 56 4 0)) : x_E xs (d + 1) 103 0 [.ref 56, .int a1] [] S Q := by
  refine e_aload f_103_0 rfl (by decide) ?_
  refine e_iconst (c := 0) f_103_1 (by decide) ?_
  refine e_pf (c := 6) (j := 4) f_103_2 (by decide) (by decide) (by decide) (x_fit_i rfl) ?_
  refine e_iload f_103_5 rfl ?_
  exact e_ireturn f_103_6 rt_103 rfl hV
set_option maxRecDepth 20000 in
theorem T_104_0 {xs : List Int32} {d : Nat} {S : x_M} {Q : Option Value → x_M → Prop} {a1 : Int32} {a2 : Int32} {a3 : Int32}  (hV : ∃ P1 : Int32 → x_M → Prop, x_Ci xs d 100 [.int a1] S P1 ∧ ∀ (v1 : Int32) (S1 : x_M), P1 v1 S1 → (if v1 = 0 then (Q (some (.int (-1000001))) S1) else ((x_ib a1 8) ∧ (if (S1 59 (Int32.toNatClampNeg a1)) = (-1000000) then (∃ P7 : Int32 → x_M → Prop, x_Ci xs d 102 [.ref 56, .int 1] S1 P7 ∧ ∀ (v7 : Int32) (S7 : x_M), P7 v7 S7 → (Q (some (.int v7)) S7)) else ((x_ib a1 8) ∧ (∃ P2 : Int32 → x_M → Prop, x_Ci xs d 101 [.long (Int32.toInt64 a2), .long 0, .long (Int32.toInt64 ((S1 60 (Int32.toNatClampNeg a1)) - 1))] S1 P2 ∧ ∀ (v2 : Int32) (S2 : x_M), P2 v2 S2 → (if v2 = 0 then (∃ P6 : Int32 → x_M → Prop, x_Ci xs d 102 [.ref 56, .int 2] S2 P6 ∧ ∀ (v6 : Int32) (S6 : x_M), P6 v6 S6 → (Q (some (.int v6)) S6)) else ((x_ib a1 8) ∧ (if (S2 59 (Int32.toNatClampNeg a1)) = 0 then ((x_ib ((40 * a1) + a2) 320) ∧ ((x_ib ((40 * a1) + a2) 320) ∧ (∃ P5 : Int32 → x_M → Prop, x_Ci xs d 103 [.ref 56, .int ((x_up S2 61 (Int32.toNatClampNeg ((40 * a1) + a2)) (a3).toInt8.toInt32) 61 (Int32.toNatClampNeg ((40 * a1) + a2)))] (x_up S2 61 (Int32.toNatClampNeg ((40 * a1) + a2)) (a3).toInt8.toInt32) P5 ∧ ∀ (v5 : Int32) (S5 : x_M), P5 v5 S5 → (Q (some (.int v5)) S5)))) else ((x_ib a1 8) ∧ (if (S2 59 (Int32.toNatClampNeg a1)) = 1 then ((x_ib ((40 * a1) + a2) 320) ∧ ((x_ib ((40 * a1) + a2) 320) ∧ (∃ P4 : Int32 → x_M → Prop, x_Ci xs d 103 [.ref 56, .int ((x_up S2 61 (Int32.toNatClampNeg ((40 * a1) + a2)) (a3).toInt16.toInt32) 61 (Int32.toNatClampNeg ((40 * a1) + a2)))] (x_up S2 61 (Int32.toNatClampNeg ((40 * a1) + a2)) (a3).toInt16.toInt32) P4 ∧ ∀ (v4 : Int32) (S4 : x_M), P4 v4 S4 → (Q (some (.int v4)) S4)))) else ((x_ib ((40 * a1) + a2) 320) ∧ ((x_ib ((40 * a1) + a2) 320) ∧ (∃ P3 : Int32 → x_M → Prop, x_Ci xs d 103 [.ref 56, .int ((x_up S2 61 (Int32.toNatClampNeg ((40 * a1) + a2)) a3) 61 (Int32.toNatClampNeg ((40 * a1) + a2)))] (x_up S2 61 (Int32.toNatClampNeg ((40 * a1) + a2)) a3) P3 ∧ ∀ (v3 : Int32) (S3 : x_M), P3 v3 S3 → (Q (some (.int v3)) S3))))))))))))))) : x_E xs (d + 1) 104 0 [.ref 56, .int a1, .int a2, .int a3] [] S Q := by
  refine e_iload f_104_0 rfl ?_
  obtain ⟨P1, hP1, hV⟩ := hV
  refine e_si (n := 1) (A := [.int a1]) (R := []) f_104_1 na_100 rfl rfl (Nat.le_of_ble_eq_true rfl) (Nat.le_of_ble_eq_true rfl) (by rw [ml_100]; exact Nat.le_of_ble_eq_true rfl) hP1 (fun v1 S1 hp1 => ?_)
  have hV := hV v1 S1 hp1
  refine e_if f_104_4 (fun hc => ?_) (fun hc => ?_)
  · have hc : ¬ v1 = 0 := of_decide_eq_true hc
    rw [if_neg hc] at hV
    refine e_aload f_104_10 rfl (by decide) ?_
    refine e_gr (c := 6) (j := 5) (r := 59) f_104_11 (by decide) (by decide) (by decide) (by decide) ?_
    refine e_iload f_104_14 rfl ?_
    obtain ⟨hg, hV⟩ := hV
    refine e_ia (n := 8) f_104_15 (by decide) (by decide) hg ?_
    refine e_iconst (c := (-1000000)) f_104_16 (by decide) ?_
    refine e_icmp f_104_18 (fun hc => ?_) (fun hc => ?_)
    · have hc : ¬ (S1 59 (Int32.toNatClampNeg a1)) = (-1000000) := of_decide_eq_true hc
      rw [if_neg hc] at hV
      refine e_iload f_104_27 rfl ?_
      refine e_i2l f_104_28 ?_
      refine e_lconst (c := 0) f_104_29 (by decide) ?_
      refine e_aload f_104_30 rfl (by decide) ?_
      refine e_gr (c := 6) (j := 6) (r := 60) f_104_31 (by decide) (by decide) (by decide) (by decide) ?_
      refine e_iload f_104_34 rfl ?_
      obtain ⟨hg, hV⟩ := hV
      refine e_ia (n := 8) f_104_35 (by decide) (by decide) hg ?_
      refine e_iconst (c := 1) f_104_36 (by decide) ?_
      refine e_isub f_104_37 ?_
      refine e_i2l f_104_38 ?_
      obtain ⟨P2, hP2, hV⟩ := hV
      refine e_si (n := 3) (A := [.long (Int32.toInt64 a2), .long 0, .long (Int32.toInt64 ((S1 60 (Int32.toNatClampNeg a1)) - 1))]) (R := []) f_104_39 na_101 rfl rfl (Nat.le_of_ble_eq_true rfl) (Nat.le_of_ble_eq_true rfl) (by rw [ml_101]; exact Nat.le_of_ble_eq_true rfl) hP2 (fun v2 S2 hp2 => ?_)
      have hV := hV v2 S2 hp2
      refine e_if f_104_42 (fun hc => ?_) (fun hc => ?_)
      · have hc : ¬ v2 = 0 := of_decide_eq_true hc
        rw [if_neg hc] at hV
        refine e_aload f_104_51 rfl (by decide) ?_
        refine e_gr (c := 6) (j := 7) (r := 61) f_104_52 (by decide) (by decide) (by decide) (by decide) ?_
        refine e_iconst (c := 40) f_104_55 (by decide) ?_
        refine e_iload f_104_57 rfl ?_
        refine e_imul f_104_58 ?_
        refine e_iload f_104_59 rfl ?_
        refine e_iadd f_104_60 ?_
        refine e_aload f_104_61 rfl (by decide) ?_
        refine e_gr (c := 6) (j := 5) (r := 59) f_104_62 (by decide) (by decide) (by decide) (by decide) ?_
        refine e_iload f_104_65 rfl ?_
        obtain ⟨hg, hV⟩ := hV
        refine e_ia (n := 8) f_104_66 (by decide) (by decide) hg ?_
        refine e_if f_104_67 (fun hc => ?_) (fun hc => ?_)
        · have hc : ¬ (S2 59 (Int32.toNatClampNeg a1)) = 0 := of_decide_eq_true hc
          rw [if_neg hc] at hV
          refine e_aload f_104_75 rfl (by decide) ?_
          refine e_gr (c := 6) (j := 5) (r := 59) f_104_76 (by decide) (by decide) (by decide) (by decide) ?_
          refine e_iload f_104_79 rfl ?_
          obtain ⟨hg, hV⟩ := hV
          refine e_ia (n := 8) f_104_80 (by decide) (by decide) hg ?_
          refine e_iconst (c := 1) f_104_81 (by decide) ?_
          refine e_icmp f_104_82 (fun hc => ?_) (fun hc => ?_)
          · have hc : ¬ (S2 59 (Int32.toNatClampNeg a1)) = 1 := of_decide_eq_true hc
            rw [if_neg hc] at hV
            refine e_iload f_104_90 rfl ?_
            obtain ⟨hg, hV⟩ := hV
            refine e_is (n := 320) f_104_91 (by decide) (by decide) hg ?_
            refine e_aload f_104_92 rfl (by decide) ?_
            refine e_aload f_104_93 rfl (by decide) ?_
            refine e_gr (c := 6) (j := 7) (r := 61) f_104_94 (by decide) (by decide) (by decide) (by decide) ?_
            refine e_iconst (c := 40) f_104_97 (by decide) ?_
            refine e_iload f_104_99 rfl ?_
            refine e_imul f_104_100 ?_
            refine e_iload f_104_101 rfl ?_
            refine e_iadd f_104_102 ?_
            obtain ⟨hg, hV⟩ := hV
            refine e_ia (n := 320) f_104_103 (by decide) (by decide) hg ?_
            obtain ⟨P3, hP3, hV⟩ := hV
            refine e_vi (n := 2) (A := [.ref 56, .int ((x_up S2 61 (Int32.toNatClampNeg ((40 * a1) + a2)) a3) 61 (Int32.toNatClampNeg ((40 * a1) + a2)))]) (R := []) f_104_104 na_103 rfl rfl (Nat.le_of_ble_eq_true rfl) (Nat.le_of_ble_eq_true rfl) (by rw [ml_103]; exact Nat.le_of_ble_eq_true rfl) rfl (by rw [cy_103]; decide) (by rw [cy_103]; exact (by decide : x_tg 56 = 6)) hP3 (fun v3 S3 hp3 => ?_)
            have hV := hV v3 S3 hp3
            exact e_ireturn f_104_107 rt_104 rfl hV
          · have hc : (S2 59 (Int32.toNatClampNeg a1)) = 1 := Decidable.not_not.mp (fun z => hc (decide_eq_true z))
            rw [if_pos hc] at hV
            refine e_iload f_104_85 rfl ?_
            refine e_i2s f_104_86 ?_
            refine e_goto f_104_87 ?_
            obtain ⟨hg, hV⟩ := hV
            refine e_is (n := 320) f_104_91 (by decide) (by decide) hg ?_
            refine e_aload f_104_92 rfl (by decide) ?_
            refine e_aload f_104_93 rfl (by decide) ?_
            refine e_gr (c := 6) (j := 7) (r := 61) f_104_94 (by decide) (by decide) (by decide) (by decide) ?_
            refine e_iconst (c := 40) f_104_97 (by decide) ?_
            refine e_iload f_104_99 rfl ?_
            refine e_imul f_104_100 ?_
            refine e_iload f_104_101 rfl ?_
            refine e_iadd f_104_102 ?_
            obtain ⟨hg, hV⟩ := hV
            refine e_ia (n := 320) f_104_103 (by decide) (by decide) hg ?_
            obtain ⟨P4, hP4, hV⟩ := hV
            refine e_vi (n := 2) (A := [.ref 56, .int ((x_up S2 61 (Int32.toNatClampNeg ((40 * a1) + a2)) (a3).toInt16.toInt32) 61 (Int32.toNatClampNeg ((40 * a1) + a2)))]) (R := []) f_104_104 na_103 rfl rfl (Nat.le_of_ble_eq_true rfl) (Nat.le_of_ble_eq_true rfl) (by rw [ml_103]; exact Nat.le_of_ble_eq_true rfl) rfl (by rw [cy_103]; decide) (by rw [cy_103]; exact (by decide : x_tg 56 = 6)) hP4 (fun v4 S4 hp4 => ?_)
            have hV := hV v4 S4 hp4
            exact e_ireturn f_104_107 rt_104 rfl hV
        · have hc : (S2 59 (Int32.toNatClampNeg a1)) = 0 := Decidable.not_not.mp (fun z => hc (decide_eq_true z))
          rw [if_pos hc] at hV
          refine e_iload f_104_70 rfl ?_
          refine e_i2b f_104_71 ?_
          refine e_goto f_104_72 ?_
          obtain ⟨hg, hV⟩ := hV
          refine e_is (n := 320) f_104_91 (by decide) (by decide) hg ?_
          refine e_aload f_104_92 rfl (by decide) ?_
          refine e_aload f_104_93 rfl (by decide) ?_
          refine e_gr (c := 6) (j := 7) (r := 61) f_104_94 (by decide) (by decide) (by decide) (by decide) ?_
          refine e_iconst (c := 40) f_104_97 (by decide) ?_
          refine e_iload f_104_99 rfl ?_
          refine e_imul f_104_100 ?_
          refine e_iload f_104_101 rfl ?_
          refine e_iadd f_104_102 ?_
          obtain ⟨hg, hV⟩ := hV
          refine e_ia (n := 320) f_104_103 (by decide) (by decide) hg ?_
          obtain ⟨P5, hP5, hV⟩ := hV
          refine e_vi (n := 2) (A := [.ref 56, .int ((x_up S2 61 (Int32.toNatClampNeg ((40 * a1) + a2)) (a3).toInt8.toInt32) 61 (Int32.toNatClampNeg ((40 * a1) + a2)))]) (R := []) f_104_104 na_103 rfl rfl (Nat.le_of_ble_eq_true rfl) (Nat.le_of_ble_eq_true rfl) (by rw [ml_103]; exact Nat.le_of_ble_eq_true rfl) rfl (by rw [cy_103]; decide) (by rw [cy_103]; exact (by decide : x_tg 56 = 6)) hP5 (fun v5 S5 hp5 => ?_)
          have hV := hV v5 S5 hp5
          exact e_ireturn f_104_107 rt_104 rfl hV
      · have hc : v2 = 0 := Decidable.not_not.mp (fun z => hc (decide_eq_true z))
        rw [if_pos hc] at hV
        refine e_aload f_104_45 rfl (by decide) ?_
        refine e_iconst (c := 2) f_104_46 (by decide) ?_
        obtain ⟨P6, hP6, hV⟩ := hV
        refine e_vi (n := 2) (A := [.ref 56, .int 2]) (R := []) f_104_47 na_102 rfl rfl (Nat.le_of_ble_eq_true rfl) (Nat.le_of_ble_eq_true rfl) (by rw [ml_102]; exact Nat.le_of_ble_eq_true rfl) rfl (by rw [cy_102]; decide) (by rw [cy_102]; exact (by decide : x_tg 56 = 6)) hP6 (fun v6 S6 hp6 => ?_)
        have hV := hV v6 S6 hp6
        exact e_ireturn f_104_50 rt_104 rfl hV
    · have hc : (S1 59 (Int32.toNatClampNeg a1)) = (-1000000) := Decidable.not_not.mp (fun z => hc (decide_eq_true z))
      rw [if_pos hc] at hV
      refine e_aload f_104_21 rfl (by decide) ?_
      refine e_iconst (c := 1) f_104_22 (by decide) ?_
      obtain ⟨P7, hP7, hV⟩ := hV
      refine e_vi (n := 2) (A := [.ref 56, .int 1]) (R := []) f_104_23 na_102 rfl rfl (Nat.le_of_ble_eq_true rfl) (Nat.le_of_ble_eq_true rfl) (by rw [ml_102]; exact Nat.le_of_ble_eq_true rfl) rfl (by rw [cy_102]; decide) (by rw [cy_102]; exact (by decide : x_tg 56 = 6)) hP7 (fun v7 S7 hp7 => ?_)
      have hV := hV v7 S7 hp7
      exact e_ireturn f_104_26 rt_104 rfl hV
  · have hc : v1 = 0 := Decidable.not_not.mp (fun z => hc (decide_eq_true z))
    rw [if_pos hc] at hV
    refine e_iconst (c := (-1000001)) f_104_7 (by decide) ?_
    exact e_ireturn f_104_9 rt_104 rfl hV
set_option maxRecDepth 20000 in
theorem T_105_0 {xs : List Int32} {d : Nat} {S : x_M} {Q : Option Value → x_M → Prop} {a1 : Int32} {a2 : Int32} {a3 : Int32} {a4 : Int32} {a5 : Int32}  (hV : ∃ P1 : Int32 → x_M → Prop, x_Ci xs d 100 [.int a1] S P1 ∧ ∀ (v1 : Int32) (S1 : x_M), P1 v1 S1 → (if v1 = 0 then (Q (some (.int (-1000001))) S1) else (∃ P2 : Int32 → x_M → Prop, x_Ci xs d 100 [.int a3] S1 P2 ∧ ∀ (v2 : Int32) (S2 : x_M), P2 v2 S2 → (if v2 = 0 then (Q (some (.int (-1000001))) S2) else ((x_ib a1 8) ∧ (if (S2 59 (Int32.toNatClampNeg a1)) = (-1000000) then (∃ P3 : Int32 → x_M → Prop, x_Ci xs d 102 [.ref 56, .int 1] S2 P3 ∧ ∀ (v3 : Int32) (S3 : x_M), P3 v3 S3 → (Q (some (.int v3)) S3)) else ((x_ib a3 8) ∧ (if (S2 59 (Int32.toNatClampNeg a3)) = (-1000000) then (∃ P9 : Int32 → x_M → Prop, x_Ci xs d 102 [.ref 56, .int 1] S2 P9 ∧ ∀ (v9 : Int32) (S9 : x_M), P9 v9 S9 → (Q (some (.int v9)) S9)) else ((x_ib a1 8) ∧ ((x_ib a3 8) ∧ (if (S2 59 (Int32.toNatClampNeg a1)) = (S2 59 (Int32.toNatClampNeg a3)) then (∃ P4 : Int32 → x_M → Prop, x_Ci xs d 106 [.ref 56, .int a1, .int a2, .int a5] S2 P4 ∧ ∀ (v4 : Int32) (S4 : x_M), P4 v4 S4 → (if v4 = 0 then (∃ P5 : Int32 → x_M → Prop, x_Ci xs d 102 [.ref 56, .int 2] S4 P5 ∧ ∀ (v5 : Int32) (S5 : x_M), P5 v5 S5 → (Q (some (.int v5)) S5)) else (∃ P6 : Int32 → x_M → Prop, x_Ci xs d 106 [.ref 56, .int a3, .int a4, .int a5] S4 P6 ∧ ∀ (v6 : Int32) (S6 : x_M), P6 v6 S6 → (if v6 = 0 then (∃ P7 : Int32 → x_M → Prop, x_Ci xs d 102 [.ref 56, .int 2] S6 P7 ∧ ∀ (v7 : Int32) (S7 : x_M), P7 v7 S7 → (Q (some (.int v7)) S7)) else (x_E xs (d + 1) 105 98 [.ref 56, .int a1, .int a2, .int a3, .int a4, .int a5, .int 0, .null] [] S6 Q))))) else (∃ P8 : Int32 → x_M → Prop, x_Ci xs d 102 [.ref 56, .int 5] S2 P8 ∧ ∀ (v8 : Int32) (S8 : x_M), P8 v8 S8 → (Q (some (.int v8)) S8))))))))))))) : x_E xs (d + 1) 105 0 [.ref 56, .int a1, .int a2, .int a3, .int a4, .int a5, .null, .null] [] S Q := by
  refine e_iload f_105_0 rfl ?_
  obtain ⟨P1, hP1, hV⟩ := hV
  refine e_si (n := 1) (A := [.int a1]) (R := []) f_105_1 na_100 rfl rfl (Nat.le_of_ble_eq_true rfl) (Nat.le_of_ble_eq_true rfl) (by rw [ml_100]; exact Nat.le_of_ble_eq_true rfl) hP1 (fun v1 S1 hp1 => ?_)
  have hV := hV v1 S1 hp1
  refine e_if f_105_4 (fun hc => ?_) (fun hc => ?_)
  · have hc : v1 = 0 := of_decide_eq_true hc
    rw [if_pos hc] at hV
    refine e_iconst (c := (-1000001)) f_105_14 (by decide) ?_
    exact e_ireturn f_105_16 rt_105 rfl hV
  · have hc : ¬ v1 = 0 := fun z => hc (decide_eq_true z)
    rw [if_neg hc] at hV
    refine e_iload f_105_7 rfl ?_
    obtain ⟨P2, hP2, hV⟩ := hV
    refine e_si (n := 1) (A := [.int a3]) (R := []) f_105_8 na_100 rfl rfl (Nat.le_of_ble_eq_true rfl) (Nat.le_of_ble_eq_true rfl) (by rw [ml_100]; exact Nat.le_of_ble_eq_true rfl) hP2 (fun v2 S2 hp2 => ?_)
    have hV := hV v2 S2 hp2
    refine e_if f_105_11 (fun hc => ?_) (fun hc => ?_)
    · have hc : ¬ v2 = 0 := of_decide_eq_true hc
      rw [if_neg hc] at hV
      refine e_aload f_105_17 rfl (by decide) ?_
      refine e_gr (c := 6) (j := 5) (r := 59) f_105_18 (by decide) (by decide) (by decide) (by decide) ?_
      refine e_iload f_105_21 rfl ?_
      obtain ⟨hg, hV⟩ := hV
      refine e_ia (n := 8) f_105_22 (by decide) (by decide) hg ?_
      refine e_iconst (c := (-1000000)) f_105_23 (by decide) ?_
      refine e_icmp f_105_25 (fun hc => ?_) (fun hc => ?_)
      · have hc : (S2 59 (Int32.toNatClampNeg a1)) = (-1000000) := of_decide_eq_true hc
        rw [if_pos hc] at hV
        refine e_aload f_105_39 rfl (by decide) ?_
        refine e_iconst (c := 1) f_105_40 (by decide) ?_
        obtain ⟨P3, hP3, hV⟩ := hV
        refine e_vi (n := 2) (A := [.ref 56, .int 1]) (R := []) f_105_41 na_102 rfl rfl (Nat.le_of_ble_eq_true rfl) (Nat.le_of_ble_eq_true rfl) (by rw [ml_102]; exact Nat.le_of_ble_eq_true rfl) rfl (by rw [cy_102]; decide) (by rw [cy_102]; exact (by decide : x_tg 56 = 6)) hP3 (fun v3 S3 hp3 => ?_)
        have hV := hV v3 S3 hp3
        exact e_ireturn f_105_44 rt_105 rfl hV
      · have hc : ¬ (S2 59 (Int32.toNatClampNeg a1)) = (-1000000) := fun z => hc (decide_eq_true z)
        rw [if_neg hc] at hV
        refine e_aload f_105_28 rfl (by decide) ?_
        refine e_gr (c := 6) (j := 5) (r := 59) f_105_29 (by decide) (by decide) (by decide) (by decide) ?_
        refine e_iload f_105_32 rfl ?_
        obtain ⟨hg, hV⟩ := hV
        refine e_ia (n := 8) f_105_33 (by decide) (by decide) hg ?_
        refine e_iconst (c := (-1000000)) f_105_34 (by decide) ?_
        refine e_icmp f_105_36 (fun hc => ?_) (fun hc => ?_)
        · have hc : ¬ (S2 59 (Int32.toNatClampNeg a3)) = (-1000000) := of_decide_eq_true hc
          rw [if_neg hc] at hV
          refine e_aload f_105_45 rfl (by decide) ?_
          refine e_gr (c := 6) (j := 5) (r := 59) f_105_46 (by decide) (by decide) (by decide) (by decide) ?_
          refine e_iload f_105_49 rfl ?_
          obtain ⟨hg, hV⟩ := hV
          refine e_ia (n := 8) f_105_50 (by decide) (by decide) hg ?_
          refine e_aload f_105_51 rfl (by decide) ?_
          refine e_gr (c := 6) (j := 5) (r := 59) f_105_52 (by decide) (by decide) (by decide) (by decide) ?_
          refine e_iload f_105_55 rfl ?_
          obtain ⟨hg, hV⟩ := hV
          refine e_ia (n := 8) f_105_56 (by decide) (by decide) hg ?_
          refine e_icmp f_105_57 (fun hc => ?_) (fun hc => ?_)
          · have hc : (S2 59 (Int32.toNatClampNeg a1)) = (S2 59 (Int32.toNatClampNeg a3)) := of_decide_eq_true hc
            rw [if_pos hc] at hV
            refine e_aload f_105_66 rfl (by decide) ?_
            refine e_iload f_105_67 rfl ?_
            refine e_iload f_105_68 rfl ?_
            refine e_iload f_105_69 rfl ?_
            obtain ⟨P4, hP4, hV⟩ := hV
            refine e_vi (n := 4) (A := [.ref 56, .int a1, .int a2, .int a5]) (R := []) f_105_71 na_106 rfl rfl (Nat.le_of_ble_eq_true rfl) (Nat.le_of_ble_eq_true rfl) (by rw [ml_106]; exact Nat.le_of_ble_eq_true rfl) rfl (by rw [cy_106]; decide) (by rw [cy_106]; exact (by decide : x_tg 56 = 6)) hP4 (fun v4 S4 hp4 => ?_)
            have hV := hV v4 S4 hp4
            refine e_if f_105_74 (fun hc => ?_) (fun hc => ?_)
            · have hc : v4 = 0 := of_decide_eq_true hc
              rw [if_pos hc] at hV
              refine e_aload f_105_89 rfl (by decide) ?_
              refine e_iconst (c := 2) f_105_90 (by decide) ?_
              obtain ⟨P5, hP5, hV⟩ := hV
              refine e_vi (n := 2) (A := [.ref 56, .int 2]) (R := []) f_105_91 na_102 rfl rfl (Nat.le_of_ble_eq_true rfl) (Nat.le_of_ble_eq_true rfl) (by rw [ml_102]; exact Nat.le_of_ble_eq_true rfl) rfl (by rw [cy_102]; decide) (by rw [cy_102]; exact (by decide : x_tg 56 = 6)) hP5 (fun v5 S5 hp5 => ?_)
              have hV := hV v5 S5 hp5
              exact e_ireturn f_105_94 rt_105 rfl hV
            · have hc : ¬ v4 = 0 := fun z => hc (decide_eq_true z)
              rw [if_neg hc] at hV
              refine e_aload f_105_77 rfl (by decide) ?_
              refine e_iload f_105_78 rfl ?_
              refine e_iload f_105_79 rfl ?_
              refine e_iload f_105_81 rfl ?_
              obtain ⟨P6, hP6, hV⟩ := hV
              refine e_vi (n := 4) (A := [.ref 56, .int a3, .int a4, .int a5]) (R := []) f_105_83 na_106 rfl rfl (Nat.le_of_ble_eq_true rfl) (Nat.le_of_ble_eq_true rfl) (by rw [ml_106]; exact Nat.le_of_ble_eq_true rfl) rfl (by rw [cy_106]; decide) (by rw [cy_106]; exact (by decide : x_tg 56 = 6)) hP6 (fun v6 S6 hp6 => ?_)
              have hV := hV v6 S6 hp6
              refine e_if f_105_86 (fun hc => ?_) (fun hc => ?_)
              · have hc : ¬ v6 = 0 := of_decide_eq_true hc
                rw [if_neg hc] at hV
                refine e_iconst (c := 0) f_105_95 (by decide) ?_
                refine e_istore (L' := [.ref 56, .int a1, .int a2, .int a3, .int a4, .int a5, .int 0, .null]) f_105_96 (Nat.le_of_ble_eq_true rfl) rfl ?_
                exact hV
              · have hc : v6 = 0 := Decidable.not_not.mp (fun z => hc (decide_eq_true z))
                rw [if_pos hc] at hV
                refine e_aload f_105_89 rfl (by decide) ?_
                refine e_iconst (c := 2) f_105_90 (by decide) ?_
                obtain ⟨P7, hP7, hV⟩ := hV
                refine e_vi (n := 2) (A := [.ref 56, .int 2]) (R := []) f_105_91 na_102 rfl rfl (Nat.le_of_ble_eq_true rfl) (Nat.le_of_ble_eq_true rfl) (by rw [ml_102]; exact Nat.le_of_ble_eq_true rfl) rfl (by rw [cy_102]; decide) (by rw [cy_102]; exact (by decide : x_tg 56 = 6)) hP7 (fun v7 S7 hp7 => ?_)
                have hV := hV v7 S7 hp7
                exact e_ireturn f_105_94 rt_105 rfl hV
          · have hc : ¬ (S2 59 (Int32.toNatClampNeg a1)) = (S2 59 (Int32.toNatClampNeg a3)) := fun z => hc (decide_eq_true z)
            rw [if_neg hc] at hV
            refine e_aload f_105_60 rfl (by decide) ?_
            refine e_iconst (c := 5) f_105_61 (by decide) ?_
            obtain ⟨P8, hP8, hV⟩ := hV
            refine e_vi (n := 2) (A := [.ref 56, .int 5]) (R := []) f_105_62 na_102 rfl rfl (Nat.le_of_ble_eq_true rfl) (Nat.le_of_ble_eq_true rfl) (by rw [ml_102]; exact Nat.le_of_ble_eq_true rfl) rfl (by rw [cy_102]; decide) (by rw [cy_102]; exact (by decide : x_tg 56 = 6)) hP8 (fun v8 S8 hp8 => ?_)
            have hV := hV v8 S8 hp8
            exact e_ireturn f_105_65 rt_105 rfl hV
        · have hc : (S2 59 (Int32.toNatClampNeg a3)) = (-1000000) := Decidable.not_not.mp (fun z => hc (decide_eq_true z))
          rw [if_pos hc] at hV
          refine e_aload f_105_39 rfl (by decide) ?_
          refine e_iconst (c := 1) f_105_40 (by decide) ?_
          obtain ⟨P9, hP9, hV⟩ := hV
          refine e_vi (n := 2) (A := [.ref 56, .int 1]) (R := []) f_105_41 na_102 rfl rfl (Nat.le_of_ble_eq_true rfl) (Nat.le_of_ble_eq_true rfl) (by rw [ml_102]; exact Nat.le_of_ble_eq_true rfl) rfl (by rw [cy_102]; decide) (by rw [cy_102]; exact (by decide : x_tg 56 = 6)) hP9 (fun v9 S9 hp9 => ?_)
          have hV := hV v9 S9 hp9
          exact e_ireturn f_105_44 rt_105 rfl hV
    · have hc : v2 = 0 := Decidable.not_not.mp (fun z => hc (decide_eq_true z))
      rw [if_pos hc] at hV
      refine e_iconst (c := (-1000001)) f_105_14 (by decide) ?_
      exact e_ireturn f_105_16 rt_105 rfl hV
set_option maxRecDepth 20000 in
theorem T_105_98 {xs : List Int32} {d : Nat} {S : x_M} {Q : Option Value → x_M → Prop} {a1 : Int32} {a2 : Int32} {a3 : Int32} {a4 : Int32} {a5 : Int32} {a6 : Int32} {a7 : Value}  (hV : if a5 ≤ a6 then (∃ P1 : Int32 → x_M → Prop, x_Ci xs d 103 [.ref 56, .int a5] S P1 ∧ ∀ (v1 : Int32) (S1 : x_M), P1 v1 S1 → (Q (some (.int v1)) S1)) else (if a1 = a3 then (if a4 ≤ a2 then (x_E xs (d + 1) 105 128 [.ref 56, .int a1, .int a2, .int a3, .int a4, .int a5, .int a6, a7] [.int a6] S Q) else (x_E xs (d + 1) 105 128 [.ref 56, .int a1, .int a2, .int a3, .int a4, .int a5, .int a6, a7] [.int ((a5 - 1) - a6)] S Q)) else (x_E xs (d + 1) 105 128 [.ref 56, .int a1, .int a2, .int a3, .int a4, .int a5, .int a6, a7] [.int a6] S Q))) : x_E xs (d + 1) 105 98 [.ref 56, .int a1, .int a2, .int a3, .int a4, .int a5, .int a6, a7] [] S Q := by
  refine e_iload f_105_98 rfl ?_
  refine e_iload f_105_100 rfl ?_
  refine e_icmp f_105_102 (fun hc => ?_) (fun hc => ?_)
  · have hc : a5 ≤ a6 := of_decide_eq_true hc
    rw [if_pos hc] at hV
    refine e_aload f_105_165 rfl (by decide) ?_
    refine e_iload f_105_166 rfl ?_
    obtain ⟨P1, hP1, hV⟩ := hV
    refine e_vi (n := 2) (A := [.ref 56, .int a5]) (R := []) f_105_168 na_103 rfl rfl (Nat.le_of_ble_eq_true rfl) (Nat.le_of_ble_eq_true rfl) (by rw [ml_103]; exact Nat.le_of_ble_eq_true rfl) rfl (by rw [cy_103]; decide) (by rw [cy_103]; exact (by decide : x_tg 56 = 6)) hP1 (fun v1 S1 hp1 => ?_)
    have hV := hV v1 S1 hp1
    exact e_ireturn f_105_171 rt_105 rfl hV
  · have hc : ¬ a5 ≤ a6 := fun z => hc (decide_eq_true z)
    rw [if_neg hc] at hV
    refine e_iload f_105_105 rfl ?_
    refine e_iload f_105_106 rfl ?_
    refine e_icmp f_105_107 (fun hc => ?_) (fun hc => ?_)
    · have hc : ¬ a1 = a3 := of_decide_eq_true hc
      rw [if_neg hc] at hV
      refine e_iload f_105_126 rfl ?_
      exact hV
    · have hc : a1 = a3 := Decidable.not_not.mp (fun z => hc (decide_eq_true z))
      rw [if_pos hc] at hV
      refine e_iload f_105_110 rfl ?_
      refine e_iload f_105_111 rfl ?_
      refine e_icmp f_105_113 (fun hc => ?_) (fun hc => ?_)
      · have hc : a4 ≤ a2 := of_decide_eq_true hc
        rw [if_pos hc] at hV
        refine e_iload f_105_126 rfl ?_
        exact hV
      · have hc : ¬ a4 ≤ a2 := fun z => hc (decide_eq_true z)
        rw [if_neg hc] at hV
        refine e_iload f_105_116 rfl ?_
        refine e_iconst (c := 1) f_105_118 (by decide) ?_
        refine e_isub f_105_119 ?_
        refine e_iload f_105_120 rfl ?_
        refine e_isub f_105_122 ?_
        refine e_goto f_105_123 ?_
        exact hV
set_option maxRecDepth 20000 in
theorem T_105_128 {xs : List Int32} {d : Nat} {S : x_M} {Q : Option Value → x_M → Prop} {a1 : Int32} {a2 : Int32} {a3 : Int32} {a4 : Int32} {a5 : Int32} {a6 : Int32} {a7 : Value} {s0 : Int32}  (hV : (x_ib (((40 * a1) + a2) + s0) 320) ∧ ((x_ib (((40 * a3) + a4) + s0) 320) ∧ (x_E xs (d + 1) 105 98 [.ref 56, .int a1, .int a2, .int a3, .int a4, .int a5, .int (a6 + 1), .int s0] [] (x_up S 61 (Int32.toNatClampNeg (((40 * a3) + a4) + s0)) (S 61 (Int32.toNatClampNeg (((40 * a1) + a2) + s0)))) Q))) : x_E xs (d + 1) 105 128 [.ref 56, .int a1, .int a2, .int a3, .int a4, .int a5, .int a6, a7] [.int s0] S Q := by
  refine e_istore (L' := [.ref 56, .int a1, .int a2, .int a3, .int a4, .int a5, .int a6, .int s0]) f_105_128 (Nat.le_of_ble_eq_true rfl) rfl ?_
  refine e_aload f_105_130 rfl (by decide) ?_
  refine e_gr (c := 6) (j := 7) (r := 61) f_105_131 (by decide) (by decide) (by decide) (by decide) ?_
  refine e_iconst (c := 40) f_105_134 (by decide) ?_
  refine e_iload f_105_136 rfl ?_
  refine e_imul f_105_137 ?_
  refine e_iload f_105_138 rfl ?_
  refine e_iadd f_105_140 ?_
  refine e_iload f_105_141 rfl ?_
  refine e_iadd f_105_143 ?_
  refine e_aload f_105_144 rfl (by decide) ?_
  refine e_gr (c := 6) (j := 7) (r := 61) f_105_145 (by decide) (by decide) (by decide) (by decide) ?_
  refine e_iconst (c := 40) f_105_148 (by decide) ?_
  refine e_iload f_105_150 rfl ?_
  refine e_imul f_105_151 ?_
  refine e_iload f_105_152 rfl ?_
  refine e_iadd f_105_153 ?_
  refine e_iload f_105_154 rfl ?_
  refine e_iadd f_105_156 ?_
  obtain ⟨hg, hV⟩ := hV
  refine e_ia (n := 320) f_105_157 (by decide) (by decide) hg ?_
  obtain ⟨hg, hV⟩ := hV
  refine e_is (n := 320) f_105_158 (by decide) (by decide) hg ?_
  refine e_inc (c := 1) (L' := [.ref 56, .int a1, .int a2, .int a3, .int a4, .int a5, .int (a6 + 1), .int s0]) f_105_159 rfl (by decide) rfl ?_
  refine e_goto f_105_162 ?_
  exact hV
set_option maxRecDepth 20000 in
theorem T_106_0 {xs : List Int32} {d : Nat} {S : x_M} {Q : Option Value → x_M → Prop} {a1 : Int32} {a2 : Int32} {a3 : Int32}  (hV : if a2 < 0 then (Q (some (.int 0)) S) else (if a3 < 0 then (Q (some (.int 0)) S) else ((x_ib a1 8) ∧ (if (0 : Int32) < (lg_cmp ((Int32.toInt64 a2) + (Int32.toInt64 a3)) (Int32.toInt64 (S 60 (Int32.toNatClampNeg a1)))) then (Q (some (.int 0)) S) else (Q (some (.int 1)) S))))) : x_E xs (d + 1) 106 0 [.ref 56, .int a1, .int a2, .int a3] [] S Q := by
  refine e_iload f_106_0 rfl ?_
  refine e_if f_106_1 (fun hc => ?_) (fun hc => ?_)
  · have hc : a2 < 0 := of_decide_eq_true hc
    rw [if_pos hc] at hV
    refine e_iconst (c := 0) f_106_28 (by decide) ?_
    exact e_ireturn f_106_29 rt_106 (by decide) hV
  · have hc : ¬ a2 < 0 := fun z => hc (decide_eq_true z)
    rw [if_neg hc] at hV
    refine e_iload f_106_4 rfl ?_
    refine e_if f_106_5 (fun hc => ?_) (fun hc => ?_)
    · have hc : a3 < 0 := of_decide_eq_true hc
      rw [if_pos hc] at hV
      refine e_iconst (c := 0) f_106_28 (by decide) ?_
      exact e_ireturn f_106_29 rt_106 (by decide) hV
    · have hc : ¬ a3 < 0 := fun z => hc (decide_eq_true z)
      rw [if_neg hc] at hV
      refine e_iload f_106_8 rfl ?_
      refine e_i2l f_106_9 ?_
      refine e_iload f_106_10 rfl ?_
      refine e_i2l f_106_11 ?_
      refine e_ladd f_106_12 ?_
      refine e_aload f_106_13 rfl (by decide) ?_
      refine e_gr (c := 6) (j := 6) (r := 60) f_106_14 (by decide) (by decide) (by decide) (by decide) ?_
      refine e_iload f_106_17 rfl ?_
      obtain ⟨hg, hV⟩ := hV
      refine e_ia (n := 8) f_106_18 (by decide) (by decide) hg ?_
      refine e_i2l f_106_19 ?_
      refine e_lcmp f_106_20 ?_
      refine e_if f_106_21 (fun hc => ?_) (fun hc => ?_)
      · have hc : (0 : Int32) < (lg_cmp ((Int32.toInt64 a2) + (Int32.toInt64 a3)) (Int32.toInt64 (S 60 (Int32.toNatClampNeg a1)))) := of_decide_eq_true hc
        rw [if_pos hc] at hV
        refine e_iconst (c := 0) f_106_28 (by decide) ?_
        exact e_ireturn f_106_29 rt_106 (by decide) hV
      · have hc : ¬ (0 : Int32) < (lg_cmp ((Int32.toInt64 a2) + (Int32.toInt64 a3)) (Int32.toInt64 (S 60 (Int32.toNatClampNeg a1)))) := fun z => hc (decide_eq_true z)
        rw [if_neg hc] at hV
        refine e_iconst (c := 1) f_106_24 (by decide) ?_
        refine e_goto f_106_25 ?_
        exact e_ireturn f_106_29 rt_106 (by decide) hV
set_option maxRecDepth 20000 in
theorem T_107_0 {xs : List Int32} {d : Nat} {S : x_M} {Q : Option Value → x_M → Prop} {a1 : Int32}  (hV : ∃ P1 : Int32 → x_M → Prop, x_Ci xs d 100 [.int a1] S P1 ∧ ∀ (v1 : Int32) (S1 : x_M), P1 v1 S1 → (if v1 = 0 then (Q (some (.int (-1000001))) S1) else ((x_ib a1 8) ∧ (if (S1 59 (Int32.toNatClampNeg a1)) = (-1000000) then (∃ P3 : Int32 → x_M → Prop, x_Ci xs d 102 [.ref 56, .int 1] S1 P3 ∧ ∀ (v3 : Int32) (S3 : x_M), P3 v3 S3 → (Q (some (.int v3)) S3)) else ((x_ib a1 8) ∧ ((x_ib a1 8) ∧ (∃ P2 : Int32 → x_M → Prop, x_Ci xs d 103 [.ref 56, .int ((x_up S1 59 (Int32.toNatClampNeg a1) (-1000000)) 60 (Int32.toNatClampNeg a1))] (x_up S1 59 (Int32.toNatClampNeg a1) (-1000000)) P2 ∧ ∀ (v2 : Int32) (S2 : x_M), P2 v2 S2 → (Q (some (.int v2)) S2)))))))) : x_E xs (d + 1) 107 0 [.ref 56, .int a1] [] S Q := by
  refine e_iload f_107_0 rfl ?_
  obtain ⟨P1, hP1, hV⟩ := hV
  refine e_si (n := 1) (A := [.int a1]) (R := []) f_107_1 na_100 rfl rfl (Nat.le_of_ble_eq_true rfl) (Nat.le_of_ble_eq_true rfl) (by rw [ml_100]; exact Nat.le_of_ble_eq_true rfl) hP1 (fun v1 S1 hp1 => ?_)
  have hV := hV v1 S1 hp1
  refine e_if f_107_4 (fun hc => ?_) (fun hc => ?_)
  · have hc : ¬ v1 = 0 := of_decide_eq_true hc
    rw [if_neg hc] at hV
    refine e_aload f_107_10 rfl (by decide) ?_
    refine e_gr (c := 6) (j := 5) (r := 59) f_107_11 (by decide) (by decide) (by decide) (by decide) ?_
    refine e_iload f_107_14 rfl ?_
    obtain ⟨hg, hV⟩ := hV
    refine e_ia (n := 8) f_107_15 (by decide) (by decide) hg ?_
    refine e_iconst (c := (-1000000)) f_107_16 (by decide) ?_
    refine e_icmp f_107_18 (fun hc => ?_) (fun hc => ?_)
    · have hc : ¬ (S1 59 (Int32.toNatClampNeg a1)) = (-1000000) := of_decide_eq_true hc
      rw [if_neg hc] at hV
      refine e_aload f_107_27 rfl (by decide) ?_
      refine e_gr (c := 6) (j := 5) (r := 59) f_107_28 (by decide) (by decide) (by decide) (by decide) ?_
      refine e_iload f_107_31 rfl ?_
      refine e_iconst (c := (-1000000)) f_107_32 (by decide) ?_
      obtain ⟨hg, hV⟩ := hV
      refine e_is (n := 8) f_107_34 (by decide) (by decide) hg ?_
      refine e_aload f_107_35 rfl (by decide) ?_
      refine e_aload f_107_36 rfl (by decide) ?_
      refine e_gr (c := 6) (j := 6) (r := 60) f_107_37 (by decide) (by decide) (by decide) (by decide) ?_
      refine e_iload f_107_40 rfl ?_
      obtain ⟨hg, hV⟩ := hV
      refine e_ia (n := 8) f_107_41 (by decide) (by decide) hg ?_
      obtain ⟨P2, hP2, hV⟩ := hV
      refine e_vi (n := 2) (A := [.ref 56, .int ((x_up S1 59 (Int32.toNatClampNeg a1) (-1000000)) 60 (Int32.toNatClampNeg a1))]) (R := []) f_107_42 na_103 rfl rfl (Nat.le_of_ble_eq_true rfl) (Nat.le_of_ble_eq_true rfl) (by rw [ml_103]; exact Nat.le_of_ble_eq_true rfl) rfl (by rw [cy_103]; decide) (by rw [cy_103]; exact (by decide : x_tg 56 = 6)) hP2 (fun v2 S2 hp2 => ?_)
      have hV := hV v2 S2 hp2
      exact e_ireturn f_107_45 rt_107 rfl hV
    · have hc : (S1 59 (Int32.toNatClampNeg a1)) = (-1000000) := Decidable.not_not.mp (fun z => hc (decide_eq_true z))
      rw [if_pos hc] at hV
      refine e_aload f_107_21 rfl (by decide) ?_
      refine e_iconst (c := 1) f_107_22 (by decide) ?_
      obtain ⟨P3, hP3, hV⟩ := hV
      refine e_vi (n := 2) (A := [.ref 56, .int 1]) (R := []) f_107_23 na_102 rfl rfl (Nat.le_of_ble_eq_true rfl) (Nat.le_of_ble_eq_true rfl) (by rw [ml_102]; exact Nat.le_of_ble_eq_true rfl) rfl (by rw [cy_102]; decide) (by rw [cy_102]; exact (by decide : x_tg 56 = 6)) hP3 (fun v3 S3 hp3 => ?_)
      have hV := hV v3 S3 hp3
      exact e_ireturn f_107_26 rt_107 rfl hV
  · have hc : v1 = 0 := Decidable.not_not.mp (fun z => hc (decide_eq_true z))
    rw [if_pos hc] at hV
    refine e_iconst (c := (-1000001)) f_107_7 (by decide) ?_
    exact e_ireturn f_107_9 rt_107 rfl hV
set_option maxRecDepth 20000 in
theorem T_108_0 {xs : List Int32} {d : Nat} {S : x_M} {Q : Option Value → x_M → Prop} {a1 : Int64} {a3 : Int32}  (hV : ∃ P1 : Int32 → x_M → Prop, x_Ci xs d 101 [.long (Int32.toInt64 a3), .long 1, .long 8] S P1 ∧ ∀ (v1 : Int32) (S1 : x_M), P1 v1 S1 → (if v1 = 0 then (Q (some (.int (-1000001))) S1) else (if ((S1 56 2) + a3) ≤ 400 then (x_E xs (d + 1) 108 35 [.ref 56, .long a1, .null, .int a3, .int (a3 - 1)] [] S1 Q) else (Q (some (.int (-1000003))) S1)))) : x_E xs (d + 1) 108 0 [.ref 56, .long a1, .null, .int a3, .null] [] S Q := by
  refine e_iload f_108_0 rfl ?_
  refine e_i2l f_108_1 ?_
  refine e_lconst (c := 1) f_108_2 (by decide) ?_
  refine e_lconst (c := 8) f_108_3 (by decide) ?_
  obtain ⟨P1, hP1, hV⟩ := hV
  refine e_si (n := 3) (A := [.long (Int32.toInt64 a3), .long 1, .long 8]) (R := []) f_108_6 na_101 rfl rfl (Nat.le_of_ble_eq_true rfl) (Nat.le_of_ble_eq_true rfl) (by rw [ml_101]; exact Nat.le_of_ble_eq_true rfl) hP1 (fun v1 S1 hp1 => ?_)
  have hV := hV v1 S1 hp1
  refine e_if f_108_9 (fun hc => ?_) (fun hc => ?_)
  · have hc : ¬ v1 = 0 := of_decide_eq_true hc
    rw [if_neg hc] at hV
    refine e_aload f_108_15 rfl (by decide) ?_
    refine e_gf (c := 6) (j := 2) f_108_16 (by decide) (by decide) (by decide) ?_
    refine e_iload f_108_19 rfl ?_
    refine e_iadd f_108_20 ?_
    refine e_iconst (c := 400) f_108_21 (by decide) ?_
    refine e_icmp f_108_24 (fun hc => ?_) (fun hc => ?_)
    · have hc : ((S1 56 2) + a3) ≤ 400 := of_decide_eq_true hc
      rw [if_pos hc] at hV
      refine e_iload f_108_30 rfl ?_
      refine e_iconst (c := 1) f_108_31 (by decide) ?_
      refine e_isub f_108_32 ?_
      refine e_istore (L' := [.ref 56, .long a1, .null, .int a3, .int (a3 - 1)]) f_108_33 (Nat.le_of_ble_eq_true rfl) rfl ?_
      exact hV
    · have hc : ¬ ((S1 56 2) + a3) ≤ 400 := fun z => hc (decide_eq_true z)
      rw [if_neg hc] at hV
      refine e_iconst (c := (-1000003)) f_108_27 (by decide) ?_
      exact e_ireturn f_108_29 rt_108 rfl hV
  · have hc : v1 = 0 := Decidable.not_not.mp (fun z => hc (decide_eq_true z))
    rw [if_pos hc] at hV
    refine e_iconst (c := (-1000001)) f_108_12 (by decide) ?_
    exact e_ireturn f_108_14 rt_108 rfl hV
set_option maxRecDepth 20000 in
theorem T_108_35 {xs : List Int32} {d : Nat} {S : x_M} {Q : Option Value → x_M → Prop} {a1 : Int64} {a3 : Int32} {a4 : Int32}  (hV : if a4 < 0 then (Q (some (.int (S 56 2))) S) else ((x_ib (S 56 2) 400) ∧ (x_E xs (d + 1) 108 35 [.ref 56, .long a1, .null, .int a3, .int (a4 + (-1))] [] (x_up (x_up S 58 (Int32.toNatClampNeg (S 56 2)) (Int64.toInt32 ((a1 >>> (((8 * a4)).toInt64 &&& 63)) &&& 255))) 56 2 (((x_up S 58 (Int32.toNatClampNeg (S 56 2)) (Int64.toInt32 ((a1 >>> (((8 * a4)).toInt64 &&& 63)) &&& 255))) 56 2) + 1)) Q))) : x_E xs (d + 1) 108 35 [.ref 56, .long a1, .null, .int a3, .int a4] [] S Q := by
  refine e_iload f_108_35 rfl ?_
  refine e_if f_108_37 (fun hc => ?_) (fun hc => ?_)
  · have hc : a4 < 0 := of_decide_eq_true hc
    rw [if_pos hc] at hV
    refine e_aload f_108_77 rfl (by decide) ?_
    refine e_gf (c := 6) (j := 2) f_108_78 (by decide) (by decide) (by decide) ?_
    exact e_ireturn f_108_81 rt_108 rfl hV
  · have hc : ¬ a4 < 0 := fun z => hc (decide_eq_true z)
    rw [if_neg hc] at hV
    refine e_aload f_108_40 rfl (by decide) ?_
    refine e_gr (c := 6) (j := 1) (r := 58) f_108_41 (by decide) (by decide) (by decide) (by decide) ?_
    refine e_aload f_108_44 rfl (by decide) ?_
    refine e_gf (c := 6) (j := 2) f_108_45 (by decide) (by decide) (by decide) ?_
    refine e_lload f_108_48 rfl ?_
    refine e_iconst (c := 8) f_108_49 (by decide) ?_
    refine e_iload f_108_51 rfl ?_
    refine e_imul f_108_53 ?_
    refine e_lshr f_108_54 ?_
    refine e_lconst (c := 255) f_108_55 (by decide) ?_
    refine e_land f_108_58 ?_
    refine e_l2i f_108_59 ?_
    obtain ⟨hg, hV⟩ := hV
    refine e_is (n := 400) f_108_60 (by decide) (by decide) hg ?_
    refine e_aload f_108_61 rfl (by decide) ?_
    refine e_dup f_108_62 rfl ?_
    refine e_gf (c := 6) (j := 2) f_108_63 (by decide) (by decide) (by decide) ?_
    refine e_iconst (c := 1) f_108_66 (by decide) ?_
    refine e_iadd f_108_67 ?_
    refine e_pf (c := 6) (j := 2) f_108_68 (by decide) (by decide) (by decide) (x_fit_i rfl) ?_
    refine e_inc (c := (-1)) (L' := [.ref 56, .long a1, .null, .int a3, .int (a4 + (-1))]) f_108_71 rfl (by decide) rfl ?_
    refine e_goto f_108_74 ?_
    exact hV
set_option maxRecDepth 20000 in
theorem T_109_0 {xs : List Int32} {d : Nat} {S : x_M} {Q : Option Value → x_M → Prop}   (hV : ∃ P1 : Int32 → x_M → Prop, x_Ci xs d 110 [.ref 56] S P1 ∧ ∀ (v1 : Int32) (S1 : x_M), P1 v1 S1 → (if v1 = 0 then (Q (some (.int ((-1000100) - (S1 56 11)))) (x_up S1 56 2 0)) else (x_E xs (d + 1) 109 59 [.ref 56, .int v1, .int (S1 56 11), .int 0] [] (x_up (x_up (x_up (x_up (x_up S1 56 2 0) 57 0 1) 57 1 ((x_up (x_up S1 56 2 0) 57 0 1) 56 16)) 57 30 0) 57 31 0) Q))) : x_E xs (d + 1) 109 0 [.ref 56, .null, .null, .null] [] S Q := by
  refine e_aload f_109_0 rfl (by decide) ?_
  obtain ⟨P1, hP1, hV⟩ := hV
  refine e_vi (n := 1) (A := [.ref 56]) (R := []) f_109_1 na_110 rfl rfl (Nat.le_of_ble_eq_true rfl) (Nat.le_of_ble_eq_true rfl) (by rw [ml_110]; exact Nat.le_of_ble_eq_true rfl) rfl (by rw [cy_110]; decide) (by rw [cy_110]; exact (by decide : x_tg 56 = 6)) hP1 (fun v1 S1 hp1 => ?_)
  have hV := hV v1 S1 hp1
  refine e_istore (L' := [.ref 56, .int v1, .null, .null]) f_109_4 (Nat.le_of_ble_eq_true rfl) rfl ?_
  refine e_aload f_109_5 rfl (by decide) ?_
  refine e_gf (c := 6) (j := 11) f_109_6 (by decide) (by decide) (by decide) ?_
  refine e_istore (L' := [.ref 56, .int v1, .int (S1 56 11), .null]) f_109_9 (Nat.le_of_ble_eq_true rfl) rfl ?_
  refine e_aload f_109_10 rfl (by decide) ?_
  refine e_iconst (c := 0) f_109_11 (by decide) ?_
  refine e_pf (c := 6) (j := 2) f_109_12 (by decide) (by decide) (by decide) (x_fit_i rfl) ?_
  refine e_iload f_109_15 rfl ?_
  refine e_if f_109_16 (fun hc => ?_) (fun hc => ?_)
  · have hc : ¬ v1 = 0 := of_decide_eq_true hc
    rw [if_neg hc] at hV
    refine e_aload f_109_24 rfl (by decide) ?_
    refine e_gr (c := 6) (j := 0) (r := 57) f_109_25 (by decide) (by decide) (by decide) (by decide) ?_
    refine e_iconst (c := 0) f_109_28 (by decide) ?_
    refine e_iconst (c := 1) f_109_29 (by decide) ?_
    refine e_isk (n := 99) (kk := 0) f_109_30 (by decide) (by decide) (by decide) ?_
    refine e_aload f_109_31 rfl (by decide) ?_
    refine e_gr (c := 6) (j := 0) (r := 57) f_109_32 (by decide) (by decide) (by decide) (by decide) ?_
    refine e_iconst (c := 1) f_109_35 (by decide) ?_
    refine e_aload f_109_36 rfl (by decide) ?_
    refine e_gf (c := 6) (j := 16) f_109_37 (by decide) (by decide) (by decide) ?_
    refine e_isk (n := 99) (kk := 1) f_109_40 (by decide) (by decide) (by decide) ?_
    refine e_aload f_109_41 rfl (by decide) ?_
    refine e_gr (c := 6) (j := 0) (r := 57) f_109_42 (by decide) (by decide) (by decide) (by decide) ?_
    refine e_iconst (c := 30) f_109_45 (by decide) ?_
    refine e_iconst (c := 0) f_109_47 (by decide) ?_
    refine e_isk (n := 99) (kk := 30) f_109_48 (by decide) (by decide) (by decide) ?_
    refine e_aload f_109_49 rfl (by decide) ?_
    refine e_gr (c := 6) (j := 0) (r := 57) f_109_50 (by decide) (by decide) (by decide) (by decide) ?_
    refine e_iconst (c := 31) f_109_53 (by decide) ?_
    refine e_iconst (c := 0) f_109_55 (by decide) ?_
    refine e_isk (n := 99) (kk := 31) f_109_56 (by decide) (by decide) (by decide) ?_
    refine e_iconst (c := 0) f_109_57 (by decide) ?_
    refine e_istore (L' := [.ref 56, .int v1, .int (S1 56 11), .int 0]) f_109_58 (Nat.le_of_ble_eq_true rfl) rfl ?_
    exact hV
  · have hc : v1 = 0 := Decidable.not_not.mp (fun z => hc (decide_eq_true z))
    rw [if_pos hc] at hV
    refine e_iconst (c := (-1000100)) f_109_19 (by decide) ?_
    refine e_iload f_109_21 rfl ?_
    refine e_isub f_109_22 ?_
    exact e_ireturn f_109_23 rt_109 rfl hV
set_option maxRecDepth 20000 in
theorem T_109_59 {xs : List Int32} {d : Nat} {S : x_M} {Q : Option Value → x_M → Prop} {a1 : Int32} {a2 : Int32} {a3 : Int32}  (hV : if (S 56 16) ≤ a3 then (x_E xs (d + 1) 109 109 [.ref 56, .int a1, .int a2, .int 0] [] S Q) else ((x_ib a3 14) ∧ ((x_ib (2 + a3) 99) ∧ ((x_ib a3 14) ∧ ((x_ib (30 + ((x_up S 57 (Int32.toNatClampNeg (2 + a3)) (S 64 (Int32.toNatClampNeg a3))) 65 (Int32.toNatClampNeg a3))) 99) ∧ ((x_ib (30 + ((x_up S 57 (Int32.toNatClampNeg (2 + a3)) (S 64 (Int32.toNatClampNeg a3))) 65 (Int32.toNatClampNeg a3))) 99) ∧ (x_E xs (d + 1) 109 59 [.ref 56, .int a1, .int a2, .int (a3 + 1)] [] (x_up (x_up S 57 (Int32.toNatClampNeg (2 + a3)) (S 64 (Int32.toNatClampNeg a3))) 57 (Int32.toNatClampNeg (30 + ((x_up S 57 (Int32.toNatClampNeg (2 + a3)) (S 64 (Int32.toNatClampNeg a3))) 65 (Int32.toNatClampNeg a3)))) (((x_up S 57 (Int32.toNatClampNeg (2 + a3)) (S 64 (Int32.toNatClampNeg a3))) 57 (Int32.toNatClampNeg (30 + ((x_up S 57 (Int32.toNatClampNeg (2 + a3)) (S 64 (Int32.toNatClampNeg a3))) 65 (Int32.toNatClampNeg a3))))) ||| (1 <<< (a3 &&& 31)))) Q))))))) : x_E xs (d + 1) 109 59 [.ref 56, .int a1, .int a2, .int a3] [] S Q := by
  refine e_iload f_109_59 rfl ?_
  refine e_aload f_109_60 rfl (by decide) ?_
  refine e_gf (c := 6) (j := 16) f_109_61 (by decide) (by decide) (by decide) ?_
  refine e_icmp f_109_64 (fun hc => ?_) (fun hc => ?_)
  · have hc : (S 56 16) ≤ a3 := of_decide_eq_true hc
    rw [if_pos hc] at hV
    refine e_iconst (c := 0) f_109_107 (by decide) ?_
    refine e_istore (L' := [.ref 56, .int a1, .int a2, .int 0]) f_109_108 (Nat.le_of_ble_eq_true rfl) rfl ?_
    exact hV
  · have hc : ¬ (S 56 16) ≤ a3 := fun z => hc (decide_eq_true z)
    rw [if_neg hc] at hV
    refine e_aload f_109_67 rfl (by decide) ?_
    refine e_gr (c := 6) (j := 0) (r := 57) f_109_68 (by decide) (by decide) (by decide) (by decide) ?_
    refine e_iconst (c := 2) f_109_71 (by decide) ?_
    refine e_iload f_109_72 rfl ?_
    refine e_iadd f_109_73 ?_
    refine e_aload f_109_74 rfl (by decide) ?_
    refine e_gr (c := 6) (j := 14) (r := 64) f_109_75 (by decide) (by decide) (by decide) (by decide) ?_
    refine e_iload f_109_78 rfl ?_
    obtain ⟨hg, hV⟩ := hV
    refine e_ia (n := 14) f_109_79 (by decide) (by decide) hg ?_
    obtain ⟨hg, hV⟩ := hV
    refine e_is (n := 99) f_109_80 (by decide) (by decide) hg ?_
    refine e_aload f_109_81 rfl (by decide) ?_
    refine e_gr (c := 6) (j := 0) (r := 57) f_109_82 (by decide) (by decide) (by decide) (by decide) ?_
    refine e_iconst (c := 30) f_109_85 (by decide) ?_
    refine e_aload f_109_87 rfl (by decide) ?_
    refine e_gr (c := 6) (j := 15) (r := 65) f_109_88 (by decide) (by decide) (by decide) (by decide) ?_
    refine e_iload f_109_91 rfl ?_
    obtain ⟨hg, hV⟩ := hV
    refine e_ia (n := 14) f_109_92 (by decide) (by decide) hg ?_
    refine e_iadd f_109_93 ?_
    refine e_dup2 f_109_94 ⟨rfl, rfl⟩ ?_
    obtain ⟨hg, hV⟩ := hV
    refine e_ia (n := 99) f_109_95 (by decide) (by decide) hg ?_
    refine e_iconst (c := 1) f_109_96 (by decide) ?_
    refine e_iload f_109_97 rfl ?_
    refine e_ishl f_109_98 ?_
    refine e_ior f_109_99 ?_
    obtain ⟨hg, hV⟩ := hV
    refine e_is (n := 99) f_109_100 (by decide) (by decide) hg ?_
    refine e_inc (c := 1) (L' := [.ref 56, .int a1, .int a2, .int (a3 + 1)]) f_109_101 rfl (by decide) rfl ?_
    refine e_goto f_109_104 ?_
    exact hV
set_option maxRecDepth 20000 in
theorem T_109_109 {xs : List Int32} {d : Nat} {S : x_M} {Q : Option Value → x_M → Prop} {a1 : Int32} {a2 : Int32} {a3 : Int32}  (hV : if (9 : Int32) ≤ a3 then (if ((x_up (x_up S 57 25 511) 57 26 0) 57 30) = 0 then (x_E xs (d + 1) 109 175 [.ref 56, .int a1, .int a2, .int a3] [.int 1, .int 27, .ref 57] (x_up (x_up S 57 25 511) 57 26 0) Q) else (x_E xs (d + 1) 109 175 [.ref 56, .int a1, .int a2, .int a3] [.int 0, .int 27, .ref 57] (x_up (x_up S 57 25 511) 57 26 0) Q)) else ((x_ib a3 9) ∧ ((x_ib (16 + a3) 99) ∧ (x_E xs (d + 1) 109 109 [.ref 56, .int a1, .int a2, .int (a3 + 1)] [] (x_up S 57 (Int32.toNatClampNeg (16 + a3)) (S 63 (Int32.toNatClampNeg a3))) Q)))) : x_E xs (d + 1) 109 109 [.ref 56, .int a1, .int a2, .int a3] [] S Q := by
  refine e_iload f_109_109 rfl ?_
  refine e_iconst (c := 9) f_109_110 (by decide) ?_
  refine e_icmp f_109_112 (fun hc => ?_) (fun hc => ?_)
  · have hc : (9 : Int32) ≤ a3 := of_decide_eq_true hc
    rw [if_pos hc] at hV
    refine e_aload f_109_136 rfl (by decide) ?_
    refine e_gr (c := 6) (j := 0) (r := 57) f_109_137 (by decide) (by decide) (by decide) (by decide) ?_
    refine e_iconst (c := 25) f_109_140 (by decide) ?_
    refine e_iconst (c := 511) f_109_142 (by decide) ?_
    refine e_isk (n := 99) (kk := 25) f_109_145 (by decide) (by decide) (by decide) ?_
    refine e_aload f_109_146 rfl (by decide) ?_
    refine e_gr (c := 6) (j := 0) (r := 57) f_109_147 (by decide) (by decide) (by decide) (by decide) ?_
    refine e_iconst (c := 26) f_109_150 (by decide) ?_
    refine e_iconst (c := 0) f_109_152 (by decide) ?_
    refine e_isk (n := 99) (kk := 26) f_109_153 (by decide) (by decide) (by decide) ?_
    refine e_aload f_109_154 rfl (by decide) ?_
    refine e_gr (c := 6) (j := 0) (r := 57) f_109_155 (by decide) (by decide) (by decide) (by decide) ?_
    refine e_iconst (c := 27) f_109_158 (by decide) ?_
    refine e_aload f_109_160 rfl (by decide) ?_
    refine e_gr (c := 6) (j := 0) (r := 57) f_109_161 (by decide) (by decide) (by decide) (by decide) ?_
    refine e_iconst (c := 30) f_109_164 (by decide) ?_
    refine e_iak (n := 99) (kk := 30) f_109_166 (by decide) (by decide) (by decide) ?_
    refine e_if f_109_167 (fun hc => ?_) (fun hc => ?_)
    · have hc : ¬ ((x_up (x_up S 57 25 511) 57 26 0) 57 30) = 0 := of_decide_eq_true hc
      rw [if_neg hc] at hV
      refine e_iconst (c := 0) f_109_174 (by decide) ?_
      exact hV
    · have hc : ((x_up (x_up S 57 25 511) 57 26 0) 57 30) = 0 := Decidable.not_not.mp (fun z => hc (decide_eq_true z))
      rw [if_pos hc] at hV
      refine e_iconst (c := 1) f_109_170 (by decide) ?_
      refine e_goto f_109_171 ?_
      exact hV
  · have hc : ¬ (9 : Int32) ≤ a3 := fun z => hc (decide_eq_true z)
    rw [if_neg hc] at hV
    refine e_aload f_109_115 rfl (by decide) ?_
    refine e_gr (c := 6) (j := 0) (r := 57) f_109_116 (by decide) (by decide) (by decide) (by decide) ?_
    refine e_iconst (c := 16) f_109_119 (by decide) ?_
    refine e_iload f_109_121 rfl ?_
    refine e_iadd f_109_122 ?_
    refine e_aload f_109_123 rfl (by decide) ?_
    refine e_gr (c := 6) (j := 13) (r := 63) f_109_124 (by decide) (by decide) (by decide) (by decide) ?_
    refine e_iload f_109_127 rfl ?_
    obtain ⟨hg, hV⟩ := hV
    refine e_ia (n := 9) f_109_128 (by decide) (by decide) hg ?_
    obtain ⟨hg, hV⟩ := hV
    refine e_is (n := 99) f_109_129 (by decide) (by decide) hg ?_
    refine e_inc (c := 1) (L' := [.ref 56, .int a1, .int a2, .int (a3 + 1)]) f_109_130 rfl (by decide) rfl ?_
    refine e_goto f_109_133 ?_
    exact hV
set_option maxRecDepth 20000 in
theorem T_109_175 {xs : List Int32} {d : Nat} {S : x_M} {Q : Option Value → x_M → Prop} {a1 : Int32} {a2 : Int32} {a3 : Int32} {s1 : Int32} {s2 : Int32}  (hV : (x_ib s1 99) ∧ (∃ P1 : x_M → Prop, x_Cv xs d 120 [.ref 56] (x_up (x_up (x_up (x_up S 57 (Int32.toNatClampNeg s1) s2) 57 28 0) 57 29 0) 57 32 0) P1 ∧ ∀ (S1 : x_M), P1 S1 → (Q (some (.int (S1 56 16))) S1))) : x_E xs (d + 1) 109 175 [.ref 56, .int a1, .int a2, .int a3] [.int s2, .int s1, .ref 57] S Q := by
  obtain ⟨hg, hV⟩ := hV
  refine e_is (n := 99) f_109_175 (by decide) (by decide) hg ?_
  refine e_aload f_109_176 rfl (by decide) ?_
  refine e_gr (c := 6) (j := 0) (r := 57) f_109_177 (by decide) (by decide) (by decide) (by decide) ?_
  refine e_iconst (c := 28) f_109_180 (by decide) ?_
  refine e_iconst (c := 0) f_109_182 (by decide) ?_
  refine e_isk (n := 99) (kk := 28) f_109_183 (by decide) (by decide) (by decide) ?_
  refine e_aload f_109_184 rfl (by decide) ?_
  refine e_gr (c := 6) (j := 0) (r := 57) f_109_185 (by decide) (by decide) (by decide) (by decide) ?_
  refine e_iconst (c := 29) f_109_188 (by decide) ?_
  refine e_iconst (c := 0) f_109_190 (by decide) ?_
  refine e_isk (n := 99) (kk := 29) f_109_191 (by decide) (by decide) (by decide) ?_
  refine e_aload f_109_192 rfl (by decide) ?_
  refine e_gr (c := 6) (j := 0) (r := 57) f_109_193 (by decide) (by decide) (by decide) (by decide) ?_
  refine e_iconst (c := 32) f_109_196 (by decide) ?_
  refine e_iconst (c := 0) f_109_198 (by decide) ?_
  refine e_isk (n := 99) (kk := 32) f_109_199 (by decide) (by decide) (by decide) ?_
  refine e_aload f_109_200 rfl (by decide) ?_
  obtain ⟨P1, hP1, hV⟩ := hV
  refine e_vv (n := 1) (A := [.ref 56]) (R := []) f_109_201 na_120 rfl rfl (Nat.le_of_ble_eq_true rfl) (Nat.le_of_ble_eq_true rfl) (by rw [ml_120]; exact Nat.le_of_ble_eq_true rfl) rfl (by rw [cy_120]; decide) (by rw [cy_120]; exact (by decide : x_tg 56 = 6)) hP1 (fun S1 hp1 => ?_)
  have hV := hV S1 hp1
  refine e_aload f_109_204 rfl (by decide) ?_
  refine e_gf (c := 6) (j := 16) f_109_205 (by decide) (by decide) (by decide) ?_
  exact e_ireturn f_109_208 rt_109 rfl hV
set_option maxRecDepth 20000 in
theorem T_110_0 {xs : List Int32} {d : Nat} {S : x_M} {Q : Option Value → x_M → Prop}   (hV : ∃ P1 : x_M → Prop, x_Cv xs d 111 [.ref 56] (x_up (x_up S 56 10 0) 56 16 0) P1 ∧ ∀ (S1 : x_M), P1 S1 → (∃ P2 : Int32 → x_M → Prop, x_Ci xs d 113 [.ref 56] S1 P2 ∧ ∀ (v2 : Int32) (S2 : x_M), P2 v2 S2 → (if v2 = 0 then (Q (some (.int 0)) S2) else (∃ P3 : Int32 → x_M → Prop, x_Ci xs d 118 [.ref 56] S2 P3 ∧ ∀ (v3 : Int32) (S3 : x_M), P3 v3 S3 → (if v3 = 0 then (Q (some (.int 0)) S3) else (x_E xs (d + 1) 110 30 [.ref 56] [] S3 Q)))))) : x_E xs (d + 1) 110 0 [.ref 56] [] S Q := by
  refine e_aload f_110_0 rfl (by decide) ?_
  refine e_iconst (c := 0) f_110_1 (by decide) ?_
  refine e_pf (c := 6) (j := 10) f_110_2 (by decide) (by decide) (by decide) (x_fit_i rfl) ?_
  refine e_aload f_110_5 rfl (by decide) ?_
  refine e_iconst (c := 0) f_110_6 (by decide) ?_
  refine e_pf (c := 6) (j := 16) f_110_7 (by decide) (by decide) (by decide) (x_fit_i rfl) ?_
  refine e_aload f_110_10 rfl (by decide) ?_
  obtain ⟨P1, hP1, hV⟩ := hV
  refine e_vv (n := 1) (A := [.ref 56]) (R := []) f_110_11 na_111 rfl rfl (Nat.le_of_ble_eq_true rfl) (Nat.le_of_ble_eq_true rfl) (by rw [ml_111]; exact Nat.le_of_ble_eq_true rfl) rfl (by rw [cy_111]; decide) (by rw [cy_111]; exact (by decide : x_tg 56 = 6)) hP1 (fun S1 hp1 => ?_)
  have hV := hV S1 hp1
  refine e_aload f_110_14 rfl (by decide) ?_
  obtain ⟨P2, hP2, hV⟩ := hV
  refine e_vi (n := 1) (A := [.ref 56]) (R := []) f_110_15 na_113 rfl rfl (Nat.le_of_ble_eq_true rfl) (Nat.le_of_ble_eq_true rfl) (by rw [ml_113]; exact Nat.le_of_ble_eq_true rfl) rfl (by rw [cy_113]; decide) (by rw [cy_113]; exact (by decide : x_tg 56 = 6)) hP2 (fun v2 S2 hp2 => ?_)
  have hV := hV v2 S2 hp2
  refine e_if f_110_18 (fun hc => ?_) (fun hc => ?_)
  · have hc : v2 = 0 := of_decide_eq_true hc
    rw [if_pos hc] at hV
    refine e_iconst (c := 0) f_110_28 (by decide) ?_
    exact e_ireturn f_110_29 rt_110 (by decide) hV
  · have hc : ¬ v2 = 0 := fun z => hc (decide_eq_true z)
    rw [if_neg hc] at hV
    refine e_aload f_110_21 rfl (by decide) ?_
    obtain ⟨P3, hP3, hV⟩ := hV
    refine e_vi (n := 1) (A := [.ref 56]) (R := []) f_110_22 na_118 rfl rfl (Nat.le_of_ble_eq_true rfl) (Nat.le_of_ble_eq_true rfl) (by rw [ml_118]; exact Nat.le_of_ble_eq_true rfl) rfl (by rw [cy_118]; decide) (by rw [cy_118]; exact (by decide : x_tg 56 = 6)) hP3 (fun v3 S3 hp3 => ?_)
    have hV := hV v3 S3 hp3
    refine e_if f_110_25 (fun hc => ?_) (fun hc => ?_)
    · have hc : ¬ v3 = 0 := of_decide_eq_true hc
      rw [if_neg hc] at hV
      exact hV
    · have hc : v3 = 0 := Decidable.not_not.mp (fun z => hc (decide_eq_true z))
      rw [if_pos hc] at hV
      refine e_iconst (c := 0) f_110_28 (by decide) ?_
      exact e_ireturn f_110_29 rt_110 (by decide) hV
set_option maxRecDepth 20000 in
theorem T_110_30 {xs : List Int32} {d : Nat} {S : x_M} {Q : Option Value → x_M → Prop}   (hV : if (S 56 2) ≤ (S 56 11) then (Q (some (.int 1)) S) else (∃ P1 : Int32 → x_M → Prop, x_Ci xs d 118 [.ref 56] S P1 ∧ ∀ (v1 : Int32) (S1 : x_M), P1 v1 S1 → (if v1 = 0 then (Q (some (.int 0)) S1) else (x_E xs (d + 1) 110 30 [.ref 56] [] S1 Q)))) : x_E xs (d + 1) 110 30 [.ref 56] [] S Q := by
  refine e_aload f_110_30 rfl (by decide) ?_
  refine e_gf (c := 6) (j := 11) f_110_31 (by decide) (by decide) (by decide) ?_
  refine e_aload f_110_34 rfl (by decide) ?_
  refine e_gf (c := 6) (j := 2) f_110_35 (by decide) (by decide) (by decide) ?_
  refine e_icmp f_110_38 (fun hc => ?_) (fun hc => ?_)
  · have hc : (S 56 2) ≤ (S 56 11) := of_decide_eq_true hc
    rw [if_pos hc] at hV
    refine e_iconst (c := 1) f_110_50 (by decide) ?_
    exact e_ireturn f_110_51 rt_110 (by decide) hV
  · have hc : ¬ (S 56 2) ≤ (S 56 11) := fun z => hc (decide_eq_true z)
    rw [if_neg hc] at hV
    refine e_aload f_110_41 rfl (by decide) ?_
    obtain ⟨P1, hP1, hV⟩ := hV
    refine e_vi (n := 1) (A := [.ref 56]) (R := []) f_110_42 na_118 rfl rfl (Nat.le_of_ble_eq_true rfl) (Nat.le_of_ble_eq_true rfl) (by rw [ml_118]; exact Nat.le_of_ble_eq_true rfl) rfl (by rw [cy_118]; decide) (by rw [cy_118]; exact (by decide : x_tg 56 = 6)) hP1 (fun v1 S1 hp1 => ?_)
    have hV := hV v1 S1 hp1
    refine e_if f_110_45 (fun hc => ?_) (fun hc => ?_)
    · have hc : ¬ v1 = 0 := of_decide_eq_true hc
      rw [if_neg hc] at hV
      exact hV
    · have hc : v1 = 0 := Decidable.not_not.mp (fun z => hc (decide_eq_true z))
      rw [if_pos hc] at hV
      refine e_iconst (c := 0) f_110_48 (by decide) ?_
      exact e_ireturn f_110_49 rt_110 (by decide) hV
