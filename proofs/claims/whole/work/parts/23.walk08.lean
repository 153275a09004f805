set_option maxRecDepth 20000 in
theorem T_138_0 {xs : List Int32} {d : Nat} {S : x_M} {Q : Option Value → x_M → Prop}   (hV : if (S 57 30) = 0 then (if (S 57 31) = 0 then (Q (some (.int 1)) S) else (Q (some (.int 0)) S)) else (Q (some (.int 0)) S)) : x_E xs (d + 1) 138 0 [.ref 56] [] S Q := by
  refine e_aload f_138_0 rfl (by decide) ?_
  refine e_gr (c := 6) (j := 0) (r := 57) f_138_1 (by decide) (by decide) (by decide) (by decide) ?_
  refine e_iconst (c := 30) f_138_4 (by decide) ?_
  refine e_iak (n := 99) (kk := 30) f_138_6 (by decide) (by decide) (by decide) ?_
  refine e_if f_138_7 (fun hc => ?_) (fun hc => ?_)
  · have hc : ¬ (S 57 30) = 0 := of_decide_eq_true hc
    rw [if_neg hc] at hV
    refine e_iconst (c := 0) f_138_24 (by decide) ?_
    exact e_ireturn f_138_25 rt_138 (by decide) hV
  · have hc : (S 57 30) = 0 := Decidable.not_not.mp (fun z => hc (decide_eq_true z))
    rw [if_pos hc] at hV
    refine e_aload f_138_10 rfl (by decide) ?_
    refine e_gr (c := 6) (j := 0) (r := 57) f_138_11 (by decide) (by decide) (by decide) (by decide) ?_
    refine e_iconst (c := 31) f_138_14 (by decide) ?_
    refine e_iak (n := 99) (kk := 31) f_138_16 (by decide) (by decide) (by decide) ?_
    refine e_if f_138_17 (fun hc => ?_) (fun hc => ?_)
    · have hc : ¬ (S 57 31) = 0 := of_decide_eq_true hc
      rw [if_neg hc] at hV
      refine e_iconst (c := 0) f_138_24 (by decide) ?_
      exact e_ireturn f_138_25 rt_138 (by decide) hV
    · have hc : (S 57 31) = 0 := Decidable.not_not.mp (fun z => hc (decide_eq_true z))
      rw [if_pos hc] at hV
      refine e_iconst (c := 1) f_138_20 (by decide) ?_
      refine e_goto f_138_21 ?_
      exact e_ireturn f_138_25 rt_138 (by decide) hV
set_option maxRecDepth 20000 in
theorem T_139_0 {xs : List Int32} {d : Nat} {S : x_M} {Q : Option Value → x_M → Prop} {a1 : Int32}  (hV : if (S 57 0) = 0 then (Q (some (.int (-1000002))) S) else (∃ P1 : Int32 → x_M → Prop, x_Ci xs d 101 [.long (Int32.toInt64 a1), .long 0, .long 1] S P1 ∧ ∀ (v1 : Int32) (S1 : x_M), P1 v1 S1 → (if v1 = 0 then (Q (some (.int (-1000001))) S1) else (∃ P2 : Int32 → x_M → Prop, x_Ci xs d 138 [.ref 56] S1 P2 ∧ ∀ (v2 : Int32) (S2 : x_M), P2 v2 S2 → (if v2 = 0 then (∃ P3 : Int32 → x_M → Prop, x_Ci xs d 136 [.int (S2 57 30)] S2 P3 ∧ ∀ (v3 : Int32) (S3 : x_M), P3 v3 S3 → (∃ P4 : Int32 → x_M → Prop, x_Ci xs d 136 [.int (S3 57 31)] S3 P4 ∧ ∀ (v4 : Int32) (S4 : x_M), P4 v4 S4 → (if (v3 + v4) ≤ 4 then (∃ P5 : x_M → Prop, x_Cv xs d 140 [.ref 56] S4 P5 ∧ ∀ (S5 : x_M), P5 S5 → (if a1 = 0 then (Q (some (.int (S5 73 0))) S5) else (Q (some (.int (S5 56 25))) S5))) else (Q (some (.int (-1000000))) S4)))) else (Q (some (.int (-1000000))) S2)))))) : x_E xs (d + 1) 139 0 [.ref 56, .int a1] [] S Q := by
  refine e_aload f_139_0 rfl (by decide) ?_
  refine e_gr (c := 6) (j := 0) (r := 57) f_139_1 (by decide) (by decide) (by decide) (by decide) ?_
  refine e_iconst (c := 0) f_139_4 (by decide) ?_
  refine e_iak (n := 99) (kk := 0) f_139_5 (by decide) (by decide) (by decide) ?_
  refine e_if f_139_6 (fun hc => ?_) (fun hc => ?_)
  · have hc : ¬ (S 57 0) = 0 := of_decide_eq_true hc
    rw [if_neg hc] at hV
    refine e_iload f_139_12 rfl ?_
    refine e_i2l f_139_13 ?_
    refine e_lconst (c := 0) f_139_14 (by decide) ?_
    refine e_lconst (c := 1) f_139_15 (by decide) ?_
    obtain ⟨P1, hP1, hV⟩ := hV
    refine e_si (n := 3) (A := [.long (Int32.toInt64 a1), .long 0, .long 1]) (R := []) f_139_16 na_101 rfl rfl (Nat.le_of_ble_eq_true rfl) (Nat.le_of_ble_eq_true rfl) (by rw [ml_101]; exact Nat.le_of_ble_eq_true rfl) hP1 (fun v1 S1 hp1 => ?_)
    have hV := hV v1 S1 hp1
    refine e_if f_139_19 (fun hc => ?_) (fun hc => ?_)
    · have hc : ¬ v1 = 0 := of_decide_eq_true hc
      rw [if_neg hc] at hV
      refine e_aload f_139_25 rfl (by decide) ?_
      obtain ⟨P2, hP2, hV⟩ := hV
      refine e_vi (n := 1) (A := [.ref 56]) (R := []) f_139_26 na_138 rfl rfl (Nat.le_of_ble_eq_true rfl) (Nat.le_of_ble_eq_true rfl) (by rw [ml_138]; exact Nat.le_of_ble_eq_true rfl) rfl (by rw [cy_138]; decide) (by rw [cy_138]; exact (by decide : x_tg 56 = 6)) hP2 (fun v2 S2 hp2 => ?_)
      have hV := hV v2 S2 hp2
      refine e_if f_139_29 (fun hc => ?_) (fun hc => ?_)
      · have hc : ¬ v2 = 0 := of_decide_eq_true hc
        rw [if_neg hc] at hV
        refine e_iconst (c := (-1000000)) f_139_57 (by decide) ?_
        exact e_ireturn f_139_59 rt_139 rfl hV
      · have hc : v2 = 0 := Decidable.not_not.mp (fun z => hc (decide_eq_true z))
        rw [if_pos hc] at hV
        refine e_aload f_139_32 rfl (by decide) ?_
        refine e_gr (c := 6) (j := 0) (r := 57) f_139_33 (by decide) (by decide) (by decide) (by decide) ?_
        refine e_iconst (c := 30) f_139_36 (by decide) ?_
        refine e_iak (n := 99) (kk := 30) f_139_38 (by decide) (by decide) (by decide) ?_
        obtain ⟨P3, hP3, hV⟩ := hV
        refine e_si (n := 1) (A := [.int (S2 57 30)]) (R := []) f_139_39 na_136 rfl rfl (Nat.le_of_ble_eq_true rfl) (Nat.le_of_ble_eq_true rfl) (by rw [ml_136]; exact Nat.le_of_ble_eq_true rfl) hP3 (fun v3 S3 hp3 => ?_)
        have hV := hV v3 S3 hp3
        refine e_aload f_139_42 rfl (by decide) ?_
        refine e_gr (c := 6) (j := 0) (r := 57) f_139_43 (by decide) (by decide) (by decide) (by decide) ?_
        refine e_iconst (c := 31) f_139_46 (by decide) ?_
        refine e_iak (n := 99) (kk := 31) f_139_48 (by decide) (by decide) (by decide) ?_
        obtain ⟨P4, hP4, hV⟩ := hV
        refine e_si (n := 1) (A := [.int (S3 57 31)]) (R := [.int v3]) f_139_49 na_136 rfl rfl (Nat.le_of_ble_eq_true rfl) (Nat.le_of_ble_eq_true rfl) (by rw [ml_136]; exact Nat.le_of_ble_eq_true rfl) hP4 (fun v4 S4 hp4 => ?_)
        have hV := hV v4 S4 hp4
        refine e_iadd f_139_52 ?_
        refine e_iconst (c := 4) f_139_53 (by decide) ?_
        refine e_icmp f_139_54 (fun hc => ?_) (fun hc => ?_)
        · have hc : (v3 + v4) ≤ 4 := of_decide_eq_true hc
          rw [if_pos hc] at hV
          refine e_aload f_139_60 rfl (by decide) ?_
          obtain ⟨P5, hP5, hV⟩ := hV
          refine e_vv (n := 1) (A := [.ref 56]) (R := []) f_139_61 na_140 rfl rfl (Nat.le_of_ble_eq_true rfl) (Nat.le_of_ble_eq_true rfl) (by rw [ml_140]; exact Nat.le_of_ble_eq_true rfl) rfl (by rw [cy_140]; decide) (by rw [cy_140]; exact (by decide : x_tg 56 = 6)) hP5 (fun S5 hp5 => ?_)
          have hV := hV S5 hp5
          refine e_iload f_139_64 rfl ?_
          refine e_if f_139_65 (fun hc => ?_) (fun hc => ?_)
          · have hc : ¬ a1 = 0 := of_decide_eq_true hc
            rw [if_neg hc] at hV
            refine e_aload f_139_77 rfl (by decide) ?_
            refine e_gf (c := 6) (j := 25) f_139_78 (by decide) (by decide) (by decide) ?_
            exact e_ireturn f_139_81 rt_139 rfl hV
          · have hc : a1 = 0 := Decidable.not_not.mp (fun z => hc (decide_eq_true z))
            rw [if_pos hc] at hV
            refine e_aload f_139_68 rfl (by decide) ?_
            refine e_gr (c := 6) (j := 24) (r := 73) f_139_69 (by decide) (by decide) (by decide) (by decide) ?_
            refine e_iconst (c := 0) f_139_72 (by decide) ?_
            refine e_iak (n := 6) (kk := 0) f_139_73 (by decide) (by decide) (by decide) ?_
            refine e_goto f_139_74 ?_
            exact e_ireturn f_139_81 rt_139 rfl hV
        · have hc : ¬ (v3 + v4) ≤ 4 := fun z => hc (decide_eq_true z)
          rw [if_neg hc] at hV
          refine e_iconst (c := (-1000000)) f_139_57 (by decide) ?_
          exact e_ireturn f_139_59 rt_139 rfl hV
    · have hc : v1 = 0 := Decidable.not_not.mp (fun z => hc (decide_eq_true z))
      rw [if_pos hc] at hV
      refine e_iconst (c := (-1000001)) f_139_22 (by decide) ?_
      exact e_ireturn f_139_24 rt_139 rfl hV
  · have hc : (S 57 0) = 0 := Decidable.not_not.mp (fun z => hc (decide_eq_true z))
    rw [if_pos hc] at hV
    refine e_iconst (c := (-1000002)) f_139_9 (by decide) ?_
    exact e_ireturn f_139_11 rt_139 rfl hV
set_option maxRecDepth 20000 in
theorem T_140_0 {xs : List Int32} {d : Nat} {S : x_M} {Q : Option Value → x_M → Prop}   (hV : ∃ P1 : x_M → Prop, x_Cv xs d 141 [.ref 56, .int 0, .int ((x_up (x_up S 70 0 (S 57 30)) 70 1 ((x_up S 70 0 (S 57 30)) 57 31)) 57 25), .int ((x_up (x_up S 70 0 (S 57 30)) 70 1 ((x_up S 70 0 (S 57 30)) 57 31)) 57 27)] (x_up (x_up S 70 0 (S 57 30)) 70 1 ((x_up S 70 0 (S 57 30)) 57 31)) P1 ∧ ∀ (S1 : x_M), P1 S1 → (x_E xs (d + 1) 140 53 [.ref 56, .int 0, .null, .null] [] (x_up S1 56 25 (-1000000)) Q)) : x_E xs (d + 1) 140 0 [.ref 56, .null, .null, .null] [] S Q := by
  refine e_aload f_140_0 rfl (by decide) ?_
  refine e_gr (c := 6) (j := 21) (r := 70) f_140_1 (by decide) (by decide) (by decide) (by decide) ?_
  refine e_iconst (c := 0) f_140_4 (by decide) ?_
  refine e_aload f_140_5 rfl (by decide) ?_
  refine e_gr (c := 6) (j := 0) (r := 57) f_140_6 (by decide) (by decide) (by decide) (by decide) ?_
  refine e_iconst (c := 30) f_140_9 (by decide) ?_
  refine e_iak (n := 99) (kk := 30) f_140_11 (by decide) (by decide) (by decide) ?_
  refine e_isk (n := 12) (kk := 0) f_140_12 (by decide) (by decide) (by decide) ?_
  refine e_aload f_140_13 rfl (by decide) ?_
  refine e_gr (c := 6) (j := 21) (r := 70) f_140_14 (by decide) (by decide) (by decide) (by decide) ?_
  refine e_iconst (c := 1) f_140_17 (by decide) ?_
  refine e_aload f_140_18 rfl (by decide) ?_
  refine e_gr (c := 6) (j := 0) (r := 57) f_140_19 (by decide) (by decide) (by decide) (by decide) ?_
  refine e_iconst (c := 31) f_140_22 (by decide) ?_
  refine e_iak (n := 99) (kk := 31) f_140_24 (by decide) (by decide) (by decide) ?_
  refine e_isk (n := 12) (kk := 1) f_140_25 (by decide) (by decide) (by decide) ?_
  refine e_aload f_140_26 rfl (by decide) ?_
  refine e_iconst (c := 0) f_140_27 (by decide) ?_
  refine e_aload f_140_28 rfl (by decide) ?_
  refine e_gr (c := 6) (j := 0) (r := 57) f_140_29 (by decide) (by decide) (by decide) (by decide) ?_
  refine e_iconst (c := 25) f_140_32 (by decide) ?_
  refine e_iak (n := 99) (kk := 25) f_140_34 (by decide) (by decide) (by decide) ?_
  refine e_aload f_140_35 rfl (by decide) ?_
  refine e_gr (c := 6) (j := 0) (r := 57) f_140_36 (by decide) (by decide) (by decide) (by decide) ?_
  refine e_iconst (c := 27) f_140_39 (by decide) ?_
  refine e_iak (n := 99) (kk := 27) f_140_41 (by decide) (by decide) (by decide) ?_
  obtain ⟨P1, hP1, hV⟩ := hV
  refine e_vv (n := 4) (A := [.ref 56, .int 0, .int ((x_up (x_up S 70 0 (S 57 30)) 70 1 ((x_up S 70 0 (S 57 30)) 57 31)) 57 25), .int ((x_up (x_up S 70 0 (S 57 30)) 70 1 ((x_up S 70 0 (S 57 30)) 57 31)) 57 27)]) (R := []) f_140_42 na_141 rfl rfl (Nat.le_of_ble_eq_true rfl) (Nat.le_of_ble_eq_true rfl) (by rw [ml_141]; exact Nat.le_of_ble_eq_true rfl) rfl (by rw [cy_141]; decide) (by rw [cy_141]; exact (by decide : x_tg 56 = 6)) hP1 (fun S1 hp1 => ?_)
  have hV := hV S1 hp1
  refine e_aload f_140_45 rfl (by decide) ?_
  refine e_iconst (c := (-1000000)) f_140_46 (by decide) ?_
  refine e_pf (c := 6) (j := 25) f_140_48 (by decide) (by decide) (by decide) (x_fit_i rfl) ?_
  refine e_iconst (c := 0) f_140_51 (by decide) ?_
  refine e_istore (L' := [.ref 56, .int 0, .null, .null]) f_140_52 (Nat.le_of_ble_eq_true rfl) rfl ?_
  exact hV
set_option maxRecDepth 20000 in
theorem T_140_53 {xs : List Int32} {d : Nat} {S : x_M} {Q : Option Value → x_M → Prop} {a1 : Int32} {a2 : Value} {a3 : Value}  (hV : if a1 < 0 then (Q none S) else ((x_ib (2 * a1) 12) ∧ (if (S 70 (Int32.toNatClampNeg (2 * a1))) = 0 then ((x_ib ((2 * a1) + 1) 12) ∧ (if (S 70 (Int32.toNatClampNeg ((2 * a1) + 1))) = 0 then (x_E xs (d + 1) 140 123 [.ref 56, .int a1, .int 1, a3] [] S Q) else (x_E xs (d + 1) 140 81 [.ref 56, .int a1, a2, a3] [] S Q))) else (x_E xs (d + 1) 140 81 [.ref 56, .int a1, a2, a3] [] S Q)))) : x_E xs (d + 1) 140 53 [.ref 56, .int a1, a2, a3] [] S Q := by
  refine e_iload f_140_53 rfl ?_
  refine e_if f_140_54 (fun hc => ?_) (fun hc => ?_)
  · have hc : a1 < 0 := of_decide_eq_true hc
    rw [if_pos hc] at hV
    exact e_return f_140_262 rt_140 hV
  · have hc : ¬ a1 < 0 := fun z => hc (decide_eq_true z)
    rw [if_neg hc] at hV
    refine e_aload f_140_57 rfl (by decide) ?_
    refine e_gr (c := 6) (j := 21) (r := 70) f_140_58 (by decide) (by decide) (by decide) (by decide) ?_
    refine e_iconst (c := 2) f_140_61 (by decide) ?_
    refine e_iload f_140_62 rfl ?_
    refine e_imul f_140_63 ?_
    obtain ⟨hg, hV⟩ := hV
    refine e_ia (n := 12) f_140_64 (by decide) (by decide) hg ?_
    refine e_if f_140_65 (fun hc => ?_) (fun hc => ?_)
    · have hc : ¬ (S 70 (Int32.toNatClampNeg (2 * a1))) = 0 := of_decide_eq_true hc
      rw [if_neg hc] at hV
      exact hV
    · have hc : (S 70 (Int32.toNatClampNeg (2 * a1))) = 0 := Decidable.not_not.mp (fun z => hc (decide_eq_true z))
      rw [if_pos hc] at hV
      refine e_aload f_140_68 rfl (by decide) ?_
      refine e_gr (c := 6) (j := 21) (r := 70) f_140_69 (by decide) (by decide) (by decide) (by decide) ?_
      refine e_iconst (c := 2) f_140_72 (by decide) ?_
      refine e_iload f_140_73 rfl ?_
      refine e_imul f_140_74 ?_
      refine e_iconst (c := 1) f_140_75 (by decide) ?_
      refine e_iadd f_140_76 ?_
      obtain ⟨hg, hV⟩ := hV
      refine e_ia (n := 12) f_140_77 (by decide) (by decide) hg ?_
      refine e_if f_140_78 (fun hc => ?_) (fun hc => ?_)
      · have hc : (S 70 (Int32.toNatClampNeg ((2 * a1) + 1))) = 0 := of_decide_eq_true hc
        rw [if_pos hc] at hV
        refine e_iconst (c := 1) f_140_99 (by decide) ?_
        refine e_goto f_140_100 ?_
        refine e_istore (L' := [.ref 56, .int a1, .int 1, a3]) f_140_104 (Nat.le_of_ble_eq_true rfl) rfl ?_
        refine e_iload f_140_105 rfl ?_
        refine e_if f_140_106 (fun hc => ?_) (fun hc => absurd (by decide) hc)
        exact hV
      · have hc : ¬ (S 70 (Int32.toNatClampNeg ((2 * a1) + 1))) = 0 := fun z => hc (decide_eq_true z)
        rw [if_neg hc] at hV
        exact hV
set_option maxRecDepth 20000 in
theorem T_140_81 {xs : List Int32} {d : Nat} {S : x_M} {Q : Option Value → x_M → Prop} {a1 : Int32} {a2 : Value} {a3 : Value}  (hV : (x_ib a1 6) ∧ (if (S 71 (Int32.toNatClampNeg a1)) = (8 * (S 57 1)) then (x_E xs (d + 1) 140 123 [.ref 56, .int a1, .int 1, a3] [] S Q) else (∃ P1 : Int32 → x_M → Prop, x_Ci xs d 142 [.ref 56, .int a1] S P1 ∧ ∀ (v1 : Int32) (S1 : x_M), P1 v1 S1 → (if v1 = 0 then (x_E xs (d + 1) 140 123 [.ref 56, .int a1, .int 0, a3] [] S1 Q) else (x_E xs (d + 1) 140 53 [.ref 56, .int (a1 + 1), .int 0, a3] [] S1 Q))))) : x_E xs (d + 1) 140 81 [.ref 56, .int a1, a2, a3] [] S Q := by
  refine e_aload f_140_81 rfl (by decide) ?_
  refine e_gr (c := 6) (j := 22) (r := 71) f_140_82 (by decide) (by decide) (by decide) (by decide) ?_
  refine e_iload f_140_85 rfl ?_
  obtain ⟨hg, hV⟩ := hV
  refine e_ia (n := 6) f_140_86 (by decide) (by decide) hg ?_
  refine e_iconst (c := 8) f_140_87 (by decide) ?_
  refine e_aload f_140_89 rfl (by decide) ?_
  refine e_gr (c := 6) (j := 0) (r := 57) f_140_90 (by decide) (by decide) (by decide) (by decide) ?_
  refine e_iconst (c := 1) f_140_93 (by decide) ?_
  refine e_iak (n := 99) (kk := 1) f_140_94 (by decide) (by decide) (by decide) ?_
  refine e_imul f_140_95 ?_
  refine e_icmp f_140_96 (fun hc => ?_) (fun hc => ?_)
  · have hc : ¬ (S 71 (Int32.toNatClampNeg a1)) = (8 * (S 57 1)) := of_decide_eq_true hc
    rw [if_neg hc] at hV
    refine e_iconst (c := 0) f_140_103 (by decide) ?_
    refine e_istore (L' := [.ref 56, .int a1, .int 0, a3]) f_140_104 (Nat.le_of_ble_eq_true rfl) rfl ?_
    refine e_iload f_140_105 rfl ?_
    refine e_if f_140_106 (fun hc => absurd hc (by decide)) (fun hc => ?_)
    refine e_aload f_140_109 rfl (by decide) ?_
    refine e_iload f_140_110 rfl ?_
    obtain ⟨P1, hP1, hV⟩ := hV
    refine e_vi (n := 2) (A := [.ref 56, .int a1]) (R := []) f_140_111 na_142 rfl rfl (Nat.le_of_ble_eq_true rfl) (Nat.le_of_ble_eq_true rfl) (by rw [ml_142]; exact Nat.le_of_ble_eq_true rfl) rfl (by rw [cy_142]; decide) (by rw [cy_142]; exact (by decide : x_tg 56 = 6)) hP1 (fun v1 S1 hp1 => ?_)
    have hV := hV v1 S1 hp1
    refine e_if f_140_114 (fun hc => ?_) (fun hc => ?_)
    · have hc : v1 = 0 := of_decide_eq_true hc
      rw [if_pos hc] at hV
      exact hV
    · have hc : ¬ v1 = 0 := fun z => hc (decide_eq_true z)
      rw [if_neg hc] at hV
      refine e_inc (c := 1) (L' := [.ref 56, .int (a1 + 1), .int 0, a3]) f_140_117 rfl (by decide) rfl ?_
      refine e_goto f_140_120 ?_
      refine e_goto f_140_259 ?_
      exact hV
  · have hc : (S 71 (Int32.toNatClampNeg a1)) = (8 * (S 57 1)) := Decidable.not_not.mp (fun z => hc (decide_eq_true z))
    rw [if_pos hc] at hV
    refine e_iconst (c := 1) f_140_99 (by decide) ?_
    refine e_goto f_140_100 ?_
    refine e_istore (L' := [.ref 56, .int a1, .int 1, a3]) f_140_104 (Nat.le_of_ble_eq_true rfl) rfl ?_
    refine e_iload f_140_105 rfl ?_
    refine e_if f_140_106 (fun hc => ?_) (fun hc => absurd (by decide) hc)
    exact hV
set_option maxRecDepth 20000 in
theorem T_140_123 {xs : List Int32} {d : Nat} {S : x_M} {Q : Option Value → x_M → Prop} {a1 : Int32} {a2 : Int32} {a3 : Value}  (hV : if a2 = 0 then ((x_ib a1 6) ∧ ((x_ib a1 6) ∧ (x_E xs (d + 1) 140 53 [.ref 56, .int a1, .int a2, a3] [] (x_up S 71 (Int32.toNatClampNeg a1) ((S 71 (Int32.toNatClampNeg a1)) + 1)) Q))) else (if (a1 + (-1)) < 0 then (x_E xs (d + 1) 140 53 [.ref 56, .int (a1 + (-1)), .int a2, a3] [] S Q) else ((x_ib (a1 + (-1)) 6) ∧ ((x_ib ((a1 + (-1)) + 1) 6) ∧ ((x_ib (a1 + (-1)) 6) ∧ (if (S 69 (Int32.toNatClampNeg ((a1 + (-1)) + 1))) = (S 69 (Int32.toNatClampNeg (a1 + (-1)))) then ((x_ib ((a1 + (-1)) + 1) 6) ∧ (x_E xs (d + 1) 140 190 [.ref 56, .int (a1 + (-1)), .int a2, a3] [.int (S 73 (Int32.toNatClampNeg ((a1 + (-1)) + 1))), .int (S 72 (Int32.toNatClampNeg (a1 + (-1))))] S Q)) else ((x_ib ((a1 + (-1)) + 1) 6) ∧ (x_E xs (d + 1) 140 190 [.ref 56, .int (a1 + (-1)), .int a2, a3] [.int (-(S 73 (Int32.toNatClampNeg ((a1 + (-1)) + 1)))), .int (S 72 (Int32.toNatClampNeg (a1 + (-1))))] S Q)))))))) : x_E xs (d + 1) 140 123 [.ref 56, .int a1, .int a2, a3] [] S Q := by
  refine e_iload f_140_123 rfl ?_
  refine e_if f_140_124 (fun hc => ?_) (fun hc => ?_)
  · have hc : ¬ a2 = 0 := of_decide_eq_true hc
    rw [if_neg hc] at hV
    refine e_inc (c := (-1)) (L' := [.ref 56, .int (a1 + (-1)), .int a2, a3]) f_140_140 rfl (by decide) rfl ?_
    refine e_iload f_140_143 rfl ?_
    refine e_if f_140_144 (fun hc => ?_) (fun hc => ?_)
    · have hc : (a1 + (-1)) < 0 := of_decide_eq_true hc
      rw [if_pos hc] at hV
      refine e_goto f_140_259 ?_
      exact hV
    · have hc : ¬ (a1 + (-1)) < 0 := fun z => hc (decide_eq_true z)
      rw [if_neg hc] at hV
      refine e_aload f_140_147 rfl (by decide) ?_
      refine e_gr (c := 6) (j := 23) (r := 72) f_140_148 (by decide) (by decide) (by decide) (by decide) ?_
      refine e_iload f_140_151 rfl ?_
      obtain ⟨hg, hV⟩ := hV
      refine e_ia (n := 6) f_140_152 (by decide) (by decide) hg ?_
      refine e_aload f_140_153 rfl (by decide) ?_
      refine e_gr (c := 6) (j := 20) (r := 69) f_140_154 (by decide) (by decide) (by decide) (by decide) ?_
      refine e_iload f_140_157 rfl ?_
      refine e_iconst (c := 1) f_140_158 (by decide) ?_
      refine e_iadd f_140_159 ?_
      obtain ⟨hg, hV⟩ := hV
      refine e_ia (n := 6) f_140_160 (by decide) (by decide) hg ?_
      refine e_aload f_140_161 rfl (by decide) ?_
      refine e_gr (c := 6) (j := 20) (r := 69) f_140_162 (by decide) (by decide) (by decide) (by decide) ?_
      refine e_iload f_140_165 rfl ?_
      obtain ⟨hg, hV⟩ := hV
      refine e_ia (n := 6) f_140_166 (by decide) (by decide) hg ?_
      refine e_icmp f_140_167 (fun hc => ?_) (fun hc => ?_)
      · have hc : ¬ (S 69 (Int32.toNatClampNeg ((a1 + (-1)) + 1))) = (S 69 (Int32.toNatClampNeg (a1 + (-1)))) := of_decide_eq_true hc
        rw [if_neg hc] at hV
        refine e_aload f_140_181 rfl (by decide) ?_
        refine e_gr (c := 6) (j := 24) (r := 73) f_140_182 (by decide) (by decide) (by decide) (by decide) ?_
        refine e_iload f_140_185 rfl ?_
        refine e_iconst (c := 1) f_140_186 (by decide) ?_
        refine e_iadd f_140_187 ?_
        obtain ⟨hg, hV⟩ := hV
        refine e_ia (n := 6) f_140_188 (by decide) (by decide) hg ?_
        refine e_ineg f_140_189 ?_
        exact hV
      · have hc : (S 69 (Int32.toNatClampNeg ((a1 + (-1)) + 1))) = (S 69 (Int32.toNatClampNeg (a1 + (-1)))) := Decidable.not_not.mp (fun z => hc (decide_eq_true z))
        rw [if_pos hc] at hV
        refine e_aload f_140_170 rfl (by decide) ?_
        refine e_gr (c := 6) (j := 24) (r := 73) f_140_171 (by decide) (by decide) (by decide) (by decide) ?_
        refine e_iload f_140_174 rfl ?_
        refine e_iconst (c := 1) f_140_175 (by decide) ?_
        refine e_iadd f_140_176 ?_
        obtain ⟨hg, hV⟩ := hV
        refine e_ia (n := 6) f_140_177 (by decide) (by decide) hg ?_
        refine e_goto f_140_178 ?_
        exact hV
  · have hc : a2 = 0 := Decidable.not_not.mp (fun z => hc (decide_eq_true z))
    rw [if_pos hc] at hV
    refine e_aload f_140_127 rfl (by decide) ?_
    refine e_gr (c := 6) (j := 22) (r := 71) f_140_128 (by decide) (by decide) (by decide) (by decide) ?_
    refine e_iload f_140_131 rfl ?_
    refine e_dup2 f_140_132 ⟨rfl, rfl⟩ ?_
    obtain ⟨hg, hV⟩ := hV
    refine e_ia (n := 6) f_140_133 (by decide) (by decide) hg ?_
    refine e_iconst (c := 1) f_140_134 (by decide) ?_
    refine e_iadd f_140_135 ?_
    obtain ⟨hg, hV⟩ := hV
    refine e_is (n := 6) f_140_136 (by decide) (by decide) hg ?_
    refine e_goto f_140_137 ?_
    refine e_goto f_140_259 ?_
    exact hV
set_option maxRecDepth 20000 in
theorem T_140_190 {xs : List Int32} {d : Nat} {S : x_M} {Q : Option Value → x_M → Prop} {a1 : Int32} {a2 : Int32} {a3 : Value} {s0 : Int32} {s1 : Int32}  (hV : if a1 = 0 then (if (s0 + s1) ≤ (S 73 0) then (x_E xs (d + 1) 140 220 [.ref 56, .int a1, .int a2, .int (s0 + s1)] [.int (S 56 25), .ref 56] S Q) else (x_E xs (d + 1) 140 220 [.ref 56, .int a1, .int a2, .int (s0 + s1)] [.int (S 71 0), .ref 56] S Q)) else (x_E xs (d + 1) 140 220 [.ref 56, .int a1, .int a2, .int (s0 + s1)] [.int (S 56 25), .ref 56] S Q)) : x_E xs (d + 1) 140 190 [.ref 56, .int a1, .int a2, a3] [.int s1, .int s0] S Q := by
  refine e_iadd f_140_190 ?_
  refine e_istore (L' := [.ref 56, .int a1, .int a2, .int (s0 + s1)]) f_140_191 (Nat.le_of_ble_eq_true rfl) rfl ?_
  refine e_aload f_140_192 rfl (by decide) ?_
  refine e_iload f_140_193 rfl ?_
  refine e_if f_140_194 (fun hc => ?_) (fun hc => ?_)
  · have hc : ¬ a1 = 0 := of_decide_eq_true hc
    rw [if_neg hc] at hV
    refine e_aload f_140_216 rfl (by decide) ?_
    refine e_gf (c := 6) (j := 25) f_140_217 (by decide) (by decide) (by decide) ?_
    exact hV
  · have hc : a1 = 0 := Decidable.not_not.mp (fun z => hc (decide_eq_true z))
    rw [if_pos hc] at hV
    refine e_iload f_140_197 rfl ?_
    refine e_aload f_140_198 rfl (by decide) ?_
    refine e_gr (c := 6) (j := 24) (r := 73) f_140_199 (by decide) (by decide) (by decide) (by decide) ?_
    refine e_iconst (c := 0) f_140_202 (by decide) ?_
    refine e_iak (n := 6) (kk := 0) f_140_203 (by decide) (by decide) (by decide) ?_
    refine e_icmp f_140_204 (fun hc => ?_) (fun hc => ?_)
    · have hc : (s0 + s1) ≤ (S 73 0) := of_decide_eq_true hc
      rw [if_pos hc] at hV
      refine e_aload f_140_216 rfl (by decide) ?_
      refine e_gf (c := 6) (j := 25) f_140_217 (by decide) (by decide) (by decide) ?_
      exact hV
    · have hc : ¬ (s0 + s1) ≤ (S 73 0) := fun z => hc (decide_eq_true z)
      rw [if_neg hc] at hV
      refine e_aload f_140_207 rfl (by decide) ?_
      refine e_gr (c := 6) (j := 22) (r := 71) f_140_208 (by decide) (by decide) (by decide) (by decide) ?_
      refine e_iconst (c := 0) f_140_211 (by decide) ?_
      refine e_iak (n := 6) (kk := 0) f_140_212 (by decide) (by decide) (by decide) ?_
      refine e_goto f_140_213 ?_
      exact hV
set_option maxRecDepth 20000 in
theorem T_140_220 {xs : List Int32} {d : Nat} {S : x_M} {Q : Option Value → x_M → Prop} {a1 : Int32} {a2 : Int32} {a3 : Int32} {s1 : Int32}  (hV : (x_ib a1 6) ∧ (if a3 ≤ ((x_up S 56 25 s1) 73 (Int32.toNatClampNeg a1)) then ((x_ib a1 6) ∧ ((x_ib a1 6) ∧ ((x_ib a1 6) ∧ ((x_ib a1 6) ∧ (x_E xs (d + 1) 140 53 [.ref 56, .int a1, .int a2, .int a3] [] (x_up (x_up (x_up S 56 25 s1) 73 (Int32.toNatClampNeg a1) ((x_up S 56 25 s1) 73 (Int32.toNatClampNeg a1))) 71 (Int32.toNatClampNeg a1) (((x_up (x_up S 56 25 s1) 73 (Int32.toNatClampNeg a1) ((x_up S 56 25 s1) 73 (Int32.toNatClampNeg a1))) 71 (Int32.toNatClampNeg a1)) + 1)) Q))))) else ((x_ib a1 6) ∧ ((x_ib a1 6) ∧ ((x_ib a1 6) ∧ (x_E xs (d + 1) 140 53 [.ref 56, .int a1, .int a2, .int a3] [] (x_up (x_up (x_up S 56 25 s1) 73 (Int32.toNatClampNeg a1) a3) 71 (Int32.toNatClampNeg a1) (((x_up (x_up S 56 25 s1) 73 (Int32.toNatClampNeg a1) a3) 71 (Int32.toNatClampNeg a1)) + 1)) Q)))))) : x_E xs (d + 1) 140 220 [.ref 56, .int a1, .int a2, .int a3] [.int s1, .ref 56] S Q := by
  refine e_pf (c := 6) (j := 25) f_140_220 (by decide) (by decide) (by decide) (x_fit_i rfl) ?_
  refine e_aload f_140_223 rfl (by decide) ?_
  refine e_gr (c := 6) (j := 24) (r := 73) f_140_224 (by decide) (by decide) (by decide) (by decide) ?_
  refine e_iload f_140_227 rfl ?_
  refine e_iload f_140_228 rfl ?_
  refine e_aload f_140_229 rfl (by decide) ?_
  refine e_gr (c := 6) (j := 24) (r := 73) f_140_230 (by decide) (by decide) (by decide) (by decide) ?_
  refine e_iload f_140_233 rfl ?_
  obtain ⟨hg, hV⟩ := hV
  refine e_ia (n := 6) f_140_234 (by decide) (by decide) hg ?_
  refine e_icmp f_140_235 (fun hc => ?_) (fun hc => ?_)
  · have hc : a3 ≤ ((x_up S 56 25 s1) 73 (Int32.toNatClampNeg a1)) := of_decide_eq_true hc
    rw [if_pos hc] at hV
    refine e_aload f_140_242 rfl (by decide) ?_
    refine e_gr (c := 6) (j := 24) (r := 73) f_140_243 (by decide) (by decide) (by decide) (by decide) ?_
    refine e_iload f_140_246 rfl ?_
    obtain ⟨hg, hV⟩ := hV
    refine e_ia (n := 6) f_140_247 (by decide) (by decide) hg ?_
    obtain ⟨hg, hV⟩ := hV
    refine e_is (n := 6) f_140_248 (by decide) (by decide) hg ?_
    refine e_aload f_140_249 rfl (by decide) ?_
    refine e_gr (c := 6) (j := 22) (r := 71) f_140_250 (by decide) (by decide) (by decide) (by decide) ?_
    refine e_iload f_140_253 rfl ?_
    refine e_dup2 f_140_254 ⟨rfl, rfl⟩ ?_
    obtain ⟨hg, hV⟩ := hV
    refine e_ia (n := 6) f_140_255 (by decide) (by decide) hg ?_
    refine e_iconst (c := 1) f_140_256 (by decide) ?_
    refine e_iadd f_140_257 ?_
    obtain ⟨hg, hV⟩ := hV
    refine e_is (n := 6) f_140_258 (by decide) (by decide) hg ?_
    refine e_goto f_140_259 ?_
    exact hV
  · have hc : ¬ a3 ≤ ((x_up S 56 25 s1) 73 (Int32.toNatClampNeg a1)) := fun z => hc (decide_eq_true z)
    rw [if_neg hc] at hV
    refine e_iload f_140_238 rfl ?_
    refine e_goto f_140_239 ?_
    obtain ⟨hg, hV⟩ := hV
    refine e_is (n := 6) f_140_248 (by decide) (by decide) hg ?_
    refine e_aload f_140_249 rfl (by decide) ?_
    refine e_gr (c := 6) (j := 22) (r := 71) f_140_250 (by decide) (by decide) (by decide) (by decide) ?_
    refine e_iload f_140_253 rfl ?_
    refine e_dup2 f_140_254 ⟨rfl, rfl⟩ ?_
    obtain ⟨hg, hV⟩ := hV
    refine e_ia (n := 6) f_140_255 (by decide) (by decide) hg ?_
    refine e_iconst (c := 1) f_140_256 (by decide) ?_
    refine e_iadd f_140_257 ?_
    obtain ⟨hg, hV⟩ := hV
    refine e_is (n := 6) f_140_258 (by decide) (by decide) hg ?_
    refine e_goto f_140_259 ?_
    exact hV
set_option maxRecDepth 20000 in
theorem T_141_0 {xs : List Int32} {d : Nat} {S : x_M} {Q : Option Value → x_M → Prop} {a1 : Int32} {a2 : Int32} {a3 : Int32}  (hV : (x_ib a1 6) ∧ ((x_ib a1 6) ∧ ((x_ib a1 6) ∧ ((x_ib (2 * a1) 12) ∧ (if ((x_up (x_up (x_up S 68 (Int32.toNatClampNeg a1) a2) 69 (Int32.toNatClampNeg a1) a3) 71 (Int32.toNatClampNeg a1) 0) 70 (Int32.toNatClampNeg (2 * a1))) = 0 then ((x_ib ((2 * a1) + 1) 12) ∧ (if ((x_up (x_up (x_up S 68 (Int32.toNatClampNeg a1) a2) 69 (Int32.toNatClampNeg a1) a3) 71 (Int32.toNatClampNeg a1) 0) 70 (Int32.toNatClampNeg ((2 * a1) + 1))) = 0 then ((x_ib a1 6) ∧ (Q none (x_up (x_up (x_up (x_up S 68 (Int32.toNatClampNeg a1) a2) 69 (Int32.toNatClampNeg a1) a3) 71 (Int32.toNatClampNeg a1) 0) 73 (Int32.toNatClampNeg a1) 0))) else ((x_ib a1 6) ∧ (Q none (x_up (x_up (x_up (x_up S 68 (Int32.toNatClampNeg a1) a2) 69 (Int32.toNatClampNeg a1) a3) 71 (Int32.toNatClampNeg a1) 0) 73 (Int32.toNatClampNeg a1) (-268435456)))))) else ((x_ib a1 6) ∧ (Q none (x_up (x_up (x_up (x_up S 68 (Int32.toNatClampNeg a1) a2) 69 (Int32.toNatClampNeg a1) a3) 71 (Int32.toNatClampNeg a1) 0) 73 (Int32.toNatClampNeg a1) (-268435456))))))))) : x_E xs (d + 1) 141 0 [.ref 56, .int a1, .int a2, .int a3] [] S Q := by
  refine e_aload f_141_0 rfl (by decide) ?_
  refine e_gr (c := 6) (j := 19) (r := 68) f_141_1 (by decide) (by decide) (by decide) (by decide) ?_
  refine e_iload f_141_4 rfl ?_
  refine e_iload f_141_5 rfl ?_
  obtain ⟨hg, hV⟩ := hV
  refine e_is (n := 6) f_141_6 (by decide) (by decide) hg ?_
  refine e_aload f_141_7 rfl (by decide) ?_
  refine e_gr (c := 6) (j := 20) (r := 69) f_141_8 (by decide) (by decide) (by decide) (by decide) ?_
  refine e_iload f_141_11 rfl ?_
  refine e_iload f_141_12 rfl ?_
  obtain ⟨hg, hV⟩ := hV
  refine e_is (n := 6) f_141_13 (by decide) (by decide) hg ?_
  refine e_aload f_141_14 rfl (by decide) ?_
  refine e_gr (c := 6) (j := 22) (r := 71) f_141_15 (by decide) (by decide) (by decide) (by decide) ?_
  refine e_iload f_141_18 rfl ?_
  refine e_iconst (c := 0) f_141_19 (by decide) ?_
  obtain ⟨hg, hV⟩ := hV
  refine e_is (n := 6) f_141_20 (by decide) (by decide) hg ?_
  refine e_aload f_141_21 rfl (by decide) ?_
  refine e_gr (c := 6) (j := 24) (r := 73) f_141_22 (by decide) (by decide) (by decide) (by decide) ?_
  refine e_iload f_141_25 rfl ?_
  refine e_aload f_141_26 rfl (by decide) ?_
  refine e_gr (c := 6) (j := 21) (r := 70) f_141_27 (by decide) (by decide) (by decide) (by decide) ?_
  refine e_iconst (c := 2) f_141_30 (by decide) ?_
  refine e_iload f_141_31 rfl ?_
  refine e_imul f_141_32 ?_
  obtain ⟨hg, hV⟩ := hV
  refine e_ia (n := 12) f_141_33 (by decide) (by decide) hg ?_
  refine e_if f_141_34 (fun hc => ?_) (fun hc => ?_)
  · have hc : ¬ ((x_up (x_up (x_up S 68 (Int32.toNatClampNeg a1) a2) 69 (Int32.toNatClampNeg a1) a3) 71 (Int32.toNatClampNeg a1) 0) 70 (Int32.toNatClampNeg (2 * a1))) = 0 := of_decide_eq_true hc
    rw [if_neg hc] at hV
    refine e_iconst (c := (-268435456)) f_141_54 (by decide) ?_
    obtain ⟨hg, hV⟩ := hV
    refine e_is (n := 6) f_141_56 (by decide) (by decide) hg ?_
    exact e_return f_141_57 rt_141 hV
  · have hc : ((x_up (x_up (x_up S 68 (Int32.toNatClampNeg a1) a2) 69 (Int32.toNatClampNeg a1) a3) 71 (Int32.toNatClampNeg a1) 0) 70 (Int32.toNatClampNeg (2 * a1))) = 0 := Decidable.not_not.mp (fun z => hc (decide_eq_true z))
    rw [if_pos hc] at hV
    refine e_aload f_141_37 rfl (by decide) ?_
    refine e_gr (c := 6) (j := 21) (r := 70) f_141_38 (by decide) (by decide) (by decide) (by decide) ?_
    refine e_iconst (c := 2) f_141_41 (by decide) ?_
    refine e_iload f_141_42 rfl ?_
    refine e_imul f_141_43 ?_
    refine e_iconst (c := 1) f_141_44 (by decide) ?_
    refine e_iadd f_141_45 ?_
    obtain ⟨hg, hV⟩ := hV
    refine e_ia (n := 12) f_141_46 (by decide) (by decide) hg ?_
    refine e_if f_141_47 (fun hc => ?_) (fun hc => ?_)
    · have hc : ¬ ((x_up (x_up (x_up S 68 (Int32.toNatClampNeg a1) a2) 69 (Int32.toNatClampNeg a1) a3) 71 (Int32.toNatClampNeg a1) 0) 70 (Int32.toNatClampNeg ((2 * a1) + 1))) = 0 := of_decide_eq_true hc
      rw [if_neg hc] at hV
      refine e_iconst (c := (-268435456)) f_141_54 (by decide) ?_
      obtain ⟨hg, hV⟩ := hV
      refine e_is (n := 6) f_141_56 (by decide) (by decide) hg ?_
      exact e_return f_141_57 rt_141 hV
    · have hc : ((x_up (x_up (x_up S 68 (Int32.toNatClampNeg a1) a2) 69 (Int32.toNatClampNeg a1) a3) 71 (Int32.toNatClampNeg a1) 0) 70 (Int32.toNatClampNeg ((2 * a1) + 1))) = 0 := Decidable.not_not.mp (fun z => hc (decide_eq_true z))
      rw [if_pos hc] at hV
      refine e_iconst (c := 0) f_141_50 (by decide) ?_
      refine e_goto f_141_51 ?_
      obtain ⟨hg, hV⟩ := hV
      refine e_is (n := 6) f_141_56 (by decide) (by decide) hg ?_
      exact e_return f_141_57 rt_141 hV
set_option maxRecDepth 20000 in
theorem T_142_0 {xs : List Int32} {d : Nat} {S : x_M} {Q : Option Value → x_M → Prop} {a1 : Int32}  (hV : (x_ib a1 6) ∧ ((x_ib a1 6) ∧ ((x_ib ((2 * a1) + (S 69 (Int32.toNatClampNeg a1))) 12) ∧ (∃ P1 : Int32 → x_M → Prop, x_Ci xs d 122 [.int (S 70 (Int32.toNatClampNeg ((2 * a1) + (S 69 (Int32.toNatClampNeg a1))))), .int ((S 71 (Int32.toNatClampNeg a1)) / 8)] S P1 ∧ ∀ (v1 : Int32) (S1 : x_M), P1 v1 S1 → (if v1 = 0 then (Q (some (.int 0)) S1) else ((x_ib a1 6) ∧ ((x_ib (S 71 (Int32.toNatClampNeg a1)) 112) ∧ (∃ P2 : Int32 → x_M → Prop, x_Ci xs d 129 [.ref 56, .int ((S1 68 (Int32.toNatClampNeg a1)) &&& (S1 66 (Int32.toNatClampNeg (S 71 (Int32.toNatClampNeg a1)))))] S1 P2 ∧ ∀ (v2 : Int32) (S2 : x_M), P2 v2 S2 → ((x_ib a1 6) ∧ ((x_ib (2 * a1) 12) ∧ ((x_ib ((2 * a1) + 2) 12) ∧ ((x_ib ((2 * a1) + 1) 12) ∧ ((x_ib ((2 * a1) + 3) 12) ∧ ((x_ib (((2 * a1) + 2) + (S 69 (Int32.toNatClampNeg a1))) 12) ∧ ((x_ib (((2 * a1) + 2) + (S 69 (Int32.toNatClampNeg a1))) 12) ∧ (if ((S1 68 (Int32.toNatClampNeg a1)) &&& (S1 66 (Int32.toNatClampNeg (S 71 (Int32.toNatClampNeg a1))))) = 0 then (x_E xs (d + 1) 142 141 [.ref 56, .int a1, .int (S 71 (Int32.toNatClampNeg a1)), .int (S 69 (Int32.toNatClampNeg a1)), .int ((S1 68 (Int32.toNatClampNeg a1)) &&& (S1 66 (Int32.toNatClampNeg (S 71 (Int32.toNatClampNeg a1)))))] [.int 511, .int (a1 + 1), .ref 56] (x_up (x_up (x_up (x_up S2 72 (Int32.toNatClampNeg a1) v2) 70 (Int32.toNatClampNeg ((2 * a1) + 2)) ((x_up S2 72 (Int32.toNatClampNeg a1) v2) 70 (Int32.toNatClampNeg (2 * a1)))) 70 (Int32.toNatClampNeg ((2 * a1) + 3)) ((x_up (x_up S2 72 (Int32.toNatClampNeg a1) v2) 70 (Int32.toNatClampNeg ((2 * a1) + 2)) ((x_up S2 72 (Int32.toNatClampNeg a1) v2) 70 (Int32.toNatClampNeg (2 * a1)))) 70 (Int32.toNatClampNeg ((2 * a1) + 1)))) 70 (Int32.toNatClampNeg (((2 * a1) + 2) + (S 69 (Int32.toNatClampNeg a1)))) (((x_up (x_up (x_up S2 72 (Int32.toNatClampNeg a1) v2) 70 (Int32.toNatClampNeg ((2 * a1) + 2)) ((x_up S2 72 (Int32.toNatClampNeg a1) v2) 70 (Int32.toNatClampNeg (2 * a1)))) 70 (Int32.toNatClampNeg ((2 * a1) + 3)) ((x_up (x_up S2 72 (Int32.toNatClampNeg a1) v2) 70 (Int32.toNatClampNeg ((2 * a1) + 2)) ((x_up S2 72 (Int32.toNatClampNeg a1) v2) 70 (Int32.toNatClampNeg (2 * a1)))) 70 (Int32.toNatClampNeg ((2 * a1) + 1)))) 70 (Int32.toNatClampNeg (((2 * a1) + 2) + (S 69 (Int32.toNatClampNeg a1))))) &&& ((1 <<< (((S 71 (Int32.toNatClampNeg a1)) / 8) &&& 31)) ^^^ (-1)))) Q) else (x_E xs (d + 1) 142 141 [.ref 56, .int a1, .int (S 71 (Int32.toNatClampNeg a1)), .int (S 69 (Int32.toNatClampNeg a1)), .int ((S1 68 (Int32.toNatClampNeg a1)) &&& (S1 66 (Int32.toNatClampNeg (S 71 (Int32.toNatClampNeg a1)))))] [.int ((S1 68 (Int32.toNatClampNeg a1)) &&& (S1 66 (Int32.toNatClampNeg (S 71 (Int32.toNatClampNeg a1))))), .int (a1 + 1), .ref 56] (x_up (x_up (x_up (x_up S2 72 (Int32.toNatClampNeg a1) v2) 70 (Int32.toNatClampNeg ((2 * a1) + 2)) ((x_up S2 72 (Int32.toNatClampNeg a1) v2) 70 (Int32.toNatClampNeg (2 * a1)))) 70 (Int32.toNatClampNeg ((2 * a1) + 3)) ((x_up (x_up S2 72 (Int32.toNatClampNeg a1) v2) 70 (Int32.toNatClampNeg ((2 * a1) + 2)) ((x_up S2 72 (Int32.toNatClampNeg a1) v2) 70 (Int32.toNatClampNeg (2 * a1)))) 70 (Int32.toNatClampNeg ((2 * a1) + 1)))) 70 (Int32.toNatClampNeg (((2 * a1) + 2) + (S 69 (Int32.toNatClampNeg a1)))) (((x_up (x_up (x_up S2 72 (Int32.toNatClampNeg a1) v2) 70 (Int32.toNatClampNeg ((2 * a1) + 2)) ((x_up S2 72 (Int32.toNatClampNeg a1) v2) 70 (Int32.toNatClampNeg (2 * a1)))) 70 (Int32.toNatClampNeg ((2 * a1) + 3)) ((x_up (x_up S2 72 (Int32.toNatClampNeg a1) v2) 70 (Int32.toNatClampNeg ((2 * a1) + 2)) ((x_up S2 72 (Int32.toNatClampNeg a1) v2) 70 (Int32.toNatClampNeg (2 * a1)))) 70 (Int32.toNatClampNeg ((2 * a1) + 1)))) 70 (Int32.toNatClampNeg (((2 * a1) + 2) + (S 69 (Int32.toNatClampNeg a1))))) &&& ((1 <<< (((S 71 (Int32.toNatClampNeg a1)) / 8) &&& 31)) ^^^ (-1)))) Q))))))))))))))))) : x_E xs (d + 1) 142 0 [.ref 56, .int a1, .null, .null, .null] [] S Q := by
  refine e_aload f_142_0 rfl (by decide) ?_
  refine e_gr (c := 6) (j := 22) (r := 71) f_142_1 (by decide) (by decide) (by decide) (by decide) ?_
  refine e_iload f_142_4 rfl ?_
  obtain ⟨hg, hV⟩ := hV
  refine e_ia (n := 6) f_142_5 (by decide) (by decide) hg ?_
  refine e_istore (L' := [.ref 56, .int a1, .int (S 71 (Int32.toNatClampNeg a1)), .null, .null]) f_142_6 (Nat.le_of_ble_eq_true rfl) rfl ?_
  refine e_aload f_142_7 rfl (by decide) ?_
  refine e_gr (c := 6) (j := 20) (r := 69) f_142_8 (by decide) (by decide) (by decide) (by decide) ?_
  refine e_iload f_142_11 rfl ?_
  obtain ⟨hg, hV⟩ := hV
  refine e_ia (n := 6) f_142_12 (by decide) (by decide) hg ?_
  refine e_istore (L' := [.ref 56, .int a1, .int (S 71 (Int32.toNatClampNeg a1)), .int (S 69 (Int32.toNatClampNeg a1)), .null]) f_142_13 (Nat.le_of_ble_eq_true rfl) rfl ?_
  refine e_aload f_142_14 rfl (by decide) ?_
  refine e_gr (c := 6) (j := 21) (r := 70) f_142_15 (by decide) (by decide) (by decide) (by decide) ?_
  refine e_iconst (c := 2) f_142_18 (by decide) ?_
  refine e_iload f_142_19 rfl ?_
  refine e_imul f_142_20 ?_
  refine e_iload f_142_21 rfl ?_
  refine e_iadd f_142_22 ?_
  obtain ⟨hg, hV⟩ := hV
  refine e_ia (n := 12) f_142_23 (by decide) (by decide) hg ?_
  refine e_iload f_142_24 rfl ?_
  refine e_iconst (c := 8) f_142_25 (by decide) ?_
  refine e_idiv f_142_27 (by decide) ?_
  obtain ⟨P1, hP1, hV⟩ := hV
  refine e_si (n := 2) (A := [.int (S 70 (Int32.toNatClampNeg ((2 * a1) + (S 69 (Int32.toNatClampNeg a1))))), .int ((S 71 (Int32.toNatClampNeg a1)) / 8)]) (R := []) f_142_28 na_122 rfl rfl (Nat.le_of_ble_eq_true rfl) (Nat.le_of_ble_eq_true rfl) (by rw [ml_122]; exact Nat.le_of_ble_eq_true rfl) hP1 (fun v1 S1 hp1 => ?_)
  have hV := hV v1 S1 hp1
  refine e_if f_142_31 (fun hc => ?_) (fun hc => ?_)
  · have hc : ¬ v1 = 0 := of_decide_eq_true hc
    rw [if_neg hc] at hV
    refine e_aload f_142_36 rfl (by decide) ?_
    refine e_gr (c := 6) (j := 19) (r := 68) f_142_37 (by decide) (by decide) (by decide) (by decide) ?_
    refine e_iload f_142_40 rfl ?_
    obtain ⟨hg, hV⟩ := hV
    refine e_ia (n := 6) f_142_41 (by decide) (by decide) hg ?_
    refine e_aload f_142_42 rfl (by decide) ?_
    refine e_gr (c := 6) (j := 17) (r := 66) f_142_43 (by decide) (by decide) (by decide) (by decide) ?_
    refine e_iload f_142_46 rfl ?_
    obtain ⟨hg, hV⟩ := hV
    refine e_ia (n := 112) f_142_47 (by decide) (by decide) hg ?_
    refine e_iand f_142_48 ?_
    refine e_istore (L' := [.ref 56, .int a1, .int (S 71 (Int32.toNatClampNeg a1)), .int (S 69 (Int32.toNatClampNeg a1)), .int ((S1 68 (Int32.toNatClampNeg a1)) &&& (S1 66 (Int32.toNatClampNeg (S 71 (Int32.toNatClampNeg a1)))))]) f_142_49 (Nat.le_of_ble_eq_true rfl) rfl ?_
    refine e_aload f_142_51 rfl (by decide) ?_
    refine e_gr (c := 6) (j := 23) (r := 72) f_142_52 (by decide) (by decide) (by decide) (by decide) ?_
    refine e_iload f_142_55 rfl ?_
    refine e_aload f_142_56 rfl (by decide) ?_
    refine e_iload f_142_57 rfl ?_
    obtain ⟨P2, hP2, hV⟩ := hV
    refine e_vi (n := 2) (A := [.ref 56, .int ((S1 68 (Int32.toNatClampNeg a1)) &&& (S1 66 (Int32.toNatClampNeg (S 71 (Int32.toNatClampNeg a1)))))]) (R := [.int a1, .ref 72]) f_142_59 na_129 rfl rfl (Nat.le_of_ble_eq_true rfl) (Nat.le_of_ble_eq_true rfl) (by rw [ml_129]; exact Nat.le_of_ble_eq_true rfl) rfl (by rw [cy_129]; decide) (by rw [cy_129]; exact (by decide : x_tg 56 = 6)) hP2 (fun v2 S2 hp2 => ?_)
    have hV := hV v2 S2 hp2
    obtain ⟨hg, hV⟩ := hV
    refine e_is (n := 6) f_142_62 (by decide) (by decide) hg ?_
    refine e_aload f_142_63 rfl (by decide) ?_
    refine e_gr (c := 6) (j := 21) (r := 70) f_142_64 (by decide) (by decide) (by decide) (by decide) ?_
    refine e_iconst (c := 2) f_142_67 (by decide) ?_
    refine e_iload f_142_68 rfl ?_
    refine e_imul f_142_69 ?_
    refine e_iconst (c := 2) f_142_70 (by decide) ?_
    refine e_iadd f_142_71 ?_
    refine e_aload f_142_72 rfl (by decide) ?_
    refine e_gr (c := 6) (j := 21) (r := 70) f_142_73 (by decide) (by decide) (by decide) (by decide) ?_
    refine e_iconst (c := 2) f_142_76 (by decide) ?_
    refine e_iload f_142_77 rfl ?_
    refine e_imul f_142_78 ?_
    obtain ⟨hg, hV⟩ := hV
    refine e_ia (n := 12) f_142_79 (by decide) (by decide) hg ?_
    obtain ⟨hg, hV⟩ := hV
    refine e_is (n := 12) f_142_80 (by decide) (by decide) hg ?_
    refine e_aload f_142_81 rfl (by decide) ?_
    refine e_gr (c := 6) (j := 21) (r := 70) f_142_82 (by decide) (by decide) (by decide) (by decide) ?_
    refine e_iconst (c := 2) f_142_85 (by decide) ?_
    refine e_iload f_142_86 rfl ?_
    refine e_imul f_142_87 ?_
    refine e_iconst (c := 3) f_142_88 (by decide) ?_
    refine e_iadd f_142_89 ?_
    refine e_aload f_142_90 rfl (by decide) ?_
    refine e_gr (c := 6) (j := 21) (r := 70) f_142_91 (by decide) (by decide) (by decide) (by decide) ?_
    refine e_iconst (c := 2) f_142_94 (by decide) ?_
    refine e_iload f_142_95 rfl ?_
    refine e_imul f_142_96 ?_
    refine e_iconst (c := 1) f_142_97 (by decide) ?_
    refine e_iadd f_142_98 ?_
    obtain ⟨hg, hV⟩ := hV
    refine e_ia (n := 12) f_142_99 (by decide) (by decide) hg ?_
    obtain ⟨hg, hV⟩ := hV
    refine e_is (n := 12) f_142_100 (by decide) (by decide) hg ?_
    refine e_aload f_142_101 rfl (by decide) ?_
    refine e_gr (c := 6) (j := 21) (r := 70) f_142_102 (by decide) (by decide) (by decide) (by decide) ?_
    refine e_iconst (c := 2) f_142_105 (by decide) ?_
    refine e_iload f_142_106 rfl ?_
    refine e_imul f_142_107 ?_
    refine e_iconst (c := 2) f_142_108 (by decide) ?_
    refine e_iadd f_142_109 ?_
    refine e_iload f_142_110 rfl ?_
    refine e_iadd f_142_111 ?_
    refine e_dup2 f_142_112 ⟨rfl, rfl⟩ ?_
    obtain ⟨hg, hV⟩ := hV
    refine e_ia (n := 12) f_142_113 (by decide) (by decide) hg ?_
    refine e_iconst (c := 1) f_142_114 (by decide) ?_
    refine e_iload f_142_115 rfl ?_
    refine e_iconst (c := 8) f_142_116 (by decide) ?_
    refine e_idiv f_142_118 (by decide) ?_
    refine e_ishl f_142_119 ?_
    refine e_iconst (c := (-1)) f_142_120 (by decide) ?_
    refine e_ixor f_142_121 ?_
    refine e_iand f_142_122 ?_
    obtain ⟨hg, hV⟩ := hV
    refine e_is (n := 12) f_142_123 (by decide) (by decide) hg ?_
    refine e_aload f_142_124 rfl (by decide) ?_
    refine e_iload f_142_125 rfl ?_
    refine e_iconst (c := 1) f_142_126 (by decide) ?_
    refine e_iadd f_142_127 ?_
    refine e_iload f_142_128 rfl ?_
    refine e_if f_142_130 (fun hc => ?_) (fun hc => ?_)
    · have hc : ¬ ((S1 68 (Int32.toNatClampNeg a1)) &&& (S1 66 (Int32.toNatClampNeg (S 71 (Int32.toNatClampNeg a1))))) = 0 := of_decide_eq_true hc
      rw [if_neg hc] at hV
      refine e_iload f_142_139 rfl ?_
      exact hV
    · have hc : ((S1 68 (Int32.toNatClampNeg a1)) &&& (S1 66 (Int32.toNatClampNeg (S 71 (Int32.toNatClampNeg a1))))) = 0 := Decidable.not_not.mp (fun z => hc (decide_eq_true z))
      rw [if_pos hc] at hV
      refine e_iconst (c := 511) f_142_133 (by decide) ?_
      refine e_goto f_142_136 ?_
      exact hV
  · have hc : v1 = 0 := Decidable.not_not.mp (fun z => hc (decide_eq_true z))
    rw [if_pos hc] at hV
    refine e_iconst (c := 0) f_142_34 (by decide) ?_
    exact e_ireturn f_142_35 rt_142 (by decide) hV
set_option maxRecDepth 20000 in
theorem T_142_141 {xs : List Int32} {d : Nat} {S : x_M} {Q : Option Value → x_M → Prop} {a1 : Int32} {a2 : Int32} {a3 : Int32} {a4 : Int32} {s1 : Int32} {s2 : Int32}  (hV : (x_ib (((2 * a1) + 3) - a3) 12) ∧ (if (S 70 (Int32.toNatClampNeg (((2 * a1) + 3) - a3))) = 0 then (∃ P1 : x_M → Prop, x_Cv xs d 141 [.ref 56, .int s1, .int s2, .int a3] S P1 ∧ ∀ (S1 : x_M), P1 S1 → (Q (some (.int 1)) S1)) else (∃ P2 : x_M → Prop, x_Cv xs d 141 [.ref 56, .int s1, .int s2, .int (1 - a3)] S P2 ∧ ∀ (S2 : x_M), P2 S2 → (Q (some (.int 1)) S2)))) : x_E xs (d + 1) 142 141 [.ref 56, .int a1, .int a2, .int a3, .int a4] [.int s2, .int s1, .ref 56] S Q := by
  refine e_aload f_142_141 rfl (by decide) ?_
  refine e_gr (c := 6) (j := 21) (r := 70) f_142_142 (by decide) (by decide) (by decide) (by decide) ?_
  refine e_iconst (c := 2) f_142_145 (by decide) ?_
  refine e_iload f_142_146 rfl ?_
  refine e_imul f_142_147 ?_
  refine e_iconst (c := 3) f_142_148 (by decide) ?_
  refine e_iadd f_142_149 ?_
  refine e_iload f_142_150 rfl ?_
  refine e_isub f_142_151 ?_
  obtain ⟨hg, hV⟩ := hV
  refine e_ia (n := 12) f_142_152 (by decide) (by decide) hg ?_
  refine e_if f_142_153 (fun hc => ?_) (fun hc => ?_)
  · have hc : (S 70 (Int32.toNatClampNeg (((2 * a1) + 3) - a3))) = 0 := of_decide_eq_true hc
    rw [if_pos hc] at hV
    refine e_iload f_142_162 rfl ?_
    obtain ⟨P1, hP1, hV⟩ := hV
    refine e_vv (n := 4) (A := [.ref 56, .int s1, .int s2, .int a3]) (R := []) f_142_163 na_141 rfl rfl (Nat.le_of_ble_eq_true rfl) (Nat.le_of_ble_eq_true rfl) (by rw [ml_141]; exact Nat.le_of_ble_eq_true rfl) rfl (by rw [cy_141]; decide) (by rw [cy_141]; exact (by decide : x_tg 56 = 6)) hP1 (fun S1 hp1 => ?_)
    have hV := hV S1 hp1
    refine e_iconst (c := 1) f_142_166 (by decide) ?_
    exact e_ireturn f_142_167 rt_142 (by decide) hV
  · have hc : ¬ (S 70 (Int32.toNatClampNeg (((2 * a1) + 3) - a3))) = 0 := fun z => hc (decide_eq_true z)
    rw [if_neg hc] at hV
    refine e_iconst (c := 1) f_142_156 (by decide) ?_
    refine e_iload f_142_157 rfl ?_
    refine e_isub f_142_158 ?_
    refine e_goto f_142_159 ?_
    obtain ⟨P2, hP2, hV⟩ := hV
    refine e_vv (n := 4) (A := [.ref 56, .int s1, .int s2, .int (1 - a3)]) (R := []) f_142_163 na_141 rfl rfl (Nat.le_of_ble_eq_true rfl) (Nat.le_of_ble_eq_true rfl) (by rw [ml_141]; exact Nat.le_of_ble_eq_true rfl) rfl (by rw [cy_141]; decide) (by rw [cy_141]; exact (by decide : x_tg 56 = 6)) hP2 (fun S2 hp2 => ?_)
    have hV := hV S2 hp2
    refine e_iconst (c := 1) f_142_166 (by decide) ?_
    exact e_ireturn f_142_167 rt_142 (by decide) hV
set_option maxRecDepth 20000 in
theorem T_143_0 {xs : List Int32} {d : Nat} {S : x_M} {Q : Option Value → x_M → Prop} {a1 : Int32} {a2 : Int32} {a3 : Int32}  (hV : ∃ P1 : Int32 → x_M → Prop, x_Ci xs d 125 [.ref 56, .int a1] S P1 ∧ ∀ (v1 : Int32) (S1 : x_M), P1 v1 S1 → (if v1 = 0 then (Q (some (.int (-1000001))) S1) else (∃ P2 : Int32 → x_M → Prop, x_Ci xs d 126 [.int a2] S1 P2 ∧ ∀ (v2 : Int32) (S2 : x_M), P2 v2 S2 → (if v2 = 0 then (Q (some (.int (-1000001))) S2) else (∃ P3 : Int32 → x_M → Prop, x_Ci xs d 101 [.long (Int32.toInt64 a3), .long 0, .long 1] S2 P3 ∧ ∀ (v3 : Int32) (S3 : x_M), P3 v3 S3 → (if v3 = 0 then (Q (some (.int (-1000001))) S3) else (∃ P4 : Int32 → x_M → Prop, x_Ci xs d 131 [.ref 56, .int a1] S3 P4 ∧ ∀ (v4 : Int32) (S4 : x_M), P4 v4 S4 → (if v4 = 0 then (Q (some (.int (-1000002))) S4) else ((x_ib ((8 * a1) + a2) 112) ∧ (∃ P5 : Int32 → x_M → Prop, x_Ci xs d 129 [.ref 56, .int ((S4 57 25) &&& (S4 66 (Int32.toNatClampNeg ((8 * a1) + a2))))] S4 P5 ∧ ∀ (v5 : Int32) (S5 : x_M), P5 v5 S5 → (if ((S4 57 25) &&& (S4 66 (Int32.toNatClampNeg ((8 * a1) + a2)))) = 0 then (x_E xs (d + 1) 143 81 [.ref 56, .int a1, .int a2, .int a3, .int ((S4 57 25) &&& (S4 66 (Int32.toNatClampNeg ((8 * a1) + a2)))), .int v5, .null, .null, .null, .null, .null, .null] [.int 511] S5 Q) else (x_E xs (d + 1) 143 81 [.ref 56, .int a1, .int a2, .int a3, .int ((S4 57 25) &&& (S4 66 (Int32.toNatClampNeg ((8 * a1) + a2)))), .int v5, .null, .null, .null, .null, .null, .null] [.int ((S4 57 25) &&& (S4 66 (Int32.toNatClampNeg ((8 * a1) + a2))))] S5 Q)))))))))))) : x_E xs (d + 1) 143 0 [.ref 56, .int a1, .int a2, .int a3, .null, .null, .null, .null, .null, .null, .null, .null] [] S Q := by
  refine e_aload f_143_0 rfl (by decide) ?_
  refine e_iload f_143_1 rfl ?_
  obtain ⟨P1, hP1, hV⟩ := hV
  refine e_vi (n := 2) (A := [.ref 56, .int a1]) (R := []) f_143_2 na_125 rfl rfl (Nat.le_of_ble_eq_true rfl) (Nat.le_of_ble_eq_true rfl) (by rw [ml_125]; exact Nat.le_of_ble_eq_true rfl) rfl (by rw [cy_125]; decide) (by rw [cy_125]; exact (by decide : x_tg 56 = 6)) hP1 (fun v1 S1 hp1 => ?_)
  have hV := hV v1 S1 hp1
  refine e_if f_143_5 (fun hc => ?_) (fun hc => ?_)
  · have hc : v1 = 0 := of_decide_eq_true hc
    rw [if_pos hc] at hV
    refine e_iconst (c := (-1000001)) f_143_25 (by decide) ?_
    exact e_ireturn f_143_27 rt_143 rfl hV
  · have hc : ¬ v1 = 0 := fun z => hc (decide_eq_true z)
    rw [if_neg hc] at hV
    refine e_iload f_143_8 rfl ?_
    obtain ⟨P2, hP2, hV⟩ := hV
    refine e_si (n := 1) (A := [.int a2]) (R := []) f_143_9 na_126 rfl rfl (Nat.le_of_ble_eq_true rfl) (Nat.le_of_ble_eq_true rfl) (by rw [ml_126]; exact Nat.le_of_ble_eq_true rfl) hP2 (fun v2 S2 hp2 => ?_)
    have hV := hV v2 S2 hp2
    refine e_if f_143_12 (fun hc => ?_) (fun hc => ?_)
    · have hc : v2 = 0 := of_decide_eq_true hc
      rw [if_pos hc] at hV
      refine e_iconst (c := (-1000001)) f_143_25 (by decide) ?_
      exact e_ireturn f_143_27 rt_143 rfl hV
    · have hc : ¬ v2 = 0 := fun z => hc (decide_eq_true z)
      rw [if_neg hc] at hV
      refine e_iload f_143_15 rfl ?_
      refine e_i2l f_143_16 ?_
      refine e_lconst (c := 0) f_143_17 (by decide) ?_
      refine e_lconst (c := 1) f_143_18 (by decide) ?_
      obtain ⟨P3, hP3, hV⟩ := hV
      refine e_si (n := 3) (A := [.long (Int32.toInt64 a3), .long 0, .long 1]) (R := []) f_143_19 na_101 rfl rfl (Nat.le_of_ble_eq_true rfl) (Nat.le_of_ble_eq_true rfl) (by rw [ml_101]; exact Nat.le_of_ble_eq_true rfl) hP3 (fun v3 S3 hp3 => ?_)
      have hV := hV v3 S3 hp3
      refine e_if f_143_22 (fun hc => ?_) (fun hc => ?_)
      · have hc : ¬ v3 = 0 := of_decide_eq_true hc
        rw [if_neg hc] at hV
        refine e_aload f_143_28 rfl (by decide) ?_
        refine e_iload f_143_29 rfl ?_
        obtain ⟨P4, hP4, hV⟩ := hV
        refine e_vi (n := 2) (A := [.ref 56, .int a1]) (R := []) f_143_30 na_131 rfl rfl (Nat.le_of_ble_eq_true rfl) (Nat.le_of_ble_eq_true rfl) (by rw [ml_131]; exact Nat.le_of_ble_eq_true rfl) rfl (by rw [cy_131]; decide) (by rw [cy_131]; exact (by decide : x_tg 56 = 6)) hP4 (fun v4 S4 hp4 => ?_)
        have hV := hV v4 S4 hp4
        refine e_if f_143_33 (fun hc => ?_) (fun hc => ?_)
        · have hc : ¬ v4 = 0 := of_decide_eq_true hc
          rw [if_neg hc] at hV
          refine e_aload f_143_39 rfl (by decide) ?_
          refine e_gr (c := 6) (j := 0) (r := 57) f_143_40 (by decide) (by decide) (by decide) (by decide) ?_
          refine e_iconst (c := 25) f_143_43 (by decide) ?_
          refine e_iak (n := 99) (kk := 25) f_143_45 (by decide) (by decide) (by decide) ?_
          refine e_aload f_143_46 rfl (by decide) ?_
          refine e_gr (c := 6) (j := 17) (r := 66) f_143_47 (by decide) (by decide) (by decide) (by decide) ?_
          refine e_iconst (c := 8) f_143_50 (by decide) ?_
          refine e_iload f_143_52 rfl ?_
          refine e_imul f_143_53 ?_
          refine e_iload f_143_54 rfl ?_
          refine e_iadd f_143_55 ?_
          obtain ⟨hg, hV⟩ := hV
          refine e_ia (n := 112) f_143_56 (by decide) (by decide) hg ?_
          refine e_iand f_143_57 ?_
          refine e_istore (L' := [.ref 56, .int a1, .int a2, .int a3, .int ((S4 57 25) &&& (S4 66 (Int32.toNatClampNeg ((8 * a1) + a2)))), .null, .null, .null, .null, .null, .null, .null]) f_143_58 (Nat.le_of_ble_eq_true rfl) rfl ?_
          refine e_aload f_143_60 rfl (by decide) ?_
          refine e_iload f_143_61 rfl ?_
          obtain ⟨P5, hP5, hV⟩ := hV
          refine e_vi (n := 2) (A := [.ref 56, .int ((S4 57 25) &&& (S4 66 (Int32.toNatClampNeg ((8 * a1) + a2))))]) (R := []) f_143_63 na_129 rfl rfl (Nat.le_of_ble_eq_true rfl) (Nat.le_of_ble_eq_true rfl) (by rw [ml_129]; exact Nat.le_of_ble_eq_true rfl) rfl (by rw [cy_129]; decide) (by rw [cy_129]; exact (by decide : x_tg 56 = 6)) hP5 (fun v5 S5 hp5 => ?_)
          have hV := hV v5 S5 hp5
          refine e_istore (L' := [.ref 56, .int a1, .int a2, .int a3, .int ((S4 57 25) &&& (S4 66 (Int32.toNatClampNeg ((8 * a1) + a2)))), .int v5, .null, .null, .null, .null, .null, .null]) f_143_66 (Nat.le_of_ble_eq_true rfl) rfl ?_
          refine e_iload f_143_68 rfl ?_
          refine e_if f_143_70 (fun hc => ?_) (fun hc => ?_)
          · have hc : ¬ ((S4 57 25) &&& (S4 66 (Int32.toNatClampNeg ((8 * a1) + a2)))) = 0 := of_decide_eq_true hc
            rw [if_neg hc] at hV
            refine e_iload f_143_79 rfl ?_
            exact hV
          · have hc : ((S4 57 25) &&& (S4 66 (Int32.toNatClampNeg ((8 * a1) + a2)))) = 0 := Decidable.not_not.mp (fun z => hc (decide_eq_true z))
            rw [if_pos hc] at hV
            refine e_iconst (c := 511) f_143_73 (by decide) ?_
            refine e_goto f_143_76 ?_
            exact hV
        · have hc : v4 = 0 := Decidable.not_not.mp (fun z => hc (decide_eq_true z))
          rw [if_pos hc] at hV
          refine e_iconst (c := (-1000002)) f_143_36 (by decide) ?_
          exact e_ireturn f_143_38 rt_143 rfl hV
      · have hc : v3 = 0 := Decidable.not_not.mp (fun z => hc (decide_eq_true z))
        rw [if_pos hc] at hV
        refine e_iconst (c := (-1000001)) f_143_25 (by decide) ?_
        exact e_ireturn f_143_27 rt_143 rfl hV
set_option maxRecDepth 20000 in
theorem T_143_81 {xs : List Int32} {d : Nat} {S : x_M} {Q : Option Value → x_M → Prop} {a1 : Int32} {a2 : Int32} {a3 : Int32} {a4 : Int32} {a5 : Int32} {s0 : Int32}  (hV : (x_ib (31 - (S 57 27)) 99) ∧ (x_E xs (d + 1) 143 109 [.ref 56, .int a1, .int a2, .int a3, .int s0, .int a5, .int (S 57 (Int32.toNatClampNeg (31 - (S 57 27)))), .int 0, .int 0, .int 0, .null, .null] [] S Q)) : x_E xs (d + 1) 143 81 [.ref 56, .int a1, .int a2, .int a3, .int a4, .int a5, .null, .null, .null, .null, .null, .null] [.int s0] S Q := by
  refine e_istore (L' := [.ref 56, .int a1, .int a2, .int a3, .int s0, .int a5, .null, .null, .null, .null, .null, .null]) f_143_81 (Nat.le_of_ble_eq_true rfl) rfl ?_
  refine e_aload f_143_83 rfl (by decide) ?_
  refine e_gr (c := 6) (j := 0) (r := 57) f_143_84 (by decide) (by decide) (by decide) (by decide) ?_
  refine e_iconst (c := 31) f_143_87 (by decide) ?_
  refine e_aload f_143_89 rfl (by decide) ?_
  refine e_gr (c := 6) (j := 0) (r := 57) f_143_90 (by decide) (by decide) (by decide) (by decide) ?_
  refine e_iconst (c := 27) f_143_93 (by decide) ?_
  refine e_iak (n := 99) (kk := 27) f_143_95 (by decide) (by decide) (by decide) ?_
  refine e_isub f_143_96 ?_
  obtain ⟨hg, hV⟩ := hV
  refine e_ia (n := 99) f_143_97 (by decide) (by decide) hg ?_
  refine e_istore (L' := [.ref 56, .int a1, .int a2, .int a3, .int s0, .int a5, .int (S 57 (Int32.toNatClampNeg (31 - (S 57 27)))), .null, .null, .null, .null, .null]) f_143_98 (Nat.le_of_ble_eq_true rfl) rfl ?_
  refine e_iconst (c := 0) f_143_100 (by decide) ?_
  refine e_istore (L' := [.ref 56, .int a1, .int a2, .int a3, .int s0, .int a5, .int (S 57 (Int32.toNatClampNeg (31 - (S 57 27)))), .int 0, .null, .null, .null, .null]) f_143_101 (Nat.le_of_ble_eq_true rfl) rfl ?_
  refine e_iconst (c := 0) f_143_103 (by decide) ?_
  refine e_istore (L' := [.ref 56, .int a1, .int a2, .int a3, .int s0, .int a5, .int (S 57 (Int32.toNatClampNeg (31 - (S 57 27)))), .int 0, .int 0, .null, .null, .null]) f_143_104 (Nat.le_of_ble_eq_true rfl) rfl ?_
  refine e_iconst (c := 0) f_143_106 (by decide) ?_
  refine e_istore (L' := [.ref 56, .int a1, .int a2, .int a3, .int s0, .int a5, .int (S 57 (Int32.toNatClampNeg (31 - (S 57 27)))), .int 0, .int 0, .int 0, .null, .null]) f_143_107 (Nat.le_of_ble_eq_true rfl) rfl ?_
  exact hV
set_option maxRecDepth 20000 in
theorem T_143_109 {xs : List Int32} {d : Nat} {S : x_M} {Q : Option Value → x_M → Prop} {a1 : Int32} {a2 : Int32} {a3 : Int32} {a4 : Int32} {a5 : Int32} {a6 : Int32} {a7 : Int32} {a8 : Int32} {a9 : Int32}  (hV : if (8 * (S 57 1)) ≤ a9 then (if a8 = 0 then (if a8 = 0 then (x_E xs (d + 1) 143 195 [.ref 56, .int a1, .int a2, .int a3, .int a4, .int a5, .int a6, .int a7, .int a8, .int a5, .null, .null] [.int 1] S Q) else (x_E xs (d + 1) 143 195 [.ref 56, .int a1, .int a2, .int a3, .int a4, .int a5, .int a6, .int a7, .int a8, .int a5, .null, .null] [.int a8] S Q)) else (if a8 = 0 then (x_E xs (d + 1) 143 195 [.ref 56, .int a1, .int a2, .int a3, .int a4, .int a5, .int a6, .int a7, .int a8, .int ((a5 * a8) - a7), .null, .null] [.int 1] S Q) else (x_E xs (d + 1) 143 195 [.ref 56, .int a1, .int a2, .int a3, .int a4, .int a5, .int a6, .int a7, .int a8, .int ((a5 * a8) - a7), .null, .null] [.int a8] S Q))) else (∃ P1 : Int32 → x_M → Prop, x_Ci xs d 122 [.int a6, .int (a9 / 8)] S P1 ∧ ∀ (v1 : Int32) (S1 : x_M), P1 v1 S1 → (if v1 = 0 then (x_E xs (d + 1) 143 109 [.ref 56, .int a1, .int a2, .int a3, .int a4, .int a5, .int a6, .int a7, .int a8, .int (a9 + 1), .null, .null] [] S1 Q) else ((x_ib a9 112) ∧ (∃ P2 : Int32 → x_M → Prop, x_Ci xs d 129 [.ref 56, .int (a4 &&& (S1 66 (Int32.toNatClampNeg a9)))] S1 P2 ∧ ∀ (v2 : Int32) (S2 : x_M), P2 v2 S2 → (x_E xs (d + 1) 143 109 [.ref 56, .int a1, .int a2, .int a3, .int a4, .int a5, .int a6, .int (a7 + v2), .int (a8 + 1), .int (a9 + 1), .null, .null] [] S2 Q)))))) : x_E xs (d + 1) 143 109 [.ref 56, .int a1, .int a2, .int a3, .int a4, .int a5, .int a6, .int a7, .int a8, .int a9, .null, .null] [] S Q := by
  refine e_iload f_143_109 rfl ?_
  refine e_iconst (c := 8) f_143_111 (by decide) ?_
  refine e_aload f_143_113 rfl (by decide) ?_
  refine e_gr (c := 6) (j := 0) (r := 57) f_143_114 (by decide) (by decide) (by decide) (by decide) ?_
  refine e_iconst (c := 1) f_143_117 (by decide) ?_
  refine e_iak (n := 99) (kk := 1) f_143_118 (by decide) (by decide) (by decide) ?_
  refine e_imul f_143_119 ?_
  refine e_icmp f_143_120 (fun hc => ?_) (fun hc => ?_)
  · have hc : (8 * (S 57 1)) ≤ a9 := of_decide_eq_true hc
    rw [if_pos hc] at hV
    refine e_iload f_143_164 rfl ?_
    refine e_if f_143_166 (fun hc => ?_) (fun hc => ?_)
    · have hc : ¬ a8 = 0 := of_decide_eq_true hc
      rw [if_neg hc] at hV
      refine e_iload f_143_174 rfl ?_
      refine e_iload f_143_176 rfl ?_
      refine e_imul f_143_178 ?_
      refine e_iload f_143_179 rfl ?_
      refine e_isub f_143_181 ?_
      refine e_istore (L' := [.ref 56, .int a1, .int a2, .int a3, .int a4, .int a5, .int a6, .int a7, .int a8, .int ((a5 * a8) - a7), .null, .null]) f_143_182 (Nat.le_of_ble_eq_true rfl) rfl ?_
      refine e_iload f_143_184 rfl ?_
      refine e_if f_143_186 (fun hc => ?_) (fun hc => ?_)
      · have hc : ¬ a8 = 0 := of_decide_eq_true hc
        rw [if_neg hc] at hV
        refine e_iload f_143_193 rfl ?_
        exact hV
      · have hc : a8 = 0 := Decidable.not_not.mp (fun z => hc (decide_eq_true z))
        rw [if_pos hc] at hV
        refine e_iconst (c := 1) f_143_189 (by decide) ?_
        refine e_goto f_143_190 ?_
        exact hV
    · have hc : a8 = 0 := Decidable.not_not.mp (fun z => hc (decide_eq_true z))
      rw [if_pos hc] at hV
      refine e_iload f_143_169 rfl ?_
      refine e_goto f_143_171 ?_
      refine e_istore (L' := [.ref 56, .int a1, .int a2, .int a3, .int a4, .int a5, .int a6, .int a7, .int a8, .int a5, .null, .null]) f_143_182 (Nat.le_of_ble_eq_true rfl) rfl ?_
      refine e_iload f_143_184 rfl ?_
      refine e_if f_143_186 (fun hc => ?_) (fun hc => ?_)
      · have hc : ¬ a8 = 0 := of_decide_eq_true hc
        rw [if_neg hc] at hV
        refine e_iload f_143_193 rfl ?_
        exact hV
      · have hc : a8 = 0 := Decidable.not_not.mp (fun z => hc (decide_eq_true z))
        rw [if_pos hc] at hV
        refine e_iconst (c := 1) f_143_189 (by decide) ?_
        refine e_goto f_143_190 ?_
        exact hV
  · have hc : ¬ (8 * (S 57 1)) ≤ a9 := fun z => hc (decide_eq_true z)
    rw [if_neg hc] at hV
    refine e_iload f_143_123 rfl ?_
    refine e_iload f_143_125 rfl ?_
    refine e_iconst (c := 8) f_143_127 (by decide) ?_
    refine e_idiv f_143_129 (by decide) ?_
    obtain ⟨P1, hP1, hV⟩ := hV
    refine e_si (n := 2) (A := [.int a6, .int (a9 / 8)]) (R := []) f_143_130 na_122 rfl rfl (Nat.le_of_ble_eq_true rfl) (Nat.le_of_ble_eq_true rfl) (by rw [ml_122]; exact Nat.le_of_ble_eq_true rfl) hP1 (fun v1 S1 hp1 => ?_)
    have hV := hV v1 S1 hp1
    refine e_if f_143_133 (fun hc => ?_) (fun hc => ?_)
    · have hc : v1 = 0 := of_decide_eq_true hc
      rw [if_pos hc] at hV
      refine e_inc (c := 1) (L' := [.ref 56, .int a1, .int a2, .int a3, .int a4, .int a5, .int a6, .int a7, .int a8, .int (a9 + 1), .null, .null]) f_143_158 rfl (by decide) rfl ?_
      refine e_goto f_143_161 ?_
      exact hV
    · have hc : ¬ v1 = 0 := fun z => hc (decide_eq_true z)
      rw [if_neg hc] at hV
      refine e_iload f_143_136 rfl ?_
      refine e_aload f_143_138 rfl (by decide) ?_
      refine e_iload f_143_139 rfl ?_
      refine e_aload f_143_141 rfl (by decide) ?_
      refine e_gr (c := 6) (j := 17) (r := 66) f_143_142 (by decide) (by decide) (by decide) (by decide) ?_
      refine e_iload f_143_145 rfl ?_
      obtain ⟨hg, hV⟩ := hV
      refine e_ia (n := 112) f_143_147 (by decide) (by decide) hg ?_
      refine e_iand f_143_148 ?_
      obtain ⟨P2, hP2, hV⟩ := hV
      refine e_vi (n := 2) (A := [.ref 56, .int (a4 &&& (S1 66 (Int32.toNatClampNeg a9)))]) (R := [.int a7]) f_143_149 na_129 rfl rfl (Nat.le_of_ble_eq_true rfl) (Nat.le_of_ble_eq_true rfl) (by rw [ml_129]; exact Nat.le_of_ble_eq_true rfl) rfl (by rw [cy_129]; decide) (by rw [cy_129]; exact (by decide : x_tg 56 = 6)) hP2 (fun v2 S2 hp2 => ?_)
      have hV := hV v2 S2 hp2
      refine e_iadd f_143_152 ?_
      refine e_istore (L' := [.ref 56, .int a1, .int a2, .int a3, .int a4, .int a5, .int a6, .int (a7 + v2), .int a8, .int a9, .null, .null]) f_143_153 (Nat.le_of_ble_eq_true rfl) rfl ?_
      refine e_inc (c := 1) (L' := [.ref 56, .int a1, .int a2, .int a3, .int a4, .int a5, .int a6, .int (a7 + v2), .int (a8 + 1), .int a9, .null, .null]) f_143_155 rfl (by decide) rfl ?_
      refine e_inc (c := 1) (L' := [.ref 56, .int a1, .int a2, .int a3, .int a4, .int a5, .int a6, .int (a7 + v2), .int (a8 + 1), .int (a9 + 1), .null, .null]) f_143_158 rfl (by decide) rfl ?_
      refine e_goto f_143_161 ?_
      exact hV
set_option maxRecDepth 20000 in
theorem T_143_195 {xs : List Int32} {d : Nat} {S : x_M} {Q : Option Value → x_M → Prop} {a1 : Int32} {a2 : Int32} {a3 : Int32} {a4 : Int32} {a5 : Int32} {a6 : Int32} {a7 : Int32} {a8 : Int32} {a9 : Int32} {s0 : Int32}  (hV : ∃ P1 : Int32 → x_M → Prop, x_Ci xs d 144 [.int a9, .int s0] S P1 ∧ ∀ (v1 : Int32) (S1 : x_M), P1 v1 S1 → (if a3 = 0 then ((¬ v1 = 0) ∧ (Q (some (.int (a9 / v1))) S1)) else ((¬ v1 = 0) ∧ (Q (some (.int (s0 / v1))) S1)))) : x_E xs (d + 1) 143 195 [.ref 56, .int a1, .int a2, .int a3, .int a4, .int a5, .int a6, .int a7, .int a8, .int a9, .null, .null] [.int s0] S Q := by
  refine e_istore (L' := [.ref 56, .int a1, .int a2, .int a3, .int a4, .int a5, .int a6, .int a7, .int a8, .int a9, .int s0, .null]) f_143_195 (Nat.le_of_ble_eq_true rfl) rfl ?_
  refine e_iload f_143_197 rfl ?_
  refine e_iload f_143_199 rfl ?_
  obtain ⟨P1, hP1, hV⟩ := hV
  refine e_si (n := 2) (A := [.int a9, .int s0]) (R := []) f_143_201 na_144 rfl rfl (Nat.le_of_ble_eq_true rfl) (Nat.le_of_ble_eq_true rfl) (by rw [ml_144]; exact Nat.le_of_ble_eq_true rfl) hP1 (fun v1 S1 hp1 => ?_)
  have hV := hV v1 S1 hp1
  refine e_istore (L' := [.ref 56, .int a1, .int a2, .int a3, .int a4, .int a5, .int a6, .int a7, .int a8, .int a9, .int s0, .int v1]) f_143_204 (Nat.le_of_ble_eq_true rfl) rfl ?_
  refine e_iload f_143_206 rfl ?_
  refine e_if f_143_207 (fun hc => ?_) (fun hc => ?_)
  · have hc : ¬ a3 = 0 := of_decide_eq_true hc
    rw [if_neg hc] at hV
    refine e_iload f_143_218 rfl ?_
    refine e_iload f_143_220 rfl ?_
    obtain ⟨hg, hV⟩ := hV
    refine e_idiv f_143_222 hg ?_
    exact e_ireturn f_143_223 rt_143 rfl hV
  · have hc : a3 = 0 := Decidable.not_not.mp (fun z => hc (decide_eq_true z))
    rw [if_pos hc] at hV
    refine e_iload f_143_210 rfl ?_
    refine e_iload f_143_212 rfl ?_
    obtain ⟨hg, hV⟩ := hV
    refine e_idiv f_143_214 hg ?_
    refine e_goto f_143_215 ?_
    exact e_ireturn f_143_223 rt_143 rfl hV
set_option maxRecDepth 20000 in
theorem T_144_0 {xs : List Int32} {d : Nat} {S : x_M} {Q : Option Value → x_M → Prop} {a0 : Int32} {a1 : Int32}  (hV : if (0 : Int32) ≤ a0 then (x_E xs (d + 1) 144 13 [.int a0, .int a1, .int a0, .int a1, .null] [] S Q) else (x_E xs (d + 1) 144 13 [.int a0, .int a1, .int (-a0), .int a1, .null] [] S Q)) : x_E xs (d + 1) 144 0 [.int a0, .int a1, .null, .null, .null] [] S Q := by
  refine e_iload f_144_0 rfl ?_
  refine e_if f_144_1 (fun hc => ?_) (fun hc => ?_)
  · have hc : (0 : Int32) ≤ a0 := of_decide_eq_true hc
    rw [if_pos hc] at hV
    refine e_iload f_144_9 rfl ?_
    refine e_istore (L' := [.int a0, .int a1, .int a0, .null, .null]) f_144_10 (Nat.le_of_ble_eq_true rfl) rfl ?_
    refine e_iload f_144_11 rfl ?_
    refine e_istore (L' := [.int a0, .int a1, .int a0, .int a1, .null]) f_144_12 (Nat.le_of_ble_eq_true rfl) rfl ?_
    exact hV
  · have hc : ¬ (0 : Int32) ≤ a0 := fun z => hc (decide_eq_true z)
    rw [if_neg hc] at hV
    refine e_iload f_144_4 rfl ?_
    refine e_ineg f_144_5 ?_
    refine e_goto f_144_6 ?_
    refine e_istore (L' := [.int a0, .int a1, .int (-a0), .null, .null]) f_144_10 (Nat.le_of_ble_eq_true rfl) rfl ?_
    refine e_iload f_144_11 rfl ?_
    refine e_istore (L' := [.int a0, .int a1, .int (-a0), .int a1, .null]) f_144_12 (Nat.le_of_ble_eq_true rfl) rfl ?_
    exact hV
set_option maxRecDepth 20000 in
theorem T_144_13 {xs : List Int32} {d : Nat} {S : x_M} {Q : Option Value → x_M → Prop} {a0 : Int32} {a1 : Int32} {a2 : Int32} {a3 : Int32} {a4 : Value}  (hV : if a3 = 0 then (Q (some (.int a2)) S) else ((¬ a3 = 0) ∧ (x_E xs (d + 1) 144 13 [.int a0, .int a1, .int a3, .int (a2 - a2 / a3 * a3), .int (a2 - a2 / a3 * a3)] [] S Q))) : x_E xs (d + 1) 144 13 [.int a0, .int a1, .int a2, .int a3, a4] [] S Q := by
  refine e_iload f_144_13 rfl ?_
  refine e_if f_144_14 (fun hc => ?_) (fun hc => ?_)
  · have hc : a3 = 0 := of_decide_eq_true hc
    rw [if_pos hc] at hV
    refine e_iload f_144_30 rfl ?_
    exact e_ireturn f_144_31 rt_144 rfl hV
  · have hc : ¬ a3 = 0 := fun z => hc (decide_eq_true z)
    rw [if_neg hc] at hV
    refine e_iload f_144_17 rfl ?_
    refine e_iload f_144_18 rfl ?_
    obtain ⟨hg, hV⟩ := hV
    refine e_irem f_144_19 hg ?_
    refine e_istore (L' := [.int a0, .int a1, .int a2, .int a3, .int (a2 - a2 / a3 * a3)]) f_144_20 (Nat.le_of_ble_eq_true rfl) rfl ?_
    refine e_iload f_144_22 rfl ?_
    refine e_istore (L' := [.int a0, .int a1, .int a3, .int a3, .int (a2 - a2 / a3 * a3)]) f_144_23 (Nat.le_of_ble_eq_true rfl) rfl ?_
    refine e_iload f_144_24 rfl ?_
    refine e_istore (L' := [.int a0, .int a1, .int a3, .int (a2 - a2 / a3 * a3), .int (a2 - a2 / a3 * a3)]) f_144_26 (Nat.le_of_ble_eq_true rfl) rfl ?_
    refine e_goto f_144_27 ?_
    exact hV
set_option maxRecDepth 20000 in
theorem T_145_0 {xs : List Int32} {d : Nat} {S : x_M} {Q : Option Value → x_M → Prop} {a1 : Int32} {a2 : Int32}  (hV : if (S 57 0) = 0 then (Q (some (.int (-1000002))) S) else (∃ P1 : Int32 → x_M → Prop, x_Ci xs d 128 [.int a1] S P1 ∧ ∀ (v1 : Int32) (S1 : x_M), P1 v1 S1 → (if v1 = 0 then (Q (some (.int (-1000001))) S1) else (if (-1 : Int32) ≤ a2 then (∃ P2 : Int32 → x_M → Prop, x_Ci xs d 146 [.ref 56, .int a1] S1 P2 ∧ ∀ (v2 : Int32) (S2 : x_M), P2 v2 S2 → (if a2 = (-1) then (Q (some (.int v2)) S2) else (if v2 = (-1000000) then (Q (some (.int v2)) S2) else (if v2 ≤ a2 then (Q (some (.int (-1000000))) S2) else ((x_ib a2 3) ∧ (Q (some (.int (S2 74 (Int32.toNatClampNeg a2)))) S2)))))) else (Q (some (.int (-1000001))) S1))))) : x_E xs (d + 1) 145 0 [.ref 56, .int a1, .int a2, .null] [] S Q := by
  refine e_aload f_145_0 rfl (by decide) ?_
  refine e_gr (c := 6) (j := 0) (r := 57) f_145_1 (by decide) (by decide) (by decide) (by decide) ?_
  refine e_iconst (c := 0) f_145_4 (by decide) ?_
  refine e_iak (n := 99) (kk := 0) f_145_5 (by decide) (by decide) (by decide) ?_
  refine e_if f_145_6 (fun hc => ?_) (fun hc => ?_)
  · have hc : ¬ (S 57 0) = 0 := of_decide_eq_true hc
    rw [if_neg hc] at hV
    refine e_iload f_145_12 rfl ?_
    obtain ⟨P1, hP1, hV⟩ := hV
    refine e_si (n := 1) (A := [.int a1]) (R := []) f_145_13 na_128 rfl rfl (Nat.le_of_ble_eq_true rfl) (Nat.le_of_ble_eq_true rfl) (by rw [ml_128]; exact Nat.le_of_ble_eq_true rfl) hP1 (fun v1 S1 hp1 => ?_)
    have hV := hV v1 S1 hp1
    refine e_if f_145_16 (fun hc => ?_) (fun hc => ?_)
    · have hc : v1 = 0 := of_decide_eq_true hc
      rw [if_pos hc] at hV
      refine e_iconst (c := (-1000001)) f_145_24 (by decide) ?_
      exact e_ireturn f_145_26 rt_145 rfl hV
    · have hc : ¬ v1 = 0 := fun z => hc (decide_eq_true z)
      rw [if_neg hc] at hV
      refine e_iload f_145_19 rfl ?_
      refine e_iconst (c := (-1)) f_145_20 (by decide) ?_
      refine e_icmp f_145_21 (fun hc => ?_) (fun hc => ?_)
      · have hc : (-1 : Int32) ≤ a2 := of_decide_eq_true hc
        rw [if_pos hc] at hV
        refine e_aload f_145_27 rfl (by decide) ?_
        refine e_iload f_145_28 rfl ?_
        obtain ⟨P2, hP2, hV⟩ := hV
        refine e_vi (n := 2) (A := [.ref 56, .int a1]) (R := []) f_145_29 na_146 rfl rfl (Nat.le_of_ble_eq_true rfl) (Nat.le_of_ble_eq_true rfl) (by rw [ml_146]; exact Nat.le_of_ble_eq_true rfl) rfl (by rw [cy_146]; decide) (by rw [cy_146]; exact (by decide : x_tg 56 = 6)) hP2 (fun v2 S2 hp2 => ?_)
        have hV := hV v2 S2 hp2
        refine e_istore (L' := [.ref 56, .int a1, .int a2, .int v2]) f_145_32 (Nat.le_of_ble_eq_true rfl) rfl ?_
        refine e_iload f_145_33 rfl ?_
        refine e_iconst (c := (-1)) f_145_34 (by decide) ?_
        refine e_icmp f_145_35 (fun hc => ?_) (fun hc => ?_)
        · have hc : a2 = (-1) := of_decide_eq_true hc
          rw [if_pos hc] at hV
          refine e_iload f_145_44 rfl ?_
          refine e_goto f_145_45 ?_
          exact e_ireturn f_145_64 rt_145 rfl hV
        · have hc : ¬ a2 = (-1) := fun z => hc (decide_eq_true z)
          rw [if_neg hc] at hV
          refine e_iload f_145_38 rfl ?_
          refine e_iconst (c := (-1000000)) f_145_39 (by decide) ?_
          refine e_icmp f_145_41 (fun hc => ?_) (fun hc => ?_)
          · have hc : ¬ v2 = (-1000000) := of_decide_eq_true hc
            rw [if_neg hc] at hV
            refine e_iload f_145_48 rfl ?_
            refine e_iload f_145_49 rfl ?_
            refine e_icmp f_145_50 (fun hc => ?_) (fun hc => ?_)
            · have hc : v2 ≤ a2 := of_decide_eq_true hc
              rw [if_pos hc] at hV
              refine e_iconst (c := (-1000000)) f_145_62 (by decide) ?_
              exact e_ireturn f_145_64 rt_145 rfl hV
            · have hc : ¬ v2 ≤ a2 := fun z => hc (decide_eq_true z)
              rw [if_neg hc] at hV
              refine e_aload f_145_53 rfl (by decide) ?_
              refine e_gr (c := 6) (j := 26) (r := 74) f_145_54 (by decide) (by decide) (by decide) (by decide) ?_
              refine e_iload f_145_57 rfl ?_
              obtain ⟨hg, hV⟩ := hV
              refine e_ia (n := 3) f_145_58 (by decide) (by decide) hg ?_
              refine e_goto f_145_59 ?_
              exact e_ireturn f_145_64 rt_145 rfl hV
          · have hc : v2 = (-1000000) := Decidable.not_not.mp (fun z => hc (decide_eq_true z))
            rw [if_pos hc] at hV
            refine e_iload f_145_44 rfl ?_
            refine e_goto f_145_45 ?_
            exact e_ireturn f_145_64 rt_145 rfl hV
      · have hc : ¬ (-1 : Int32) ≤ a2 := fun z => hc (decide_eq_true z)
        rw [if_neg hc] at hV
        refine e_iconst (c := (-1000001)) f_145_24 (by decide) ?_
        exact e_ireturn f_145_26 rt_145 rfl hV
  · have hc : (S 57 0) = 0 := Decidable.not_not.mp (fun z => hc (decide_eq_true z))
    rw [if_pos hc] at hV
    refine e_iconst (c := (-1000002)) f_145_9 (by decide) ?_
    exact e_ireturn f_145_11 rt_145 rfl hV
