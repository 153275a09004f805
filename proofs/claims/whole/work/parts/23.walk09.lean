set_option maxRecDepth 20000 in
theorem T_146_0 {xs : List Int32} {d : Nat} {S : x_M} {Q : Option Value → x_M → Prop} {a1 : Int32}  (hV : if a1 = 511 then (Q (some (.int 0)) S) else (x_E xs (d + 1) 146 21 [.ref 56, .int a1, .int (8 * (S 57 1)), .int 0, .null, .null, .null] [] S Q)) : x_E xs (d + 1) 146 0 [.ref 56, .int a1, .null, .null, .null, .null, .null] [] S Q := by
  refine e_iconst (c := 8) f_146_0 (by decide) ?_
  refine e_aload f_146_2 rfl (by decide) ?_
  refine e_gr (c := 6) (j := 0) (r := 57) f_146_3 (by decide) (by decide) (by decide) (by decide) ?_
  refine e_iconst (c := 1) f_146_6 (by decide) ?_
  refine e_iak (n := 99) (kk := 1) f_146_7 (by decide) (by decide) (by decide) ?_
  refine e_imul f_146_8 ?_
  refine e_istore (L' := [.ref 56, .int a1, .int (8 * (S 57 1)), .null, .null, .null, .null]) f_146_9 (Nat.le_of_ble_eq_true rfl) rfl ?_
  refine e_iload f_146_10 rfl ?_
  refine e_iconst (c := 511) f_146_11 (by decide) ?_
  refine e_icmp f_146_14 (fun hc => ?_) (fun hc => ?_)
  · have hc : ¬ a1 = 511 := of_decide_eq_true hc
    rw [if_neg hc] at hV
    refine e_iconst (c := 0) f_146_19 (by decide) ?_
    refine e_istore (L' := [.ref 56, .int a1, .int (8 * (S 57 1)), .int 0, .null, .null, .null]) f_146_20 (Nat.le_of_ble_eq_true rfl) rfl ?_
    exact hV
  · have hc : a1 = 511 := Decidable.not_not.mp (fun z => hc (decide_eq_true z))
    rw [if_pos hc] at hV
    refine e_iconst (c := 0) f_146_17 (by decide) ?_
    exact e_ireturn f_146_18 rt_146 rfl hV
set_option maxRecDepth 20000 in
theorem T_146_21 {xs : List Int32} {d : Nat} {S : x_M} {Q : Option Value → x_M → Prop} {a1 : Int32} {a2 : Int32} {a3 : Int32}  (hV : if a2 ≤ a3 then (x_E xs (d + 1) 146 53 [.ref 56, .int a1, .int a2, .int 0, .null, .null, .null] [] S Q) else ((x_ib a3 112) ∧ (if (S 66 (Int32.toNatClampNeg a3)) = a1 then (Q (some (.int 1)) (x_up S 74 0 a3)) else (x_E xs (d + 1) 146 21 [.ref 56, .int a1, .int a2, .int (a3 + 1), .null, .null, .null] [] S Q)))) : x_E xs (d + 1) 146 21 [.ref 56, .int a1, .int a2, .int a3, .null, .null, .null] [] S Q := by
  refine e_iload f_146_21 rfl ?_
  refine e_iload f_146_22 rfl ?_
  refine e_icmp f_146_23 (fun hc => ?_) (fun hc => ?_)
  · have hc : a2 ≤ a3 := of_decide_eq_true hc
    rw [if_pos hc] at hV
    refine e_iconst (c := 0) f_146_51 (by decide) ?_
    refine e_istore (L' := [.ref 56, .int a1, .int a2, .int 0, .null, .null, .null]) f_146_52 (Nat.le_of_ble_eq_true rfl) rfl ?_
    exact hV
  · have hc : ¬ a2 ≤ a3 := fun z => hc (decide_eq_true z)
    rw [if_neg hc] at hV
    refine e_aload f_146_26 rfl (by decide) ?_
    refine e_gr (c := 6) (j := 17) (r := 66) f_146_27 (by decide) (by decide) (by decide) (by decide) ?_
    refine e_iload f_146_30 rfl ?_
    obtain ⟨hg, hV⟩ := hV
    refine e_ia (n := 112) f_146_31 (by decide) (by decide) hg ?_
    refine e_iload f_146_32 rfl ?_
    refine e_icmp f_146_33 (fun hc => ?_) (fun hc => ?_)
    · have hc : ¬ (S 66 (Int32.toNatClampNeg a3)) = a1 := of_decide_eq_true hc
      rw [if_neg hc] at hV
      refine e_inc (c := 1) (L' := [.ref 56, .int a1, .int a2, .int (a3 + 1), .null, .null, .null]) f_146_45 rfl (by decide) rfl ?_
      refine e_goto f_146_48 ?_
      exact hV
    · have hc : (S 66 (Int32.toNatClampNeg a3)) = a1 := Decidable.not_not.mp (fun z => hc (decide_eq_true z))
      rw [if_pos hc] at hV
      refine e_aload f_146_36 rfl (by decide) ?_
      refine e_gr (c := 6) (j := 26) (r := 74) f_146_37 (by decide) (by decide) (by decide) (by decide) ?_
      refine e_iconst (c := 0) f_146_40 (by decide) ?_
      refine e_iload f_146_41 rfl ?_
      refine e_isk (n := 3) (kk := 0) f_146_42 (by decide) (by decide) (by decide) ?_
      refine e_iconst (c := 1) f_146_43 (by decide) ?_
      exact e_ireturn f_146_44 rt_146 rfl hV
set_option maxRecDepth 20000 in
theorem T_146_53 {xs : List Int32} {d : Nat} {S : x_M} {Q : Option Value → x_M → Prop} {a1 : Int32} {a2 : Int32} {a3 : Int32} {a4 : Value}  (hV : if a2 ≤ a3 then (x_E xs (d + 1) 146 119 [.ref 56, .int a1, .int a2, .int 0, a4, .null, .null] [] S Q) else (∃ P1 : Int32 → x_M → Prop, x_Ci xs d 147 [.int a3] S P1 ∧ ∀ (v1 : Int32) (S1 : x_M), P1 v1 S1 → (x_E xs (d + 1) 146 64 [.ref 56, .int a1, .int a2, .int a3, .int v1, .null, .null] [] S1 Q))) : x_E xs (d + 1) 146 53 [.ref 56, .int a1, .int a2, .int a3, a4, .null, .null] [] S Q := by
  refine e_iload f_146_53 rfl ?_
  refine e_iload f_146_54 rfl ?_
  refine e_icmp f_146_55 (fun hc => ?_) (fun hc => ?_)
  · have hc : a2 ≤ a3 := of_decide_eq_true hc
    rw [if_pos hc] at hV
    refine e_iconst (c := 0) f_146_117 (by decide) ?_
    refine e_istore (L' := [.ref 56, .int a1, .int a2, .int 0, a4, .null, .null]) f_146_118 (Nat.le_of_ble_eq_true rfl) rfl ?_
    exact hV
  · have hc : ¬ a2 ≤ a3 := fun z => hc (decide_eq_true z)
    rw [if_neg hc] at hV
    refine e_iload f_146_58 rfl ?_
    obtain ⟨P1, hP1, hV⟩ := hV
    refine e_si (n := 1) (A := [.int a3]) (R := []) f_146_59 na_147 rfl rfl (Nat.le_of_ble_eq_true rfl) (Nat.le_of_ble_eq_true rfl) (by rw [ml_147]; exact Nat.le_of_ble_eq_true rfl) hP1 (fun v1 S1 hp1 => ?_)
    have hV := hV v1 S1 hp1
    refine e_istore (L' := [.ref 56, .int a1, .int a2, .int a3, .int v1, .null, .null]) f_146_62 (Nat.le_of_ble_eq_true rfl) rfl ?_
    exact hV
set_option maxRecDepth 20000 in
theorem T_146_64 {xs : List Int32} {d : Nat} {S : x_M} {Q : Option Value → x_M → Prop} {a1 : Int32} {a2 : Int32} {a3 : Int32} {a4 : Int32}  (hV : if a2 ≤ a4 then (x_E xs (d + 1) 146 53 [.ref 56, .int a1, .int a2, .int (a3 + 1), .int a4, .null, .null] [] S Q) else ((x_ib a3 112) ∧ ((x_ib a4 112) ∧ (if ((S 66 (Int32.toNatClampNeg a3)) &&& (S 66 (Int32.toNatClampNeg a4))) = a1 then (Q (some (.int 2)) (x_up (x_up S 74 0 a3) 74 1 a4)) else (x_E xs (d + 1) 146 64 [.ref 56, .int a1, .int a2, .int a3, .int (a4 + 1), .null, .null] [] S Q))))) : x_E xs (d + 1) 146 64 [.ref 56, .int a1, .int a2, .int a3, .int a4, .null, .null] [] S Q := by
  refine e_iload f_146_64 rfl ?_
  refine e_iload f_146_66 rfl ?_
  refine e_icmp f_146_67 (fun hc => ?_) (fun hc => ?_)
  · have hc : a2 ≤ a4 := of_decide_eq_true hc
    rw [if_pos hc] at hV
    refine e_inc (c := 1) (L' := [.ref 56, .int a1, .int a2, .int (a3 + 1), .int a4, .null, .null]) f_146_111 rfl (by decide) rfl ?_
    refine e_goto f_146_114 ?_
    exact hV
  · have hc : ¬ a2 ≤ a4 := fun z => hc (decide_eq_true z)
    rw [if_neg hc] at hV
    refine e_aload f_146_70 rfl (by decide) ?_
    refine e_gr (c := 6) (j := 17) (r := 66) f_146_71 (by decide) (by decide) (by decide) (by decide) ?_
    refine e_iload f_146_74 rfl ?_
    obtain ⟨hg, hV⟩ := hV
    refine e_ia (n := 112) f_146_75 (by decide) (by decide) hg ?_
    refine e_aload f_146_76 rfl (by decide) ?_
    refine e_gr (c := 6) (j := 17) (r := 66) f_146_77 (by decide) (by decide) (by decide) (by decide) ?_
    refine e_iload f_146_80 rfl ?_
    obtain ⟨hg, hV⟩ := hV
    refine e_ia (n := 112) f_146_82 (by decide) (by decide) hg ?_
    refine e_iand f_146_83 ?_
    refine e_iload f_146_84 rfl ?_
    refine e_icmp f_146_85 (fun hc => ?_) (fun hc => ?_)
    · have hc : ¬ ((S 66 (Int32.toNatClampNeg a3)) &&& (S 66 (Int32.toNatClampNeg a4))) = a1 := of_decide_eq_true hc
      rw [if_neg hc] at hV
      refine e_inc (c := 1) (L' := [.ref 56, .int a1, .int a2, .int a3, .int (a4 + 1), .null, .null]) f_146_105 rfl (by decide) rfl ?_
      refine e_goto f_146_108 ?_
      exact hV
    · have hc : ((S 66 (Int32.toNatClampNeg a3)) &&& (S 66 (Int32.toNatClampNeg a4))) = a1 := Decidable.not_not.mp (fun z => hc (decide_eq_true z))
      rw [if_pos hc] at hV
      refine e_aload f_146_88 rfl (by decide) ?_
      refine e_gr (c := 6) (j := 26) (r := 74) f_146_89 (by decide) (by decide) (by decide) (by decide) ?_
      refine e_iconst (c := 0) f_146_92 (by decide) ?_
      refine e_iload f_146_93 rfl ?_
      refine e_isk (n := 3) (kk := 0) f_146_94 (by decide) (by decide) (by decide) ?_
      refine e_aload f_146_95 rfl (by decide) ?_
      refine e_gr (c := 6) (j := 26) (r := 74) f_146_96 (by decide) (by decide) (by decide) (by decide) ?_
      refine e_iconst (c := 1) f_146_99 (by decide) ?_
      refine e_iload f_146_100 rfl ?_
      refine e_isk (n := 3) (kk := 1) f_146_102 (by decide) (by decide) (by decide) ?_
      refine e_iconst (c := 2) f_146_103 (by decide) ?_
      exact e_ireturn f_146_104 rt_146 rfl hV
set_option maxRecDepth 20000 in
theorem T_146_119 {xs : List Int32} {d : Nat} {S : x_M} {Q : Option Value → x_M → Prop} {a1 : Int32} {a2 : Int32} {a3 : Int32} {a4 : Value} {a5 : Value} {a6 : Value}  (hV : if a2 ≤ a3 then (Q (some (.int (-1000000))) S) else (∃ P1 : Int32 → x_M → Prop, x_Ci xs d 147 [.int a3] S P1 ∧ ∀ (v1 : Int32) (S1 : x_M), P1 v1 S1 → (x_E xs (d + 1) 146 130 [.ref 56, .int a1, .int a2, .int a3, .int v1, a5, a6] [] S1 Q))) : x_E xs (d + 1) 146 119 [.ref 56, .int a1, .int a2, .int a3, a4, a5, a6] [] S Q := by
  refine e_iload f_146_119 rfl ?_
  refine e_iload f_146_120 rfl ?_
  refine e_icmp f_146_121 (fun hc => ?_) (fun hc => ?_)
  · have hc : a2 ≤ a3 := of_decide_eq_true hc
    rw [if_pos hc] at hV
    refine e_iconst (c := (-1000000)) f_146_230 (by decide) ?_
    exact e_ireturn f_146_232 rt_146 rfl hV
  · have hc : ¬ a2 ≤ a3 := fun z => hc (decide_eq_true z)
    rw [if_neg hc] at hV
    refine e_iload f_146_124 rfl ?_
    obtain ⟨P1, hP1, hV⟩ := hV
    refine e_si (n := 1) (A := [.int a3]) (R := []) f_146_125 na_147 rfl rfl (Nat.le_of_ble_eq_true rfl) (Nat.le_of_ble_eq_true rfl) (by rw [ml_147]; exact Nat.le_of_ble_eq_true rfl) hP1 (fun v1 S1 hp1 => ?_)
    have hV := hV v1 S1 hp1
    refine e_istore (L' := [.ref 56, .int a1, .int a2, .int a3, .int v1, a5, a6]) f_146_128 (Nat.le_of_ble_eq_true rfl) rfl ?_
    exact hV
set_option maxRecDepth 20000 in
theorem T_146_130 {xs : List Int32} {d : Nat} {S : x_M} {Q : Option Value → x_M → Prop} {a1 : Int32} {a2 : Int32} {a3 : Int32} {a4 : Int32} {a5 : Value} {a6 : Value}  (hV : if a2 ≤ a4 then (x_E xs (d + 1) 146 119 [.ref 56, .int a1, .int a2, .int (a3 + 1), .int a4, a5, a6] [] S Q) else ((x_ib a3 112) ∧ ((x_ib a4 112) ∧ (∃ P1 : Int32 → x_M → Prop, x_Ci xs d 147 [.int a4] S P1 ∧ ∀ (v1 : Int32) (S1 : x_M), P1 v1 S1 → (x_E xs (d + 1) 146 159 [.ref 56, .int a1, .int a2, .int a3, .int a4, .int ((S 66 (Int32.toNatClampNeg a3)) &&& (S 66 (Int32.toNatClampNeg a4))), .int v1] [] S1 Q))))) : x_E xs (d + 1) 146 130 [.ref 56, .int a1, .int a2, .int a3, .int a4, a5, a6] [] S Q := by
  refine e_iload f_146_130 rfl ?_
  refine e_iload f_146_132 rfl ?_
  refine e_icmp f_146_133 (fun hc => ?_) (fun hc => ?_)
  · have hc : a2 ≤ a4 := of_decide_eq_true hc
    rw [if_pos hc] at hV
    refine e_inc (c := 1) (L' := [.ref 56, .int a1, .int a2, .int (a3 + 1), .int a4, a5, a6]) f_146_224 rfl (by decide) rfl ?_
    refine e_goto f_146_227 ?_
    exact hV
  · have hc : ¬ a2 ≤ a4 := fun z => hc (decide_eq_true z)
    rw [if_neg hc] at hV
    refine e_aload f_146_136 rfl (by decide) ?_
    refine e_gr (c := 6) (j := 17) (r := 66) f_146_137 (by decide) (by decide) (by decide) (by decide) ?_
    refine e_iload f_146_140 rfl ?_
    obtain ⟨hg, hV⟩ := hV
    refine e_ia (n := 112) f_146_141 (by decide) (by decide) hg ?_
    refine e_aload f_146_142 rfl (by decide) ?_
    refine e_gr (c := 6) (j := 17) (r := 66) f_146_143 (by decide) (by decide) (by decide) (by decide) ?_
    refine e_iload f_146_146 rfl ?_
    obtain ⟨hg, hV⟩ := hV
    refine e_ia (n := 112) f_146_148 (by decide) (by decide) hg ?_
    refine e_iand f_146_149 ?_
    refine e_istore (L' := [.ref 56, .int a1, .int a2, .int a3, .int a4, .int ((S 66 (Int32.toNatClampNeg a3)) &&& (S 66 (Int32.toNatClampNeg a4))), a6]) f_146_150 (Nat.le_of_ble_eq_true rfl) rfl ?_
    refine e_iload f_146_152 rfl ?_
    obtain ⟨P1, hP1, hV⟩ := hV
    refine e_si (n := 1) (A := [.int a4]) (R := []) f_146_154 na_147 rfl rfl (Nat.le_of_ble_eq_true rfl) (Nat.le_of_ble_eq_true rfl) (by rw [ml_147]; exact Nat.le_of_ble_eq_true rfl) hP1 (fun v1 S1 hp1 => ?_)
    have hV := hV v1 S1 hp1
    refine e_istore (L' := [.ref 56, .int a1, .int a2, .int a3, .int a4, .int ((S 66 (Int32.toNatClampNeg a3)) &&& (S 66 (Int32.toNatClampNeg a4))), .int v1]) f_146_157 (Nat.le_of_ble_eq_true rfl) rfl ?_
    exact hV
set_option maxRecDepth 20000 in
theorem T_146_159 {xs : List Int32} {d : Nat} {S : x_M} {Q : Option Value → x_M → Prop} {a1 : Int32} {a2 : Int32} {a3 : Int32} {a4 : Int32} {a5 : Int32} {a6 : Int32}  (hV : if a2 ≤ a6 then (x_E xs (d + 1) 146 130 [.ref 56, .int a1, .int a2, .int a3, .int (a4 + 1), .int a5, .int a6] [] S Q) else (if (a5 &&& a1) = a1 then ((x_ib a6 112) ∧ (if (a5 &&& (S 66 (Int32.toNatClampNeg a6))) = a1 then (Q (some (.int 3)) (x_up (x_up (x_up S 74 0 a3) 74 1 a4) 74 2 a6)) else (x_E xs (d + 1) 146 159 [.ref 56, .int a1, .int a2, .int a3, .int a4, .int a5, .int (a6 + 1)] [] S Q))) else (x_E xs (d + 1) 146 130 [.ref 56, .int a1, .int a2, .int a3, .int (a4 + 1), .int a5, .int a6] [] S Q))) : x_E xs (d + 1) 146 159 [.ref 56, .int a1, .int a2, .int a3, .int a4, .int a5, .int a6] [] S Q := by
  refine e_iload f_146_159 rfl ?_
  refine e_iload f_146_161 rfl ?_
  refine e_icmp f_146_162 (fun hc => ?_) (fun hc => ?_)
  · have hc : a2 ≤ a6 := of_decide_eq_true hc
    rw [if_pos hc] at hV
    refine e_inc (c := 1) (L' := [.ref 56, .int a1, .int a2, .int a3, .int (a4 + 1), .int a5, .int a6]) f_146_218 rfl (by decide) rfl ?_
    refine e_goto f_146_221 ?_
    exact hV
  · have hc : ¬ a2 ≤ a6 := fun z => hc (decide_eq_true z)
    rw [if_neg hc] at hV
    refine e_iload f_146_165 rfl ?_
    refine e_iload f_146_167 rfl ?_
    refine e_iand f_146_168 ?_
    refine e_iload f_146_169 rfl ?_
    refine e_icmp f_146_170 (fun hc => ?_) (fun hc => ?_)
    · have hc : ¬ (a5 &&& a1) = a1 := of_decide_eq_true hc
      rw [if_neg hc] at hV
      refine e_inc (c := 1) (L' := [.ref 56, .int a1, .int a2, .int a3, .int (a4 + 1), .int a5, .int a6]) f_146_218 rfl (by decide) rfl ?_
      refine e_goto f_146_221 ?_
      exact hV
    · have hc : (a5 &&& a1) = a1 := Decidable.not_not.mp (fun z => hc (decide_eq_true z))
      rw [if_pos hc] at hV
      refine e_iload f_146_173 rfl ?_
      refine e_aload f_146_175 rfl (by decide) ?_
      refine e_gr (c := 6) (j := 17) (r := 66) f_146_176 (by decide) (by decide) (by decide) (by decide) ?_
      refine e_iload f_146_179 rfl ?_
      obtain ⟨hg, hV⟩ := hV
      refine e_ia (n := 112) f_146_181 (by decide) (by decide) hg ?_
      refine e_iand f_146_182 ?_
      refine e_iload f_146_183 rfl ?_
      refine e_icmp f_146_184 (fun hc => ?_) (fun hc => ?_)
      · have hc : ¬ (a5 &&& (S 66 (Int32.toNatClampNeg a6))) = a1 := of_decide_eq_true hc
        rw [if_neg hc] at hV
        refine e_inc (c := 1) (L' := [.ref 56, .int a1, .int a2, .int a3, .int a4, .int a5, .int (a6 + 1)]) f_146_212 rfl (by decide) rfl ?_
        refine e_goto f_146_215 ?_
        exact hV
      · have hc : (a5 &&& (S 66 (Int32.toNatClampNeg a6))) = a1 := Decidable.not_not.mp (fun z => hc (decide_eq_true z))
        rw [if_pos hc] at hV
        refine e_aload f_146_187 rfl (by decide) ?_
        refine e_gr (c := 6) (j := 26) (r := 74) f_146_188 (by decide) (by decide) (by decide) (by decide) ?_
        refine e_iconst (c := 0) f_146_191 (by decide) ?_
        refine e_iload f_146_192 rfl ?_
        refine e_isk (n := 3) (kk := 0) f_146_193 (by decide) (by decide) (by decide) ?_
        refine e_aload f_146_194 rfl (by decide) ?_
        refine e_gr (c := 6) (j := 26) (r := 74) f_146_195 (by decide) (by decide) (by decide) (by decide) ?_
        refine e_iconst (c := 1) f_146_198 (by decide) ?_
        refine e_iload f_146_199 rfl ?_
        refine e_isk (n := 3) (kk := 1) f_146_201 (by decide) (by decide) (by decide) ?_
        refine e_aload f_146_202 rfl (by decide) ?_
        refine e_gr (c := 6) (j := 26) (r := 74) f_146_203 (by decide) (by decide) (by decide) (by decide) ?_
        refine e_iconst (c := 2) f_146_206 (by decide) ?_
        refine e_iload f_146_207 rfl ?_
        refine e_isk (n := 3) (kk := 2) f_146_209 (by decide) (by decide) (by decide) ?_
        refine e_iconst (c := 3) f_146_210 (by decide) ?_
        exact e_ireturn f_146_211 rt_146 rfl hV
set_option maxRecDepth 20000 in
theorem T_147_0 {xs : List Int32} {d : Nat} {S : x_M} {Q : Option Value → x_M → Prop} {a0 : Int32}  (hV : Q (some (.int (8 * ((a0 / 8) + 1)))) S) : x_E xs (d + 1) 147 0 [.int a0] [] S Q := by
  refine e_iconst (c := 8) f_147_0 (by decide) ?_
  refine e_iload f_147_2 rfl ?_
  refine e_iconst (c := 8) f_147_3 (by decide) ?_
  refine e_idiv f_147_5 (by decide) ?_
  refine e_iconst (c := 1) f_147_6 (by decide) ?_
  refine e_iadd f_147_7 ?_
  refine e_imul f_147_8 ?_
  exact e_ireturn f_147_9 rt_147 rfl hV
set_option maxRecDepth 20000 in
theorem T_148_0 {xs : List Int32} {d : Nat} {S : x_M} {Q : Option Value → x_M → Prop} {a1 : Int32}  (hV : if (S 57 0) = 0 then (Q (some (.int (-1000002))) S) else (if (-1 : Int32) ≤ a1 then (x_E xs (d + 1) 148 24 [.ref 56, .int a1, .int 0, .int 0, .null, .null] [] S Q) else (Q (some (.int (-1000001))) S))) : x_E xs (d + 1) 148 0 [.ref 56, .int a1, .null, .null, .null, .null] [] S Q := by
  refine e_aload f_148_0 rfl (by decide) ?_
  refine e_gr (c := 6) (j := 0) (r := 57) f_148_1 (by decide) (by decide) (by decide) (by decide) ?_
  refine e_iconst (c := 0) f_148_4 (by decide) ?_
  refine e_iak (n := 99) (kk := 0) f_148_5 (by decide) (by decide) (by decide) ?_
  refine e_if f_148_6 (fun hc => ?_) (fun hc => ?_)
  · have hc : ¬ (S 57 0) = 0 := of_decide_eq_true hc
    rw [if_neg hc] at hV
    refine e_iload f_148_12 rfl ?_
    refine e_iconst (c := (-1)) f_148_13 (by decide) ?_
    refine e_icmp f_148_14 (fun hc => ?_) (fun hc => ?_)
    · have hc : (-1 : Int32) ≤ a1 := of_decide_eq_true hc
      rw [if_pos hc] at hV
      refine e_iconst (c := 0) f_148_20 (by decide) ?_
      refine e_istore (L' := [.ref 56, .int a1, .int 0, .null, .null, .null]) f_148_21 (Nat.le_of_ble_eq_true rfl) rfl ?_
      refine e_iconst (c := 0) f_148_22 (by decide) ?_
      refine e_istore (L' := [.ref 56, .int a1, .int 0, .int 0, .null, .null]) f_148_23 (Nat.le_of_ble_eq_true rfl) rfl ?_
      exact hV
    · have hc : ¬ (-1 : Int32) ≤ a1 := fun z => hc (decide_eq_true z)
      rw [if_neg hc] at hV
      refine e_iconst (c := (-1000001)) f_148_17 (by decide) ?_
      exact e_ireturn f_148_19 rt_148 rfl hV
  · have hc : (S 57 0) = 0 := Decidable.not_not.mp (fun z => hc (decide_eq_true z))
    rw [if_pos hc] at hV
    refine e_iconst (c := (-1000002)) f_148_9 (by decide) ?_
    exact e_ireturn f_148_11 rt_148 rfl hV
set_option maxRecDepth 20000 in
theorem T_148_24 {xs : List Int32} {d : Nat} {S : x_M} {Q : Option Value → x_M → Prop} {a1 : Int32} {a2 : Int32} {a3 : Int32} {a4 : Value} {a5 : Value}  (hV : if (S 57 1) ≤ a3 then (if a1 = (-1) then (Q (some (.int a2)) S) else (Q (some (.int (-1000000))) S)) else (x_E xs (d + 1) 148 39 [.ref 56, .int a1, .int a2, .int a3, .int (a3 + 1), a5] [] S Q)) : x_E xs (d + 1) 148 24 [.ref 56, .int a1, .int a2, .int a3, a4, a5] [] S Q := by
  refine e_iload f_148_24 rfl ?_
  refine e_aload f_148_25 rfl (by decide) ?_
  refine e_gr (c := 6) (j := 0) (r := 57) f_148_26 (by decide) (by decide) (by decide) (by decide) ?_
  refine e_iconst (c := 1) f_148_29 (by decide) ?_
  refine e_iak (n := 99) (kk := 1) f_148_30 (by decide) (by decide) (by decide) ?_
  refine e_icmp f_148_31 (fun hc => ?_) (fun hc => ?_)
  · have hc : (S 57 1) ≤ a3 := of_decide_eq_true hc
    rw [if_pos hc] at hV
    refine e_iload f_148_120 rfl ?_
    refine e_iconst (c := (-1)) f_148_121 (by decide) ?_
    refine e_icmp f_148_122 (fun hc => ?_) (fun hc => ?_)
    · have hc : ¬ a1 = (-1) := of_decide_eq_true hc
      rw [if_neg hc] at hV
      refine e_iconst (c := (-1000000)) f_148_129 (by decide) ?_
      exact e_ireturn f_148_131 rt_148 rfl hV
    · have hc : a1 = (-1) := Decidable.not_not.mp (fun z => hc (decide_eq_true z))
      rw [if_pos hc] at hV
      refine e_iload f_148_125 rfl ?_
      refine e_goto f_148_126 ?_
      exact e_ireturn f_148_131 rt_148 rfl hV
  · have hc : ¬ (S 57 1) ≤ a3 := fun z => hc (decide_eq_true z)
    rw [if_neg hc] at hV
    refine e_iload f_148_34 rfl ?_
    refine e_iconst (c := 1) f_148_35 (by decide) ?_
    refine e_iadd f_148_36 ?_
    refine e_istore (L' := [.ref 56, .int a1, .int a2, .int a3, .int (a3 + 1), a5]) f_148_37 (Nat.le_of_ble_eq_true rfl) rfl ?_
    exact hV
set_option maxRecDepth 20000 in
theorem T_148_39 {xs : List Int32} {d : Nat} {S : x_M} {Q : Option Value → x_M → Prop} {a1 : Int32} {a2 : Int32} {a3 : Int32} {a4 : Int32} {a5 : Value}  (hV : if (S 57 1) ≤ a4 then (x_E xs (d + 1) 148 24 [.ref 56, .int a1, .int a2, .int (a3 + 1), .int a4, a5] [] S Q) else (x_E xs (d + 1) 148 56 [.ref 56, .int a1, .int a2, .int a3, .int a4, .int (a4 + 1)] [] S Q)) : x_E xs (d + 1) 148 39 [.ref 56, .int a1, .int a2, .int a3, .int a4, a5] [] S Q := by
  refine e_iload f_148_39 rfl ?_
  refine e_aload f_148_41 rfl (by decide) ?_
  refine e_gr (c := 6) (j := 0) (r := 57) f_148_42 (by decide) (by decide) (by decide) (by decide) ?_
  refine e_iconst (c := 1) f_148_45 (by decide) ?_
  refine e_iak (n := 99) (kk := 1) f_148_46 (by decide) (by decide) (by decide) ?_
  refine e_icmp f_148_47 (fun hc => ?_) (fun hc => ?_)
  · have hc : (S 57 1) ≤ a4 := of_decide_eq_true hc
    rw [if_pos hc] at hV
    refine e_inc (c := 1) (L' := [.ref 56, .int a1, .int a2, .int (a3 + 1), .int a4, a5]) f_148_114 rfl (by decide) rfl ?_
    refine e_goto f_148_117 ?_
    exact hV
  · have hc : ¬ (S 57 1) ≤ a4 := fun z => hc (decide_eq_true z)
    rw [if_neg hc] at hV
    refine e_iload f_148_50 rfl ?_
    refine e_iconst (c := 1) f_148_52 (by decide) ?_
    refine e_iadd f_148_53 ?_
    refine e_istore (L' := [.ref 56, .int a1, .int a2, .int a3, .int a4, .int (a4 + 1)]) f_148_54 (Nat.le_of_ble_eq_true rfl) rfl ?_
    exact hV
set_option maxRecDepth 20000 in
theorem T_148_56 {xs : List Int32} {d : Nat} {S : x_M} {Q : Option Value → x_M → Prop} {a1 : Int32} {a2 : Int32} {a3 : Int32} {a4 : Int32} {a5 : Int32}  (hV : if (S 57 1) ≤ a5 then (x_E xs (d + 1) 148 39 [.ref 56, .int a1, .int a2, .int a3, .int (a4 + 1), .int a5] [] S Q) else (∃ P1 : Int32 → x_M → Prop, x_Ci xs d 149 [.ref 56, .int a3, .int a4, .int a5] S P1 ∧ ∀ (v1 : Int32) (S1 : x_M), P1 v1 S1 → (if v1 = 0 then (x_E xs (d + 1) 148 56 [.ref 56, .int a1, .int a2, .int a3, .int a4, .int (a5 + 1)] [] S1 Q) else (if a2 = a1 then (Q (some (.int (((400 * a3) + (20 * a4)) + a5))) S1) else (x_E xs (d + 1) 148 56 [.ref 56, .int a1, .int (a2 + 1), .int a3, .int a4, .int (a5 + 1)] [] S1 Q))))) : x_E xs (d + 1) 148 56 [.ref 56, .int a1, .int a2, .int a3, .int a4, .int a5] [] S Q := by
  refine e_iload f_148_56 rfl ?_
  refine e_aload f_148_58 rfl (by decide) ?_
  refine e_gr (c := 6) (j := 0) (r := 57) f_148_59 (by decide) (by decide) (by decide) (by decide) ?_
  refine e_iconst (c := 1) f_148_62 (by decide) ?_
  refine e_iak (n := 99) (kk := 1) f_148_63 (by decide) (by decide) (by decide) ?_
  refine e_icmp f_148_64 (fun hc => ?_) (fun hc => ?_)
  · have hc : (S 57 1) ≤ a5 := of_decide_eq_true hc
    rw [if_pos hc] at hV
    refine e_inc (c := 1) (L' := [.ref 56, .int a1, .int a2, .int a3, .int (a4 + 1), .int a5]) f_148_108 rfl (by decide) rfl ?_
    refine e_goto f_148_111 ?_
    exact hV
  · have hc : ¬ (S 57 1) ≤ a5 := fun z => hc (decide_eq_true z)
    rw [if_neg hc] at hV
    refine e_aload f_148_67 rfl (by decide) ?_
    refine e_iload f_148_68 rfl ?_
    refine e_iload f_148_69 rfl ?_
    refine e_iload f_148_71 rfl ?_
    obtain ⟨P1, hP1, hV⟩ := hV
    refine e_vi (n := 4) (A := [.ref 56, .int a3, .int a4, .int a5]) (R := []) f_148_73 na_149 rfl rfl (Nat.le_of_ble_eq_true rfl) (Nat.le_of_ble_eq_true rfl) (by rw [ml_149]; exact Nat.le_of_ble_eq_true rfl) rfl (by rw [cy_149]; decide) (by rw [cy_149]; exact (by decide : x_tg 56 = 6)) hP1 (fun v1 S1 hp1 => ?_)
    have hV := hV v1 S1 hp1
    refine e_if f_148_76 (fun hc => ?_) (fun hc => ?_)
    · have hc : v1 = 0 := of_decide_eq_true hc
      rw [if_pos hc] at hV
      refine e_inc (c := 1) (L' := [.ref 56, .int a1, .int a2, .int a3, .int a4, .int (a5 + 1)]) f_148_102 rfl (by decide) rfl ?_
      refine e_goto f_148_105 ?_
      exact hV
    · have hc : ¬ v1 = 0 := fun z => hc (decide_eq_true z)
      rw [if_neg hc] at hV
      refine e_iload f_148_79 rfl ?_
      refine e_iload f_148_80 rfl ?_
      refine e_icmp f_148_81 (fun hc => ?_) (fun hc => ?_)
      · have hc : ¬ a2 = a1 := of_decide_eq_true hc
        rw [if_neg hc] at hV
        refine e_inc (c := 1) (L' := [.ref 56, .int a1, .int (a2 + 1), .int a3, .int a4, .int a5]) f_148_99 rfl (by decide) rfl ?_
        refine e_inc (c := 1) (L' := [.ref 56, .int a1, .int (a2 + 1), .int a3, .int a4, .int (a5 + 1)]) f_148_102 rfl (by decide) rfl ?_
        refine e_goto f_148_105 ?_
        exact hV
      · have hc : a2 = a1 := Decidable.not_not.mp (fun z => hc (decide_eq_true z))
        rw [if_pos hc] at hV
        refine e_iconst (c := 400) f_148_84 (by decide) ?_
        refine e_iload f_148_87 rfl ?_
        refine e_imul f_148_88 ?_
        refine e_iconst (c := 20) f_148_89 (by decide) ?_
        refine e_iload f_148_91 rfl ?_
        refine e_imul f_148_93 ?_
        refine e_iadd f_148_94 ?_
        refine e_iload f_148_95 rfl ?_
        refine e_iadd f_148_97 ?_
        exact e_ireturn f_148_98 rt_148 rfl hV
set_option maxRecDepth 20000 in
theorem T_149_0 {xs : List Int32} {d : Nat} {S : x_M} {Q : Option Value → x_M → Prop} {a1 : Int32} {a2 : Int32} {a3 : Int32}  (hV : x_E xs (d + 1) 149 6 [.ref 56, .int a1, .int a2, .int a3, .int 0, .int 0] [] S Q) : x_E xs (d + 1) 149 0 [.ref 56, .int a1, .int a2, .int a3, .null, .null] [] S Q := by
  refine e_iconst (c := 0) f_149_0 (by decide) ?_
  refine e_istore (L' := [.ref 56, .int a1, .int a2, .int a3, .int 0, .null]) f_149_1 (Nat.le_of_ble_eq_true rfl) rfl ?_
  refine e_iconst (c := 0) f_149_3 (by decide) ?_
  refine e_istore (L' := [.ref 56, .int a1, .int a2, .int a3, .int 0, .int 0]) f_149_4 (Nat.le_of_ble_eq_true rfl) rfl ?_
  exact hV
set_option maxRecDepth 20000 in
theorem T_149_6 {xs : List Int32} {d : Nat} {S : x_M} {Q : Option Value → x_M → Prop} {a1 : Int32} {a2 : Int32} {a3 : Int32} {a4 : Int32} {a5 : Int32}  (hV : if (64 : Int32) ≤ a5 then ((a4 = 0 ∨ a4 = 1) ∧ Q (some (.int a4)) S) else (if a4 = 0 then ((x_ib (8 * a1) 112) ∧ ((x_ib ((8 * a2) + (a5 / 8)) 112) ∧ ((x_ib ((8 * a3) + (a5 - a5 / 8 * 8)) 112) ∧ (if (((S 66 (Int32.toNatClampNeg (8 * a1))) &&& (S 66 (Int32.toNatClampNeg ((8 * a2) + (a5 / 8))))) &&& (S 66 (Int32.toNatClampNeg ((8 * a3) + (a5 - a5 / 8 * 8))))) = 0 then (x_E xs (d + 1) 149 6 [.ref 56, .int a1, .int a2, .int a3, .int 1, .int (a5 + 1)] [] S Q) else (x_E xs (d + 1) 149 6 [.ref 56, .int a1, .int a2, .int a3, .int 0, .int (a5 + 1)] [] S Q))))) else (x_E xs (d + 1) 149 6 [.ref 56, .int a1, .int a2, .int a3, .int 1, .int (a5 + 1)] [] S Q))) : x_E xs (d + 1) 149 6 [.ref 56, .int a1, .int a2, .int a3, .int a4, .int a5] [] S Q := by
  refine e_iload f_149_6 rfl ?_
  refine e_iconst (c := 64) f_149_8 (by decide) ?_
  refine e_icmp f_149_10 (fun hc => ?_) (fun hc => ?_)
  · have hc : (64 : Int32) ≤ a5 := of_decide_eq_true hc
    rw [if_pos hc] at hV
    refine e_iload f_149_75 rfl ?_
    obtain ⟨hg, hV⟩ := hV
    exact e_ireturn f_149_77 rt_149 (x_nz hg) hV
  · have hc : ¬ (64 : Int32) ≤ a5 := fun z => hc (decide_eq_true z)
    rw [if_neg hc] at hV
    refine e_iload f_149_13 rfl ?_
    refine e_if f_149_15 (fun hc => ?_) (fun hc => ?_)
    · have hc : ¬ a4 = 0 := of_decide_eq_true hc
      rw [if_neg hc] at hV
      refine e_iconst (c := 1) f_149_62 (by decide) ?_
      refine e_goto f_149_63 ?_
      refine e_istore (L' := [.ref 56, .int a1, .int a2, .int a3, .int 1, .int a5]) f_149_67 (Nat.le_of_ble_eq_true rfl) rfl ?_
      refine e_inc (c := 1) (L' := [.ref 56, .int a1, .int a2, .int a3, .int 1, .int (a5 + 1)]) f_149_69 rfl (by decide) rfl ?_
      refine e_goto f_149_72 ?_
      exact hV
    · have hc : a4 = 0 := Decidable.not_not.mp (fun z => hc (decide_eq_true z))
      rw [if_pos hc] at hV
      refine e_aload f_149_18 rfl (by decide) ?_
      refine e_gr (c := 6) (j := 17) (r := 66) f_149_19 (by decide) (by decide) (by decide) (by decide) ?_
      refine e_iconst (c := 8) f_149_22 (by decide) ?_
      refine e_iload f_149_24 rfl ?_
      refine e_imul f_149_25 ?_
      obtain ⟨hg, hV⟩ := hV
      refine e_ia (n := 112) f_149_26 (by decide) (by decide) hg ?_
      refine e_aload f_149_27 rfl (by decide) ?_
      refine e_gr (c := 6) (j := 17) (r := 66) f_149_28 (by decide) (by decide) (by decide) (by decide) ?_
      refine e_iconst (c := 8) f_149_31 (by decide) ?_
      refine e_iload f_149_33 rfl ?_
      refine e_imul f_149_34 ?_
      refine e_iload f_149_35 rfl ?_
      refine e_iconst (c := 8) f_149_37 (by decide) ?_
      refine e_idiv f_149_39 (by decide) ?_
      refine e_iadd f_149_40 ?_
      obtain ⟨hg, hV⟩ := hV
      refine e_ia (n := 112) f_149_41 (by decide) (by decide) hg ?_
      refine e_iand f_149_42 ?_
      refine e_aload f_149_43 rfl (by decide) ?_
      refine e_gr (c := 6) (j := 17) (r := 66) f_149_44 (by decide) (by decide) (by decide) (by decide) ?_
      refine e_iconst (c := 8) f_149_47 (by decide) ?_
      refine e_iload f_149_49 rfl ?_
      refine e_imul f_149_50 ?_
      refine e_iload f_149_51 rfl ?_
      refine e_iconst (c := 8) f_149_53 (by decide) ?_
      refine e_irem f_149_55 (by decide) ?_
      refine e_iadd f_149_56 ?_
      obtain ⟨hg, hV⟩ := hV
      refine e_ia (n := 112) f_149_57 (by decide) (by decide) hg ?_
      refine e_iand f_149_58 ?_
      refine e_if f_149_59 (fun hc => ?_) (fun hc => ?_)
      · have hc : ¬ (((S 66 (Int32.toNatClampNeg (8 * a1))) &&& (S 66 (Int32.toNatClampNeg ((8 * a2) + (a5 / 8))))) &&& (S 66 (Int32.toNatClampNeg ((8 * a3) + (a5 - a5 / 8 * 8))))) = 0 := of_decide_eq_true hc
        rw [if_neg hc] at hV
        refine e_iconst (c := 0) f_149_66 (by decide) ?_
        refine e_istore (L' := [.ref 56, .int a1, .int a2, .int a3, .int 0, .int a5]) f_149_67 (Nat.le_of_ble_eq_true rfl) rfl ?_
        refine e_inc (c := 1) (L' := [.ref 56, .int a1, .int a2, .int a3, .int 0, .int (a5 + 1)]) f_149_69 rfl (by decide) rfl ?_
        refine e_goto f_149_72 ?_
        exact hV
      · have hc : (((S 66 (Int32.toNatClampNeg (8 * a1))) &&& (S 66 (Int32.toNatClampNeg ((8 * a2) + (a5 / 8))))) &&& (S 66 (Int32.toNatClampNeg ((8 * a3) + (a5 - a5 / 8 * 8))))) = 0 := Decidable.not_not.mp (fun z => hc (decide_eq_true z))
        rw [if_pos hc] at hV
        refine e_iconst (c := 1) f_149_62 (by decide) ?_
        refine e_goto f_149_63 ?_
        refine e_istore (L' := [.ref 56, .int a1, .int a2, .int a3, .int 1, .int a5]) f_149_67 (Nat.le_of_ble_eq_true rfl) rfl ?_
        refine e_inc (c := 1) (L' := [.ref 56, .int a1, .int a2, .int a3, .int 1, .int (a5 + 1)]) f_149_69 rfl (by decide) rfl ?_
        refine e_goto f_149_72 ?_
        exact hV
set_option maxRecDepth 20000 in
theorem T_150_0 {xs : List Int32} {d : Nat} {S : x_M} {Q : Option Value → x_M → Prop} {a1 : Int32} {a2 : Int32}  (hV : ∃ P1 : Int32 → x_M → Prop, x_Ci xs d 125 [.ref 56, .int a1] S P1 ∧ ∀ (v1 : Int32) (S1 : x_M), P1 v1 S1 → (if v1 = 0 then (Q (some (.int (-1000001))) S1) else (∃ P2 : Int32 → x_M → Prop, x_Ci xs d 101 [.long (Int32.toInt64 a2), .long 0, .long 1] S1 P2 ∧ ∀ (v2 : Int32) (S2 : x_M), P2 v2 S2 → (if v2 = 0 then (Q (some (.int (-1000001))) S2) else (if a2 = 1 then (∃ P4 : Int32 → x_M → Prop, x_Ci xs d 151 [.ref 56, .int a1] S2 P4 ∧ ∀ (v4 : Int32) (S4 : x_M), P4 v4 S4 → (Q (some (.int v4)) S4)) else (∃ P3 : Int32 → x_M → Prop, x_Ci xs d 152 [.ref 56, .int a1] S2 P3 ∧ ∀ (v3 : Int32) (S3 : x_M), P3 v3 S3 → (x_E xs (d + 1) 150 44 [.ref 56, .int a1, .int a2, .int v3, .int 0, .int 0] [] S3 Q))))))) : x_E xs (d + 1) 150 0 [.ref 56, .int a1, .int a2, .null, .null, .null] [] S Q := by
  refine e_aload f_150_0 rfl (by decide) ?_
  refine e_iload f_150_1 rfl ?_
  obtain ⟨P1, hP1, hV⟩ := hV
  refine e_vi (n := 2) (A := [.ref 56, .int a1]) (R := []) f_150_2 na_125 rfl rfl (Nat.le_of_ble_eq_true rfl) (Nat.le_of_ble_eq_true rfl) (by rw [ml_125]; exact Nat.le_of_ble_eq_true rfl) rfl (by rw [cy_125]; decide) (by rw [cy_125]; exact (by decide : x_tg 56 = 6)) hP1 (fun v1 S1 hp1 => ?_)
  have hV := hV v1 S1 hp1
  refine e_if f_150_5 (fun hc => ?_) (fun hc => ?_)
  · have hc : v1 = 0 := of_decide_eq_true hc
    rw [if_pos hc] at hV
    refine e_iconst (c := (-1000001)) f_150_18 (by decide) ?_
    exact e_ireturn f_150_20 rt_150 rfl hV
  · have hc : ¬ v1 = 0 := fun z => hc (decide_eq_true z)
    rw [if_neg hc] at hV
    refine e_iload f_150_8 rfl ?_
    refine e_i2l f_150_9 ?_
    refine e_lconst (c := 0) f_150_10 (by decide) ?_
    refine e_lconst (c := 1) f_150_11 (by decide) ?_
    obtain ⟨P2, hP2, hV⟩ := hV
    refine e_si (n := 3) (A := [.long (Int32.toInt64 a2), .long 0, .long 1]) (R := []) f_150_12 na_101 rfl rfl (Nat.le_of_ble_eq_true rfl) (Nat.le_of_ble_eq_true rfl) (by rw [ml_101]; exact Nat.le_of_ble_eq_true rfl) hP2 (fun v2 S2 hp2 => ?_)
    have hV := hV v2 S2 hp2
    refine e_if f_150_15 (fun hc => ?_) (fun hc => ?_)
    · have hc : ¬ v2 = 0 := of_decide_eq_true hc
      rw [if_neg hc] at hV
      refine e_iload f_150_21 rfl ?_
      refine e_iconst (c := 1) f_150_22 (by decide) ?_
      refine e_icmp f_150_23 (fun hc => ?_) (fun hc => ?_)
      · have hc : ¬ a2 = 1 := of_decide_eq_true hc
        rw [if_neg hc] at hV
        refine e_aload f_150_32 rfl (by decide) ?_
        refine e_iload f_150_33 rfl ?_
        obtain ⟨P3, hP3, hV⟩ := hV
        refine e_vi (n := 2) (A := [.ref 56, .int a1]) (R := []) f_150_34 na_152 rfl rfl (Nat.le_of_ble_eq_true rfl) (Nat.le_of_ble_eq_true rfl) (by rw [ml_152]; exact Nat.le_of_ble_eq_true rfl) rfl (by rw [cy_152]; decide) (by rw [cy_152]; exact (by decide : x_tg 56 = 6)) hP3 (fun v3 S3 hp3 => ?_)
        have hV := hV v3 S3 hp3
        refine e_istore (L' := [.ref 56, .int a1, .int a2, .int v3, .null, .null]) f_150_37 (Nat.le_of_ble_eq_true rfl) rfl ?_
        refine e_iconst (c := 0) f_150_38 (by decide) ?_
        refine e_istore (L' := [.ref 56, .int a1, .int a2, .int v3, .int 0, .null]) f_150_39 (Nat.le_of_ble_eq_true rfl) rfl ?_
        refine e_iconst (c := 0) f_150_41 (by decide) ?_
        refine e_istore (L' := [.ref 56, .int a1, .int a2, .int v3, .int 0, .int 0]) f_150_42 (Nat.le_of_ble_eq_true rfl) rfl ?_
        exact hV
      · have hc : a2 = 1 := Decidable.not_not.mp (fun z => hc (decide_eq_true z))
        rw [if_pos hc] at hV
        refine e_aload f_150_26 rfl (by decide) ?_
        refine e_iload f_150_27 rfl ?_
        obtain ⟨P4, hP4, hV⟩ := hV
        refine e_vi (n := 2) (A := [.ref 56, .int a1]) (R := []) f_150_28 na_151 rfl rfl (Nat.le_of_ble_eq_true rfl) (Nat.le_of_ble_eq_true rfl) (by rw [ml_151]; exact Nat.le_of_ble_eq_true rfl) rfl (by rw [cy_151]; decide) (by rw [cy_151]; exact (by decide : x_tg 56 = 6)) hP4 (fun v4 S4 hp4 => ?_)
        have hV := hV v4 S4 hp4
        exact e_ireturn f_150_31 rt_150 rfl hV
    · have hc : v2 = 0 := Decidable.not_not.mp (fun z => hc (decide_eq_true z))
      rw [if_pos hc] at hV
      refine e_iconst (c := (-1000001)) f_150_18 (by decide) ?_
      exact e_ireturn f_150_20 rt_150 rfl hV
set_option maxRecDepth 20000 in
theorem T_150_44 {xs : List Int32} {d : Nat} {S : x_M} {Q : Option Value → x_M → Prop} {a1 : Int32} {a2 : Int32} {a3 : Int32} {a4 : Int32} {a5 : Int32}  (hV : if a3 ≤ a5 then (Q (some (.int a4)) S) else (∃ P1 : Int32 → x_M → Prop, x_Ci xs d 152 [.ref 56, .int a5] S P1 ∧ ∀ (v1 : Int32) (S1 : x_M), P1 v1 S1 → (if v1 = a5 then (x_E xs (d + 1) 150 44 [.ref 56, .int a1, .int a2, .int a3, .int (a4 + 1), .int (a5 + 1)] [] S1 Q) else (x_E xs (d + 1) 150 44 [.ref 56, .int a1, .int a2, .int a3, .int (a4 + 0), .int (a5 + 1)] [] S1 Q)))) : x_E xs (d + 1) 150 44 [.ref 56, .int a1, .int a2, .int a3, .int a4, .int a5] [] S Q := by
  refine e_iload f_150_44 rfl ?_
  refine e_iload f_150_46 rfl ?_
  refine e_icmp f_150_47 (fun hc => ?_) (fun hc => ?_)
  · have hc : a3 ≤ a5 := of_decide_eq_true hc
    rw [if_pos hc] at hV
    refine e_iload f_150_77 rfl ?_
    exact e_ireturn f_150_79 rt_150 rfl hV
  · have hc : ¬ a3 ≤ a5 := fun z => hc (decide_eq_true z)
    rw [if_neg hc] at hV
    refine e_iload f_150_50 rfl ?_
    refine e_aload f_150_52 rfl (by decide) ?_
    refine e_iload f_150_53 rfl ?_
    obtain ⟨P1, hP1, hV⟩ := hV
    refine e_vi (n := 2) (A := [.ref 56, .int a5]) (R := [.int a4]) f_150_55 na_152 rfl rfl (Nat.le_of_ble_eq_true rfl) (Nat.le_of_ble_eq_true rfl) (by rw [ml_152]; exact Nat.le_of_ble_eq_true rfl) rfl (by rw [cy_152]; decide) (by rw [cy_152]; exact (by decide : x_tg 56 = 6)) hP1 (fun v1 S1 hp1 => ?_)
    have hV := hV v1 S1 hp1
    refine e_iload f_150_58 rfl ?_
    refine e_icmp f_150_60 (fun hc => ?_) (fun hc => ?_)
    · have hc : ¬ v1 = a5 := of_decide_eq_true hc
      rw [if_neg hc] at hV
      refine e_iconst (c := 0) f_150_67 (by decide) ?_
      refine e_iadd f_150_68 ?_
      refine e_istore (L' := [.ref 56, .int a1, .int a2, .int a3, .int (a4 + 0), .int a5]) f_150_69 (Nat.le_of_ble_eq_true rfl) rfl ?_
      refine e_inc (c := 1) (L' := [.ref 56, .int a1, .int a2, .int a3, .int (a4 + 0), .int (a5 + 1)]) f_150_71 rfl (by decide) rfl ?_
      refine e_goto f_150_74 ?_
      exact hV
    · have hc : v1 = a5 := Decidable.not_not.mp (fun z => hc (decide_eq_true z))
      rw [if_pos hc] at hV
      refine e_iconst (c := 1) f_150_63 (by decide) ?_
      refine e_goto f_150_64 ?_
      refine e_iadd f_150_68 ?_
      refine e_istore (L' := [.ref 56, .int a1, .int a2, .int a3, .int (a4 + 1), .int a5]) f_150_69 (Nat.le_of_ble_eq_true rfl) rfl ?_
      refine e_inc (c := 1) (L' := [.ref 56, .int a1, .int a2, .int a3, .int (a4 + 1), .int (a5 + 1)]) f_150_71 rfl (by decide) rfl ?_
      refine e_goto f_150_74 ?_
      exact hV
set_option maxRecDepth 20000 in
theorem T_151_0 {xs : List Int32} {d : Nat} {S : x_M} {Q : Option Value → x_M → Prop} {a1 : Int32}  (hV : x_E xs (d + 1) 151 4 [.ref 56, .int a1, .int 0, .int 0, .null, .null] [] S Q) : x_E xs (d + 1) 151 0 [.ref 56, .int a1, .null, .null, .null, .null] [] S Q := by
  refine e_iconst (c := 0) f_151_0 (by decide) ?_
  refine e_istore (L' := [.ref 56, .int a1, .int 0, .null, .null, .null]) f_151_1 (Nat.le_of_ble_eq_true rfl) rfl ?_
  refine e_iconst (c := 0) f_151_2 (by decide) ?_
  refine e_istore (L' := [.ref 56, .int a1, .int 0, .int 0, .null, .null]) f_151_3 (Nat.le_of_ble_eq_true rfl) rfl ?_
  exact hV
set_option maxRecDepth 20000 in
theorem T_151_4 {xs : List Int32} {d : Nat} {S : x_M} {Q : Option Value → x_M → Prop} {a1 : Int32} {a2 : Int32} {a3 : Int32} {a4 : Value} {a5 : Value}  (hV : if (8 : Int32) ≤ a3 then (Q (some (.int a2)) S) else (x_E xs (d + 1) 151 16 [.ref 56, .int a1, .int a2, .int a3, .int 1, .int 0] [] S Q)) : x_E xs (d + 1) 151 4 [.ref 56, .int a1, .int a2, .int a3, a4, a5] [] S Q := by
  refine e_iload f_151_4 rfl ?_
  refine e_iconst (c := 8) f_151_5 (by decide) ?_
  refine e_icmp f_151_7 (fun hc => ?_) (fun hc => ?_)
  · have hc : (8 : Int32) ≤ a3 := of_decide_eq_true hc
    rw [if_pos hc] at hV
    refine e_iload f_151_85 rfl ?_
    exact e_ireturn f_151_86 rt_151 rfl hV
  · have hc : ¬ (8 : Int32) ≤ a3 := fun z => hc (decide_eq_true z)
    rw [if_neg hc] at hV
    refine e_iconst (c := 1) f_151_10 (by decide) ?_
    refine e_istore (L' := [.ref 56, .int a1, .int a2, .int a3, .int 1, a5]) f_151_11 (Nat.le_of_ble_eq_true rfl) rfl ?_
    refine e_iconst (c := 0) f_151_13 (by decide) ?_
    refine e_istore (L' := [.ref 56, .int a1, .int a2, .int a3, .int 1, .int 0]) f_151_14 (Nat.le_of_ble_eq_true rfl) rfl ?_
    exact hV
set_option maxRecDepth 20000 in
theorem T_151_16 {xs : List Int32} {d : Nat} {S : x_M} {Q : Option Value → x_M → Prop} {a1 : Int32} {a2 : Int32} {a3 : Int32} {a4 : Int32} {a5 : Int32}  (hV : if a3 ≤ a5 then (if a4 = 0 then (x_E xs (d + 1) 151 4 [.ref 56, .int a1, .int (a2 + 0), .int (a3 + 1), .int a4, .int a5] [] S Q) else (x_E xs (d + 1) 151 4 [.ref 56, .int a1, .int (a2 + 1), .int (a3 + 1), .int a4, .int a5] [] S Q)) else (if a4 = 0 then (x_E xs (d + 1) 151 16 [.ref 56, .int a1, .int a2, .int a3, .int 0, .int (a5 + 1)] [] S Q) else ((x_ib ((8 * a1) + a5) 112) ∧ ((x_ib ((8 * a1) + a3) 112) ∧ (if (S 66 (Int32.toNatClampNeg ((8 * a1) + a5))) = (S 66 (Int32.toNatClampNeg ((8 * a1) + a3))) then (x_E xs (d + 1) 151 16 [.ref 56, .int a1, .int a2, .int a3, .int 0, .int (a5 + 1)] [] S Q) else (x_E xs (d + 1) 151 16 [.ref 56, .int a1, .int a2, .int a3, .int 1, .int (a5 + 1)] [] S Q)))))) : x_E xs (d + 1) 151 16 [.ref 56, .int a1, .int a2, .int a3, .int a4, .int a5] [] S Q := by
  refine e_iload f_151_16 rfl ?_
  refine e_iload f_151_18 rfl ?_
  refine e_icmp f_151_19 (fun hc => ?_) (fun hc => ?_)
  · have hc : a3 ≤ a5 := of_decide_eq_true hc
    rw [if_pos hc] at hV
    refine e_iload f_151_66 rfl ?_
    refine e_iload f_151_67 rfl ?_
    refine e_if f_151_69 (fun hc => ?_) (fun hc => ?_)
    · have hc : a4 = 0 := of_decide_eq_true hc
      rw [if_pos hc] at hV
      refine e_iconst (c := 0) f_151_76 (by decide) ?_
      refine e_iadd f_151_77 ?_
      refine e_istore (L' := [.ref 56, .int a1, .int (a2 + 0), .int a3, .int a4, .int a5]) f_151_78 (Nat.le_of_ble_eq_true rfl) rfl ?_
      refine e_inc (c := 1) (L' := [.ref 56, .int a1, .int (a2 + 0), .int (a3 + 1), .int a4, .int a5]) f_151_79 rfl (by decide) rfl ?_
      refine e_goto f_151_82 ?_
      exact hV
    · have hc : ¬ a4 = 0 := fun z => hc (decide_eq_true z)
      rw [if_neg hc] at hV
      refine e_iconst (c := 1) f_151_72 (by decide) ?_
      refine e_goto f_151_73 ?_
      refine e_iadd f_151_77 ?_
      refine e_istore (L' := [.ref 56, .int a1, .int (a2 + 1), .int a3, .int a4, .int a5]) f_151_78 (Nat.le_of_ble_eq_true rfl) rfl ?_
      refine e_inc (c := 1) (L' := [.ref 56, .int a1, .int (a2 + 1), .int (a3 + 1), .int a4, .int a5]) f_151_79 rfl (by decide) rfl ?_
      refine e_goto f_151_82 ?_
      exact hV
  · have hc : ¬ a3 ≤ a5 := fun z => hc (decide_eq_true z)
    rw [if_neg hc] at hV
    refine e_iload f_151_22 rfl ?_
    refine e_if f_151_24 (fun hc => ?_) (fun hc => ?_)
    · have hc : a4 = 0 := of_decide_eq_true hc
      rw [if_pos hc] at hV
      refine e_iconst (c := 0) f_151_57 (by decide) ?_
      refine e_istore (L' := [.ref 56, .int a1, .int a2, .int a3, .int 0, .int a5]) f_151_58 (Nat.le_of_ble_eq_true rfl) rfl ?_
      refine e_inc (c := 1) (L' := [.ref 56, .int a1, .int a2, .int a3, .int 0, .int (a5 + 1)]) f_151_60 rfl (by decide) rfl ?_
      refine e_goto f_151_63 ?_
      exact hV
    · have hc : ¬ a4 = 0 := fun z => hc (decide_eq_true z)
      rw [if_neg hc] at hV
      refine e_aload f_151_27 rfl (by decide) ?_
      refine e_gr (c := 6) (j := 17) (r := 66) f_151_28 (by decide) (by decide) (by decide) (by decide) ?_
      refine e_iconst (c := 8) f_151_31 (by decide) ?_
      refine e_iload f_151_33 rfl ?_
      refine e_imul f_151_34 ?_
      refine e_iload f_151_35 rfl ?_
      refine e_iadd f_151_37 ?_
      obtain ⟨hg, hV⟩ := hV
      refine e_ia (n := 112) f_151_38 (by decide) (by decide) hg ?_
      refine e_aload f_151_39 rfl (by decide) ?_
      refine e_gr (c := 6) (j := 17) (r := 66) f_151_40 (by decide) (by decide) (by decide) (by decide) ?_
      refine e_iconst (c := 8) f_151_43 (by decide) ?_
      refine e_iload f_151_45 rfl ?_
      refine e_imul f_151_46 ?_
      refine e_iload f_151_47 rfl ?_
      refine e_iadd f_151_48 ?_
      obtain ⟨hg, hV⟩ := hV
      refine e_ia (n := 112) f_151_49 (by decide) (by decide) hg ?_
      refine e_icmp f_151_50 (fun hc => ?_) (fun hc => ?_)
      · have hc : (S 66 (Int32.toNatClampNeg ((8 * a1) + a5))) = (S 66 (Int32.toNatClampNeg ((8 * a1) + a3))) := of_decide_eq_true hc
        rw [if_pos hc] at hV
        refine e_iconst (c := 0) f_151_57 (by decide) ?_
        refine e_istore (L' := [.ref 56, .int a1, .int a2, .int a3, .int 0, .int a5]) f_151_58 (Nat.le_of_ble_eq_true rfl) rfl ?_
        refine e_inc (c := 1) (L' := [.ref 56, .int a1, .int a2, .int a3, .int 0, .int (a5 + 1)]) f_151_60 rfl (by decide) rfl ?_
        refine e_goto f_151_63 ?_
        exact hV
      · have hc : ¬ (S 66 (Int32.toNatClampNeg ((8 * a1) + a5))) = (S 66 (Int32.toNatClampNeg ((8 * a1) + a3))) := fun z => hc (decide_eq_true z)
        rw [if_neg hc] at hV
        refine e_iconst (c := 1) f_151_53 (by decide) ?_
        refine e_goto f_151_54 ?_
        refine e_istore (L' := [.ref 56, .int a1, .int a2, .int a3, .int 1, .int a5]) f_151_58 (Nat.le_of_ble_eq_true rfl) rfl ?_
        refine e_inc (c := 1) (L' := [.ref 56, .int a1, .int a2, .int a3, .int 1, .int (a5 + 1)]) f_151_60 rfl (by decide) rfl ?_
        refine e_goto f_151_63 ?_
        exact hV
set_option maxRecDepth 20000 in
theorem T_152_0 {xs : List Int32} {d : Nat} {S : x_M} {Q : Option Value → x_M → Prop} {a1 : Int32}  (hV : x_E xs (d + 1) 152 2 [.ref 56, .int a1, .int 0] [] S Q) : x_E xs (d + 1) 152 0 [.ref 56, .int a1, .null] [] S Q := by
  refine e_iconst (c := 0) f_152_0 (by decide) ?_
  refine e_istore (L' := [.ref 56, .int a1, .int 0]) f_152_1 (Nat.le_of_ble_eq_true rfl) rfl ?_
  exact hV
set_option maxRecDepth 20000 in
theorem T_152_2 {xs : List Int32} {d : Nat} {S : x_M} {Q : Option Value → x_M → Prop} {a1 : Int32} {a2 : Int32}  (hV : ∃ P1 : Int32 → x_M → Prop, x_Ci xs d 153 [.ref 56, .int a1, .int a2] S P1 ∧ ∀ (v1 : Int32) (S1 : x_M), P1 v1 S1 → (if v1 = 0 then (x_E xs (d + 1) 152 2 [.ref 56, .int a1, .int (a2 + 1)] [] S1 Q) else (Q (some (.int a2)) S1))) : x_E xs (d + 1) 152 2 [.ref 56, .int a1, .int a2] [] S Q := by
  refine e_aload f_152_2 rfl (by decide) ?_
  refine e_iload f_152_3 rfl ?_
  refine e_iload f_152_4 rfl ?_
  obtain ⟨P1, hP1, hV⟩ := hV
  refine e_vi (n := 3) (A := [.ref 56, .int a1, .int a2]) (R := []) f_152_5 na_153 rfl rfl (Nat.le_of_ble_eq_true rfl) (Nat.le_of_ble_eq_true rfl) (by rw [ml_153]; exact Nat.le_of_ble_eq_true rfl) rfl (by rw [cy_153]; decide) (by rw [cy_153]; exact (by decide : x_tg 56 = 6)) hP1 (fun v1 S1 hp1 => ?_)
  have hV := hV v1 S1 hp1
  refine e_if f_152_8 (fun hc => ?_) (fun hc => ?_)
  · have hc : ¬ v1 = 0 := of_decide_eq_true hc
    rw [if_neg hc] at hV
    refine e_iload f_152_17 rfl ?_
    exact e_ireturn f_152_18 rt_152 rfl hV
  · have hc : v1 = 0 := Decidable.not_not.mp (fun z => hc (decide_eq_true z))
    rw [if_pos hc] at hV
    refine e_inc (c := 1) (L' := [.ref 56, .int a1, .int (a2 + 1)]) f_152_11 rfl (by decide) rfl ?_
    refine e_goto f_152_14 ?_
    exact hV
set_option maxRecDepth 20000 in
theorem T_153_0 {xs : List Int32} {d : Nat} {S : x_M} {Q : Option Value → x_M → Prop} {a1 : Int32} {a2 : Int32}  (hV : x_E xs (d + 1) 153 5 [.ref 56, .int a1, .int a2, .int 0, .int 0] [] S Q) : x_E xs (d + 1) 153 0 [.ref 56, .int a1, .int a2, .null, .null] [] S Q := by
  refine e_iconst (c := 0) f_153_0 (by decide) ?_
  refine e_istore (L' := [.ref 56, .int a1, .int a2, .int 0, .null]) f_153_1 (Nat.le_of_ble_eq_true rfl) rfl ?_
  refine e_iconst (c := 0) f_153_2 (by decide) ?_
  refine e_istore (L' := [.ref 56, .int a1, .int a2, .int 0, .int 0]) f_153_3 (Nat.le_of_ble_eq_true rfl) rfl ?_
  exact hV
set_option maxRecDepth 20000 in
theorem T_153_5 {xs : List Int32} {d : Nat} {S : x_M} {Q : Option Value → x_M → Prop} {a1 : Int32} {a2 : Int32} {a3 : Int32} {a4 : Int32}  (hV : if (8 : Int32) ≤ a4 then ((a3 = 0 ∨ a3 = 1) ∧ Q (some (.int a3)) S) else (if a3 = 0 then ((x_ib ((8 * a1) + a4) 112) ∧ ((x_ib (8 * a2) 112) ∧ (if (S 66 (Int32.toNatClampNeg ((8 * a1) + a4))) = (S 66 (Int32.toNatClampNeg (8 * a2))) then (x_E xs (d + 1) 153 5 [.ref 56, .int a1, .int a2, .int 1, .int (a4 + 1)] [] S Q) else (x_E xs (d + 1) 153 5 [.ref 56, .int a1, .int a2, .int 0, .int (a4 + 1)] [] S Q)))) else (x_E xs (d + 1) 153 5 [.ref 56, .int a1, .int a2, .int 1, .int (a4 + 1)] [] S Q))) : x_E xs (d + 1) 153 5 [.ref 56, .int a1, .int a2, .int a3, .int a4] [] S Q := by
  refine e_iload f_153_5 rfl ?_
  refine e_iconst (c := 8) f_153_7 (by decide) ?_
  refine e_icmp f_153_9 (fun hc => ?_) (fun hc => ?_)
  · have hc : (8 : Int32) ≤ a4 := of_decide_eq_true hc
    rw [if_pos hc] at hV
    refine e_iload f_153_52 rfl ?_
    obtain ⟨hg, hV⟩ := hV
    exact e_ireturn f_153_53 rt_153 (x_nz hg) hV
  · have hc : ¬ (8 : Int32) ≤ a4 := fun z => hc (decide_eq_true z)
    rw [if_neg hc] at hV
    refine e_iload f_153_12 rfl ?_
    refine e_if f_153_13 (fun hc => ?_) (fun hc => ?_)
    · have hc : ¬ a3 = 0 := of_decide_eq_true hc
      rw [if_neg hc] at hV
      refine e_iconst (c := 1) f_153_40 (by decide) ?_
      refine e_goto f_153_41 ?_
      refine e_istore (L' := [.ref 56, .int a1, .int a2, .int 1, .int a4]) f_153_45 (Nat.le_of_ble_eq_true rfl) rfl ?_
      refine e_inc (c := 1) (L' := [.ref 56, .int a1, .int a2, .int 1, .int (a4 + 1)]) f_153_46 rfl (by decide) rfl ?_
      refine e_goto f_153_49 ?_
      exact hV
    · have hc : a3 = 0 := Decidable.not_not.mp (fun z => hc (decide_eq_true z))
      rw [if_pos hc] at hV
      refine e_aload f_153_16 rfl (by decide) ?_
      refine e_gr (c := 6) (j := 17) (r := 66) f_153_17 (by decide) (by decide) (by decide) (by decide) ?_
      refine e_iconst (c := 8) f_153_20 (by decide) ?_
      refine e_iload f_153_22 rfl ?_
      refine e_imul f_153_23 ?_
      refine e_iload f_153_24 rfl ?_
      refine e_iadd f_153_26 ?_
      obtain ⟨hg, hV⟩ := hV
      refine e_ia (n := 112) f_153_27 (by decide) (by decide) hg ?_
      refine e_aload f_153_28 rfl (by decide) ?_
      refine e_gr (c := 6) (j := 17) (r := 66) f_153_29 (by decide) (by decide) (by decide) (by decide) ?_
      refine e_iconst (c := 8) f_153_32 (by decide) ?_
      refine e_iload f_153_34 rfl ?_
      refine e_imul f_153_35 ?_
      obtain ⟨hg, hV⟩ := hV
      refine e_ia (n := 112) f_153_36 (by decide) (by decide) hg ?_
      refine e_icmp f_153_37 (fun hc => ?_) (fun hc => ?_)
      · have hc : ¬ (S 66 (Int32.toNatClampNeg ((8 * a1) + a4))) = (S 66 (Int32.toNatClampNeg (8 * a2))) := of_decide_eq_true hc
        rw [if_neg hc] at hV
        refine e_iconst (c := 0) f_153_44 (by decide) ?_
        refine e_istore (L' := [.ref 56, .int a1, .int a2, .int 0, .int a4]) f_153_45 (Nat.le_of_ble_eq_true rfl) rfl ?_
        refine e_inc (c := 1) (L' := [.ref 56, .int a1, .int a2, .int 0, .int (a4 + 1)]) f_153_46 rfl (by decide) rfl ?_
        refine e_goto f_153_49 ?_
        exact hV
      · have hc : (S 66 (Int32.toNatClampNeg ((8 * a1) + a4))) = (S 66 (Int32.toNatClampNeg (8 * a2))) := Decidable.not_not.mp (fun z => hc (decide_eq_true z))
        rw [if_pos hc] at hV
        refine e_iconst (c := 1) f_153_40 (by decide) ?_
        refine e_goto f_153_41 ?_
        refine e_istore (L' := [.ref 56, .int a1, .int a2, .int 1, .int a4]) f_153_45 (Nat.le_of_ble_eq_true rfl) rfl ?_
        refine e_inc (c := 1) (L' := [.ref 56, .int a1, .int a2, .int 1, .int (a4 + 1)]) f_153_46 rfl (by decide) rfl ?_
        refine e_goto f_153_49 ?_
        exact hV
set_option maxRecDepth 20000 in
theorem T_154_0 {xs : List Int32} {d : Nat} {S : x_M} {Q : Option Value → x_M → Prop} {a1 : Int32} {a2 : Int32} {a3 : Int32}  (hV : if (S 57 0) = 0 then (Q (some (.int (-1000002))) S) else (∃ P1 : Int32 → x_M → Prop, x_Ci xs d 128 [.int a1] S P1 ∧ ∀ (v1 : Int32) (S1 : x_M), P1 v1 S1 → (if v1 = 0 then (Q (some (.int (-1000001))) S1) else (∃ P2 : Int32 → x_M → Prop, x_Ci xs d 128 [.int a2] S1 P2 ∧ ∀ (v2 : Int32) (S2 : x_M), P2 v2 S2 → (if v2 = 0 then (Q (some (.int (-1000001))) S2) else (if a3 = (-1) then (if a3 = (-1) then (x_E xs (d + 1) 154 61 [.ref 56, .int a1, .int a2, .int a3, .int 0, .int 0] [] S2 Q) else (∃ P3 : Int32 → x_M → Prop, x_Ci xs d 155 [.ref 56, .int a1, .int a2, .int a3] S2 P3 ∧ ∀ (v3 : Int32) (S3 : x_M), P3 v3 S3 → (Q (some (.int v3)) S3))) else (∃ P4 : Int32 → x_M → Prop, x_Ci xs d 125 [.ref 56, .int a3] S2 P4 ∧ ∀ (v4 : Int32) (S4 : x_M), P4 v4 S4 → (if v4 = 0 then (Q (some (.int (-1000001))) S4) else (if a3 = (-1) then (x_E xs (d + 1) 154 61 [.ref 56, .int a1, .int a2, .int a3, .int 0, .int 0] [] S4 Q) else (∃ P5 : Int32 → x_M → Prop, x_Ci xs d 155 [.ref 56, .int a1, .int a2, .int a3] S4 P5 ∧ ∀ (v5 : Int32) (S5 : x_M), P5 v5 S5 → (Q (some (.int v5)) S5))))))))))) : x_E xs (d + 1) 154 0 [.ref 56, .int a1, .int a2, .int a3, .null, .null] [] S Q := by
  refine e_aload f_154_0 rfl (by decide) ?_
  refine e_gr (c := 6) (j := 0) (r := 57) f_154_1 (by decide) (by decide) (by decide) (by decide) ?_
  refine e_iconst (c := 0) f_154_4 (by decide) ?_
  refine e_iak (n := 99) (kk := 0) f_154_5 (by decide) (by decide) (by decide) ?_
  refine e_if f_154_6 (fun hc => ?_) (fun hc => ?_)
  · have hc : ¬ (S 57 0) = 0 := of_decide_eq_true hc
    rw [if_neg hc] at hV
    refine e_iload f_154_12 rfl ?_
    obtain ⟨P1, hP1, hV⟩ := hV
    refine e_si (n := 1) (A := [.int a1]) (R := []) f_154_13 na_128 rfl rfl (Nat.le_of_ble_eq_true rfl) (Nat.le_of_ble_eq_true rfl) (by rw [ml_128]; exact Nat.le_of_ble_eq_true rfl) hP1 (fun v1 S1 hp1 => ?_)
    have hV := hV v1 S1 hp1
    refine e_if f_154_16 (fun hc => ?_) (fun hc => ?_)
    · have hc : v1 = 0 := of_decide_eq_true hc
      rw [if_pos hc] at hV
      refine e_iconst (c := (-1000001)) f_154_39 (by decide) ?_
      exact e_ireturn f_154_41 rt_154 rfl hV
    · have hc : ¬ v1 = 0 := fun z => hc (decide_eq_true z)
      rw [if_neg hc] at hV
      refine e_iload f_154_19 rfl ?_
      obtain ⟨P2, hP2, hV⟩ := hV
      refine e_si (n := 1) (A := [.int a2]) (R := []) f_154_20 na_128 rfl rfl (Nat.le_of_ble_eq_true rfl) (Nat.le_of_ble_eq_true rfl) (by rw [ml_128]; exact Nat.le_of_ble_eq_true rfl) hP2 (fun v2 S2 hp2 => ?_)
      have hV := hV v2 S2 hp2
      refine e_if f_154_23 (fun hc => ?_) (fun hc => ?_)
      · have hc : v2 = 0 := of_decide_eq_true hc
        rw [if_pos hc] at hV
        refine e_iconst (c := (-1000001)) f_154_39 (by decide) ?_
        exact e_ireturn f_154_41 rt_154 rfl hV
      · have hc : ¬ v2 = 0 := fun z => hc (decide_eq_true z)
        rw [if_neg hc] at hV
        refine e_iload f_154_26 rfl ?_
        refine e_iconst (c := (-1)) f_154_27 (by decide) ?_
        refine e_icmp f_154_28 (fun hc => ?_) (fun hc => ?_)
        · have hc : a3 = (-1) := of_decide_eq_true hc
          rw [if_pos hc] at hV
          refine e_iload f_154_42 rfl ?_
          refine e_iconst (c := (-1)) f_154_43 (by decide) ?_
          refine e_icmp f_154_44 (fun hc => ?_) (fun hc => ?_)
          · have hc : a3 = (-1) := of_decide_eq_true hc
            rw [if_pos hc] at hV
            refine e_iconst (c := 0) f_154_55 (by decide) ?_
            refine e_istore (L' := [.ref 56, .int a1, .int a2, .int a3, .int 0, .null]) f_154_56 (Nat.le_of_ble_eq_true rfl) rfl ?_
            refine e_iconst (c := 0) f_154_58 (by decide) ?_
            refine e_istore (L' := [.ref 56, .int a1, .int a2, .int a3, .int 0, .int 0]) f_154_59 (Nat.le_of_ble_eq_true rfl) rfl ?_
            exact hV
          · have hc : ¬ a3 = (-1) := fun z => hc (decide_eq_true z)
            rw [if_neg hc] at hV
            refine e_aload f_154_47 rfl (by decide) ?_
            refine e_iload f_154_48 rfl ?_
            refine e_iload f_154_49 rfl ?_
            refine e_iload f_154_50 rfl ?_
            obtain ⟨P3, hP3, hV⟩ := hV
            refine e_vi (n := 4) (A := [.ref 56, .int a1, .int a2, .int a3]) (R := []) f_154_51 na_155 rfl rfl (Nat.le_of_ble_eq_true rfl) (Nat.le_of_ble_eq_true rfl) (by rw [ml_155]; exact Nat.le_of_ble_eq_true rfl) rfl (by rw [cy_155]; decide) (by rw [cy_155]; exact (by decide : x_tg 56 = 6)) hP3 (fun v3 S3 hp3 => ?_)
            have hV := hV v3 S3 hp3
            exact e_ireturn f_154_54 rt_154 rfl hV
        · have hc : ¬ a3 = (-1) := fun z => hc (decide_eq_true z)
          rw [if_neg hc] at hV
          refine e_aload f_154_31 rfl (by decide) ?_
          refine e_iload f_154_32 rfl ?_
          obtain ⟨P4, hP4, hV⟩ := hV
          refine e_vi (n := 2) (A := [.ref 56, .int a3]) (R := []) f_154_33 na_125 rfl rfl (Nat.le_of_ble_eq_true rfl) (Nat.le_of_ble_eq_true rfl) (by rw [ml_125]; exact Nat.le_of_ble_eq_true rfl) rfl (by rw [cy_125]; decide) (by rw [cy_125]; exact (by decide : x_tg 56 = 6)) hP4 (fun v4 S4 hp4 => ?_)
          have hV := hV v4 S4 hp4
          refine e_if f_154_36 (fun hc => ?_) (fun hc => ?_)
          · have hc : ¬ v4 = 0 := of_decide_eq_true hc
            rw [if_neg hc] at hV
            refine e_iload f_154_42 rfl ?_
            refine e_iconst (c := (-1)) f_154_43 (by decide) ?_
            refine e_icmp f_154_44 (fun hc => ?_) (fun hc => ?_)
            · have hc : a3 = (-1) := of_decide_eq_true hc
              rw [if_pos hc] at hV
              refine e_iconst (c := 0) f_154_55 (by decide) ?_
              refine e_istore (L' := [.ref 56, .int a1, .int a2, .int a3, .int 0, .null]) f_154_56 (Nat.le_of_ble_eq_true rfl) rfl ?_
              refine e_iconst (c := 0) f_154_58 (by decide) ?_
              refine e_istore (L' := [.ref 56, .int a1, .int a2, .int a3, .int 0, .int 0]) f_154_59 (Nat.le_of_ble_eq_true rfl) rfl ?_
              exact hV
            · have hc : ¬ a3 = (-1) := fun z => hc (decide_eq_true z)
              rw [if_neg hc] at hV
              refine e_aload f_154_47 rfl (by decide) ?_
              refine e_iload f_154_48 rfl ?_
              refine e_iload f_154_49 rfl ?_
              refine e_iload f_154_50 rfl ?_
              obtain ⟨P5, hP5, hV⟩ := hV
              refine e_vi (n := 4) (A := [.ref 56, .int a1, .int a2, .int a3]) (R := []) f_154_51 na_155 rfl rfl (Nat.le_of_ble_eq_true rfl) (Nat.le_of_ble_eq_true rfl) (by rw [ml_155]; exact Nat.le_of_ble_eq_true rfl) rfl (by rw [cy_155]; decide) (by rw [cy_155]; exact (by decide : x_tg 56 = 6)) hP5 (fun v5 S5 hp5 => ?_)
              have hV := hV v5 S5 hp5
              exact e_ireturn f_154_54 rt_154 rfl hV
          · have hc : v4 = 0 := Decidable.not_not.mp (fun z => hc (decide_eq_true z))
            rw [if_pos hc] at hV
            refine e_iconst (c := (-1000001)) f_154_39 (by decide) ?_
            exact e_ireturn f_154_41 rt_154 rfl hV
  · have hc : (S 57 0) = 0 := Decidable.not_not.mp (fun z => hc (decide_eq_true z))
    rw [if_pos hc] at hV
    refine e_iconst (c := (-1000002)) f_154_9 (by decide) ?_
    exact e_ireturn f_154_11 rt_154 rfl hV
set_option maxRecDepth 20000 in
theorem T_154_61 {xs : List Int32} {d : Nat} {S : x_M} {Q : Option Value → x_M → Prop} {a1 : Int32} {a2 : Int32} {a3 : Int32} {a4 : Int32} {a5 : Int32}  (hV : if (S 57 1) ≤ a5 then (Q (some (.int a4)) S) else (∃ P1 : Int32 → x_M → Prop, x_Ci xs d 155 [.ref 56, .int a1, .int a2, .int a5] S P1 ∧ ∀ (v1 : Int32) (S1 : x_M), P1 v1 S1 → (if v1 = (-1000000) then (x_E xs (d + 1) 154 61 [.ref 56, .int a1, .int a2, .int a3, .int (a4 ||| 0), .int (a5 + 1)] [] S1 Q) else (x_E xs (d + 1) 154 61 [.ref 56, .int a1, .int a2, .int a3, .int (a4 ||| (1 <<< (a5 &&& 31))), .int (a5 + 1)] [] S1 Q)))) : x_E xs (d + 1) 154 61 [.ref 56, .int a1, .int a2, .int a3, .int a4, .int a5] [] S Q := by
  refine e_iload f_154_61 rfl ?_
  refine e_aload f_154_63 rfl (by decide) ?_
  refine e_gr (c := 6) (j := 0) (r := 57) f_154_64 (by decide) (by decide) (by decide) (by decide) ?_
  refine e_iconst (c := 1) f_154_67 (by decide) ?_
  refine e_iak (n := 99) (kk := 1) f_154_68 (by decide) (by decide) (by decide) ?_
  refine e_icmp f_154_69 (fun hc => ?_) (fun hc => ?_)
  · have hc : (S 57 1) ≤ a5 := of_decide_eq_true hc
    rw [if_pos hc] at hV
    refine e_iload f_154_104 rfl ?_
    exact e_ireturn f_154_106 rt_154 rfl hV
  · have hc : ¬ (S 57 1) ≤ a5 := fun z => hc (decide_eq_true z)
    rw [if_neg hc] at hV
    refine e_iload f_154_72 rfl ?_
    refine e_aload f_154_74 rfl (by decide) ?_
    refine e_iload f_154_75 rfl ?_
    refine e_iload f_154_76 rfl ?_
    refine e_iload f_154_77 rfl ?_
    obtain ⟨P1, hP1, hV⟩ := hV
    refine e_vi (n := 4) (A := [.ref 56, .int a1, .int a2, .int a5]) (R := [.int a4]) f_154_79 na_155 rfl rfl (Nat.le_of_ble_eq_true rfl) (Nat.le_of_ble_eq_true rfl) (by rw [ml_155]; exact Nat.le_of_ble_eq_true rfl) rfl (by rw [cy_155]; decide) (by rw [cy_155]; exact (by decide : x_tg 56 = 6)) hP1 (fun v1 S1 hp1 => ?_)
    have hV := hV v1 S1 hp1
    refine e_iconst (c := (-1000000)) f_154_82 (by decide) ?_
    refine e_icmp f_154_84 (fun hc => ?_) (fun hc => ?_)
    · have hc : ¬ v1 = (-1000000) := of_decide_eq_true hc
      rw [if_neg hc] at hV
      refine e_iconst (c := 1) f_154_91 (by decide) ?_
      refine e_iload f_154_92 rfl ?_
      refine e_ishl f_154_94 ?_
      refine e_ior f_154_95 ?_
      refine e_istore (L' := [.ref 56, .int a1, .int a2, .int a3, .int (a4 ||| (1 <<< (a5 &&& 31))), .int a5]) f_154_96 (Nat.le_of_ble_eq_true rfl) rfl ?_
      refine e_inc (c := 1) (L' := [.ref 56, .int a1, .int a2, .int a3, .int (a4 ||| (1 <<< (a5 &&& 31))), .int (a5 + 1)]) f_154_98 rfl (by decide) rfl ?_
      refine e_goto f_154_101 ?_
      exact hV
    · have hc : v1 = (-1000000) := Decidable.not_not.mp (fun z => hc (decide_eq_true z))
      rw [if_pos hc] at hV
      refine e_iconst (c := 0) f_154_87 (by decide) ?_
      refine e_goto f_154_88 ?_
      refine e_ior f_154_95 ?_
      refine e_istore (L' := [.ref 56, .int a1, .int a2, .int a3, .int (a4 ||| 0), .int a5]) f_154_96 (Nat.le_of_ble_eq_true rfl) rfl ?_
      refine e_inc (c := 1) (L' := [.ref 56, .int a1, .int a2, .int a3, .int (a4 ||| 0), .int (a5 + 1)]) f_154_98 rfl (by decide) rfl ?_
      refine e_goto f_154_101 ?_
      exact hV
set_option maxRecDepth 20000 in
theorem T_155_0 {xs : List Int32} {d : Nat} {S : x_M} {Q : Option Value → x_M → Prop} {a1 : Int32} {a2 : Int32} {a3 : Int32}  (hV : x_E xs (d + 1) 155 3 [.ref 56, .int a1, .int a2, .int a3, .int 0] [] S Q) : x_E xs (d + 1) 155 0 [.ref 56, .int a1, .int a2, .int a3, .null] [] S Q := by
  refine e_iconst (c := 0) f_155_0 (by decide) ?_
  refine e_istore (L' := [.ref 56, .int a1, .int a2, .int a3, .int 0]) f_155_1 (Nat.le_of_ble_eq_true rfl) rfl ?_
  exact hV
set_option maxRecDepth 20000 in
theorem T_155_3 {xs : List Int32} {d : Nat} {S : x_M} {Q : Option Value → x_M → Prop} {a1 : Int32} {a2 : Int32} {a3 : Int32} {a4 : Int32}  (hV : if (8 : Int32) ≤ a4 then (Q (some (.int (-1000000))) S) else ((x_ib ((8 * a3) + a4) 112) ∧ (if (a1 &&& (S 66 (Int32.toNatClampNeg ((8 * a3) + a4)))) = a2 then (Q (some (.int a4)) S) else (x_E xs (d + 1) 155 3 [.ref 56, .int a1, .int a2, .int a3, .int (a4 + 1)] [] S Q)))) : x_E xs (d + 1) 155 3 [.ref 56, .int a1, .int a2, .int a3, .int a4] [] S Q := by
  refine e_iload f_155_3 rfl ?_
  refine e_iconst (c := 8) f_155_5 (by decide) ?_
  refine e_icmp f_155_7 (fun hc => ?_) (fun hc => ?_)
  · have hc : (8 : Int32) ≤ a4 := of_decide_eq_true hc
    rw [if_pos hc] at hV
    refine e_iconst (c := (-1000000)) f_155_37 (by decide) ?_
    exact e_ireturn f_155_39 rt_155 rfl hV
  · have hc : ¬ (8 : Int32) ≤ a4 := fun z => hc (decide_eq_true z)
    rw [if_neg hc] at hV
    refine e_iload f_155_10 rfl ?_
    refine e_aload f_155_11 rfl (by decide) ?_
    refine e_gr (c := 6) (j := 17) (r := 66) f_155_12 (by decide) (by decide) (by decide) (by decide) ?_
    refine e_iconst (c := 8) f_155_15 (by decide) ?_
    refine e_iload f_155_17 rfl ?_
    refine e_imul f_155_18 ?_
    refine e_iload f_155_19 rfl ?_
    refine e_iadd f_155_21 ?_
    obtain ⟨hg, hV⟩ := hV
    refine e_ia (n := 112) f_155_22 (by decide) (by decide) hg ?_
    refine e_iand f_155_23 ?_
    refine e_iload f_155_24 rfl ?_
    refine e_icmp f_155_25 (fun hc => ?_) (fun hc => ?_)
    · have hc : ¬ (a1 &&& (S 66 (Int32.toNatClampNeg ((8 * a3) + a4)))) = a2 := of_decide_eq_true hc
      rw [if_neg hc] at hV
      refine e_inc (c := 1) (L' := [.ref 56, .int a1, .int a2, .int a3, .int (a4 + 1)]) f_155_31 rfl (by decide) rfl ?_
      refine e_goto f_155_34 ?_
      exact hV
    · have hc : (a1 &&& (S 66 (Int32.toNatClampNeg ((8 * a3) + a4)))) = a2 := Decidable.not_not.mp (fun z => hc (decide_eq_true z))
      rw [if_pos hc] at hV
      refine e_iload f_155_28 rfl ?_
      exact e_ireturn f_155_30 rt_155 rfl hV
set_option maxRecDepth 20000 in
theorem T_156_0 {xs : List Int32} {d : Nat} {S : x_M} {Q : Option Value → x_M → Prop} {a1 : Int32}  (hV : ∃ P1 : Int32 → x_M → Prop, x_Ci xs d 101 [.long (Int32.toInt64 a1), .long 0, .long 1] S P1 ∧ ∀ (v1 : Int32) (S1 : x_M), P1 v1 S1 → (if v1 = 0 then (Q (some (.int (-1000001))) S1) else (if (S1 57 0) = 0 then (Q (some (.int (-1000002))) S1) else (∃ P2 : x_M → Prop, x_Cv xs d 157 [.ref 56, .int 0, .int (1 + a1)] S1 P2 ∧ ∀ (S2 : x_M), P2 S2 → (Q (some (.int 1)) S2))))) : x_E xs (d + 1) 156 0 [.ref 56, .int a1] [] S Q := by
  refine e_iload f_156_0 rfl ?_
  refine e_i2l f_156_1 ?_
  refine e_lconst (c := 0) f_156_2 (by decide) ?_
  refine e_lconst (c := 1) f_156_3 (by decide) ?_
  obtain ⟨P1, hP1, hV⟩ := hV
  refine e_si (n := 3) (A := [.long (Int32.toInt64 a1), .long 0, .long 1]) (R := []) f_156_4 na_101 rfl rfl (Nat.le_of_ble_eq_true rfl) (Nat.le_of_ble_eq_true rfl) (by rw [ml_101]; exact Nat.le_of_ble_eq_true rfl) hP1 (fun v1 S1 hp1 => ?_)
  have hV := hV v1 S1 hp1
  refine e_if f_156_7 (fun hc => ?_) (fun hc => ?_)
  · have hc : ¬ v1 = 0 := of_decide_eq_true hc
    rw [if_neg hc] at hV
    refine e_aload f_156_13 rfl (by decide) ?_
    refine e_gr (c := 6) (j := 0) (r := 57) f_156_14 (by decide) (by decide) (by decide) (by decide) ?_
    refine e_iconst (c := 0) f_156_17 (by decide) ?_
    refine e_iak (n := 99) (kk := 0) f_156_18 (by decide) (by decide) (by decide) ?_
    refine e_if f_156_19 (fun hc => ?_) (fun hc => ?_)
    · have hc : ¬ (S1 57 0) = 0 := of_decide_eq_true hc
      rw [if_neg hc] at hV
      refine e_aload f_156_25 rfl (by decide) ?_
      refine e_iconst (c := 0) f_156_26 (by decide) ?_
      refine e_iconst (c := 1) f_156_27 (by decide) ?_
      refine e_iload f_156_28 rfl ?_
      refine e_iadd f_156_29 ?_
      obtain ⟨P2, hP2, hV⟩ := hV
      refine e_vv (n := 3) (A := [.ref 56, .int 0, .int (1 + a1)]) (R := []) f_156_30 na_157 rfl rfl (Nat.le_of_ble_eq_true rfl) (Nat.le_of_ble_eq_true rfl) (by rw [ml_157]; exact Nat.le_of_ble_eq_true rfl) rfl (by rw [cy_157]; decide) (by rw [cy_157]; exact (by decide : x_tg 56 = 6)) hP2 (fun S2 hp2 => ?_)
      have hV := hV S2 hp2
      refine e_iconst (c := 1) f_156_33 (by decide) ?_
      exact e_ireturn f_156_34 rt_156 rfl hV
    · have hc : (S1 57 0) = 0 := Decidable.not_not.mp (fun z => hc (decide_eq_true z))
      rw [if_pos hc] at hV
      refine e_iconst (c := (-1000002)) f_156_22 (by decide) ?_
      exact e_ireturn f_156_24 rt_156 rfl hV
  · have hc : v1 = 0 := Decidable.not_not.mp (fun z => hc (decide_eq_true z))
    rw [if_pos hc] at hV
    refine e_iconst (c := (-1000001)) f_156_10 (by decide) ?_
    exact e_ireturn f_156_12 rt_156 rfl hV
set_option maxRecDepth 20000 in
theorem T_157_0 {xs : List Int32} {d : Nat} {S : x_M} {Q : Option Value → x_M → Prop} {a1 : Int32} {a2 : Int32}  (hV : x_E xs (d + 1) 157 2 [.ref 56, .int a1, .int a2, .int 0] [] S Q) : x_E xs (d + 1) 157 0 [.ref 56, .int a1, .int a2, .null] [] S Q := by
  refine e_iconst (c := 0) f_157_0 (by decide) ?_
  refine e_istore (L' := [.ref 56, .int a1, .int a2, .int 0]) f_157_1 (Nat.le_of_ble_eq_true rfl) rfl ?_
  exact hV
set_option maxRecDepth 20000 in
theorem T_157_2 {xs : List Int32} {d : Nat} {S : x_M} {Q : Option Value → x_M → Prop} {a1 : Int32} {a2 : Int32} {a3 : Int32}  (hV : if (33 : Int32) ≤ a3 then (Q none S) else ((x_ib ((33 * a1) + a3) 99) ∧ ((x_ib ((33 * a2) + a3) 99) ∧ (x_E xs (d + 1) 157 2 [.ref 56, .int a1, .int a2, .int (a3 + 1)] [] (x_up S 57 (Int32.toNatClampNeg ((33 * a2) + a3)) (S 57 (Int32.toNatClampNeg ((33 * a1) + a3)))) Q)))) : x_E xs (d + 1) 157 2 [.ref 56, .int a1, .int a2, .int a3] [] S Q := by
  refine e_iload f_157_2 rfl ?_
  refine e_iconst (c := 33) f_157_3 (by decide) ?_
  refine e_icmp f_157_5 (fun hc => ?_) (fun hc => ?_)
  · have hc : (33 : Int32) ≤ a3 := of_decide_eq_true hc
    rw [if_pos hc] at hV
    exact e_return f_157_36 rt_157 hV
  · have hc : ¬ (33 : Int32) ≤ a3 := fun z => hc (decide_eq_true z)
    rw [if_neg hc] at hV
    refine e_aload f_157_8 rfl (by decide) ?_
    refine e_gr (c := 6) (j := 0) (r := 57) f_157_9 (by decide) (by decide) (by decide) (by decide) ?_
    refine e_iconst (c := 33) f_157_12 (by decide) ?_
    refine e_iload f_157_14 rfl ?_
    refine e_imul f_157_15 ?_
    refine e_iload f_157_16 rfl ?_
    refine e_iadd f_157_17 ?_
    refine e_aload f_157_18 rfl (by decide) ?_
    refine e_gr (c := 6) (j := 0) (r := 57) f_157_19 (by decide) (by decide) (by decide) (by decide) ?_
    refine e_iconst (c := 33) f_157_22 (by decide) ?_
    refine e_iload f_157_24 rfl ?_
    refine e_imul f_157_25 ?_
    refine e_iload f_157_26 rfl ?_
    refine e_iadd f_157_27 ?_
    obtain ⟨hg, hV⟩ := hV
    refine e_ia (n := 99) f_157_28 (by decide) (by decide) hg ?_
    obtain ⟨hg, hV⟩ := hV
    refine e_is (n := 99) f_157_29 (by decide) (by decide) hg ?_
    refine e_inc (c := 1) (L' := [.ref 56, .int a1, .int a2, .int (a3 + 1)]) f_157_30 rfl (by decide) rfl ?_
    refine e_goto f_157_33 ?_
    exact hV
set_option maxRecDepth 20000 in
theorem T_158_0 {xs : List Int32} {d : Nat} {S : x_M} {Q : Option Value → x_M → Prop} {a1 : Int32}  (hV : ∃ P1 : Int32 → x_M → Prop, x_Ci xs d 101 [.long (Int32.toInt64 a1), .long 0, .long 1] S P1 ∧ ∀ (v1 : Int32) (S1 : x_M), P1 v1 S1 → (if v1 = 0 then (Q (some (.int (-1000001))) S1) else ((x_ib ((33 * (1 + a1)) + 0) 99) ∧ (if (S1 57 (Int32.toNatClampNeg ((33 * (1 + a1)) + 0))) = 0 then (Q (some (.int (-1000002))) S1) else (∃ P2 : x_M → Prop, x_Cv xs d 157 [.ref 56, .int (1 + a1), .int 0] S1 P2 ∧ ∀ (S2 : x_M), P2 S2 → (∃ P3 : x_M → Prop, x_Cv xs d 120 [.ref 56] S2 P3 ∧ ∀ (S3 : x_M), P3 S3 → (Q (some (.int 1)) S3))))))) : x_E xs (d + 1) 158 0 [.ref 56, .int a1] [] S Q := by
  refine e_iload f_158_0 rfl ?_
  refine e_i2l f_158_1 ?_
  refine e_lconst (c := 0) f_158_2 (by decide) ?_
  refine e_lconst (c := 1) f_158_3 (by decide) ?_
  obtain ⟨P1, hP1, hV⟩ := hV
  refine e_si (n := 3) (A := [.long (Int32.toInt64 a1), .long 0, .long 1]) (R := []) f_158_4 na_101 rfl rfl (Nat.le_of_ble_eq_true rfl) (Nat.le_of_ble_eq_true rfl) (by rw [ml_101]; exact Nat.le_of_ble_eq_true rfl) hP1 (fun v1 S1 hp1 => ?_)
  have hV := hV v1 S1 hp1
  refine e_if f_158_7 (fun hc => ?_) (fun hc => ?_)
  · have hc : ¬ v1 = 0 := of_decide_eq_true hc
    rw [if_neg hc] at hV
    refine e_aload f_158_13 rfl (by decide) ?_
    refine e_gr (c := 6) (j := 0) (r := 57) f_158_14 (by decide) (by decide) (by decide) (by decide) ?_
    refine e_iconst (c := 33) f_158_17 (by decide) ?_
    refine e_iconst (c := 1) f_158_19 (by decide) ?_
    refine e_iload f_158_20 rfl ?_
    refine e_iadd f_158_21 ?_
    refine e_imul f_158_22 ?_
    refine e_iconst (c := 0) f_158_23 (by decide) ?_
    refine e_iadd f_158_24 ?_
    obtain ⟨hg, hV⟩ := hV
    refine e_ia (n := 99) f_158_25 (by decide) (by decide) hg ?_
    refine e_if f_158_26 (fun hc => ?_) (fun hc => ?_)
    · have hc : ¬ (S1 57 (Int32.toNatClampNeg ((33 * (1 + a1)) + 0))) = 0 := of_decide_eq_true hc
      rw [if_neg hc] at hV
      refine e_aload f_158_32 rfl (by decide) ?_
      refine e_iconst (c := 1) f_158_33 (by decide) ?_
      refine e_iload f_158_34 rfl ?_
      refine e_iadd f_158_35 ?_
      refine e_iconst (c := 0) f_158_36 (by decide) ?_
      obtain ⟨P2, hP2, hV⟩ := hV
      refine e_vv (n := 3) (A := [.ref 56, .int (1 + a1), .int 0]) (R := []) f_158_37 na_157 rfl rfl (Nat.le_of_ble_eq_true rfl) (Nat.le_of_ble_eq_true rfl) (by rw [ml_157]; exact Nat.le_of_ble_eq_true rfl) rfl (by rw [cy_157]; decide) (by rw [cy_157]; exact (by decide : x_tg 56 = 6)) hP2 (fun S2 hp2 => ?_)
      have hV := hV S2 hp2
      refine e_aload f_158_40 rfl (by decide) ?_
      obtain ⟨P3, hP3, hV⟩ := hV
      refine e_vv (n := 1) (A := [.ref 56]) (R := []) f_158_41 na_120 rfl rfl (Nat.le_of_ble_eq_true rfl) (Nat.le_of_ble_eq_true rfl) (by rw [ml_120]; exact Nat.le_of_ble_eq_true rfl) rfl (by rw [cy_120]; decide) (by rw [cy_120]; exact (by decide : x_tg 56 = 6)) hP3 (fun S3 hp3 => ?_)
      have hV := hV S3 hp3
      refine e_iconst (c := 1) f_158_44 (by decide) ?_
      exact e_ireturn f_158_45 rt_158 rfl hV
    · have hc : (S1 57 (Int32.toNatClampNeg ((33 * (1 + a1)) + 0))) = 0 := Decidable.not_not.mp (fun z => hc (decide_eq_true z))
      rw [if_pos hc] at hV
      refine e_iconst (c := (-1000002)) f_158_29 (by decide) ?_
      exact e_ireturn f_158_31 rt_158 rfl hV
  · have hc : v1 = 0 := Decidable.not_not.mp (fun z => hc (decide_eq_true z))
    rw [if_pos hc] at hV
    refine e_iconst (c := (-1000001)) f_158_10 (by decide) ?_
    exact e_ireturn f_158_12 rt_158 rfl hV
