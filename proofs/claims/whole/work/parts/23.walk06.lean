set_option maxRecDepth 20000 in
theorem T_111_0 {xs : List Int32} {d : Nat} {S : x_M} {Q : Option Value → x_M → Prop}   (hV : if (S 56 2) ≤ (S 56 10) then (x_E xs (d + 1) 111 52 [.ref 56] [] S Q) else ((x_ib (S 56 10) 400) ∧ (if (S 58 (Int32.toNatClampNeg (S 56 10))) = 32 then (x_E xs (d + 1) 111 0 [.ref 56] [] (x_up S 56 10 ((S 56 10) + 1)) Q) else ((x_ib (S 56 10) 400) ∧ (if (S 58 (Int32.toNatClampNeg (S 56 10))) = 10 then (x_E xs (d + 1) 111 0 [.ref 56] [] (x_up S 56 10 ((S 56 10) + 1)) Q) else (x_E xs (d + 1) 111 52 [.ref 56] [] S Q)))))) : x_E xs (d + 1) 111 0 [.ref 56] [] S Q := by
  refine e_aload f_111_0 rfl (by decide) ?_
  refine e_gf (c := 6) (j := 10) f_111_1 (by decide) (by decide) (by decide) ?_
  refine e_aload f_111_4 rfl (by decide) ?_
  refine e_gf (c := 6) (j := 2) f_111_5 (by decide) (by decide) (by decide) ?_
  refine e_icmp f_111_8 (fun hc => ?_) (fun hc => ?_)
  · have hc : (S 56 2) ≤ (S 56 10) := of_decide_eq_true hc
    rw [if_pos hc] at hV
    exact hV
  · have hc : ¬ (S 56 2) ≤ (S 56 10) := fun z => hc (decide_eq_true z)
    rw [if_neg hc] at hV
    refine e_aload f_111_11 rfl (by decide) ?_
    refine e_gr (c := 6) (j := 1) (r := 58) f_111_12 (by decide) (by decide) (by decide) (by decide) ?_
    refine e_aload f_111_15 rfl (by decide) ?_
    refine e_gf (c := 6) (j := 10) f_111_16 (by decide) (by decide) (by decide) ?_
    obtain ⟨hg, hV⟩ := hV
    refine e_ia (n := 400) f_111_19 (by decide) (by decide) hg ?_
    refine e_iconst (c := 32) f_111_20 (by decide) ?_
    refine e_icmp f_111_22 (fun hc => ?_) (fun hc => ?_)
    · have hc : (S 58 (Int32.toNatClampNeg (S 56 10))) = 32 := of_decide_eq_true hc
      rw [if_pos hc] at hV
      refine e_aload f_111_39 rfl (by decide) ?_
      refine e_dup f_111_40 rfl ?_
      refine e_gf (c := 6) (j := 10) f_111_41 (by decide) (by decide) (by decide) ?_
      refine e_iconst (c := 1) f_111_44 (by decide) ?_
      refine e_iadd f_111_45 ?_
      refine e_pf (c := 6) (j := 10) f_111_46 (by decide) (by decide) (by decide) (x_fit_i rfl) ?_
      refine e_goto f_111_49 ?_
      exact hV
    · have hc : ¬ (S 58 (Int32.toNatClampNeg (S 56 10))) = 32 := fun z => hc (decide_eq_true z)
      rw [if_neg hc] at hV
      refine e_aload f_111_25 rfl (by decide) ?_
      refine e_gr (c := 6) (j := 1) (r := 58) f_111_26 (by decide) (by decide) (by decide) (by decide) ?_
      refine e_aload f_111_29 rfl (by decide) ?_
      refine e_gf (c := 6) (j := 10) f_111_30 (by decide) (by decide) (by decide) ?_
      obtain ⟨hg, hV⟩ := hV
      refine e_ia (n := 400) f_111_33 (by decide) (by decide) hg ?_
      refine e_iconst (c := 10) f_111_34 (by decide) ?_
      refine e_icmp f_111_36 (fun hc => ?_) (fun hc => ?_)
      · have hc : ¬ (S 58 (Int32.toNatClampNeg (S 56 10))) = 10 := of_decide_eq_true hc
        rw [if_neg hc] at hV
        exact hV
      · have hc : (S 58 (Int32.toNatClampNeg (S 56 10))) = 10 := Decidable.not_not.mp (fun z => hc (decide_eq_true z))
        rw [if_pos hc] at hV
        refine e_aload f_111_39 rfl (by decide) ?_
        refine e_dup f_111_40 rfl ?_
        refine e_gf (c := 6) (j := 10) f_111_41 (by decide) (by decide) (by decide) ?_
        refine e_iconst (c := 1) f_111_44 (by decide) ?_
        refine e_iadd f_111_45 ?_
        refine e_pf (c := 6) (j := 10) f_111_46 (by decide) (by decide) (by decide) (x_fit_i rfl) ?_
        refine e_goto f_111_49 ?_
        exact hV
set_option maxRecDepth 20000 in
theorem T_111_52 {xs : List Int32} {d : Nat} {S : x_M} {Q : Option Value → x_M → Prop}   (hV : if ((x_up S 56 11 (S 56 10)) 56 2) ≤ ((x_up S 56 11 (S 56 10)) 56 10) then (x_E xs (d + 1) 111 85 [.ref 56] [] (x_up (x_up S 56 11 (S 56 10)) 56 10 (((x_up S 56 11 (S 56 10)) 56 10) + 0)) Q) else (x_E xs (d + 1) 111 85 [.ref 56] [] (x_up (x_up S 56 11 (S 56 10)) 56 10 (((x_up S 56 11 (S 56 10)) 56 10) + 1)) Q)) : x_E xs (d + 1) 111 52 [.ref 56] [] S Q := by
  refine e_aload f_111_52 rfl (by decide) ?_
  refine e_aload f_111_53 rfl (by decide) ?_
  refine e_gf (c := 6) (j := 10) f_111_54 (by decide) (by decide) (by decide) ?_
  refine e_pf (c := 6) (j := 11) f_111_57 (by decide) (by decide) (by decide) (x_fit_i rfl) ?_
  refine e_aload f_111_60 rfl (by decide) ?_
  refine e_dup f_111_61 rfl ?_
  refine e_gf (c := 6) (j := 10) f_111_62 (by decide) (by decide) (by decide) ?_
  refine e_aload f_111_65 rfl (by decide) ?_
  refine e_gf (c := 6) (j := 10) f_111_66 (by decide) (by decide) (by decide) ?_
  refine e_aload f_111_69 rfl (by decide) ?_
  refine e_gf (c := 6) (j := 2) f_111_70 (by decide) (by decide) (by decide) ?_
  refine e_icmp f_111_73 (fun hc => ?_) (fun hc => ?_)
  · have hc : ((x_up S 56 11 (S 56 10)) 56 2) ≤ ((x_up S 56 11 (S 56 10)) 56 10) := of_decide_eq_true hc
    rw [if_pos hc] at hV
    refine e_iconst (c := 0) f_111_80 (by decide) ?_
    refine e_iadd f_111_81 ?_
    refine e_pf (c := 6) (j := 10) f_111_82 (by decide) (by decide) (by decide) (x_fit_i rfl) ?_
    exact hV
  · have hc : ¬ ((x_up S 56 11 (S 56 10)) 56 2) ≤ ((x_up S 56 11 (S 56 10)) 56 10) := fun z => hc (decide_eq_true z)
    rw [if_neg hc] at hV
    refine e_iconst (c := 1) f_111_76 (by decide) ?_
    refine e_goto f_111_77 ?_
    refine e_iadd f_111_81 ?_
    refine e_pf (c := 6) (j := 10) f_111_82 (by decide) (by decide) (by decide) (x_fit_i rfl) ?_
    exact hV
set_option maxRecDepth 20000 in
theorem T_111_85 {xs : List Int32} {d : Nat} {S : x_M} {Q : Option Value → x_M → Prop}   (hV : if (S 56 2) ≤ (S 56 10) then (Q none (x_up S 56 12 (S 56 10))) else ((x_ib (S 56 11) 400) ∧ (∃ P1 : Int32 → x_M → Prop, x_Ci xs d 112 [.int (S 58 (Int32.toNatClampNeg (S 56 11)))] S P1 ∧ ∀ (v1 : Int32) (S1 : x_M), P1 v1 S1 → (if v1 ≤ 0 then (Q none (x_up S1 56 12 (S1 56 10))) else ((x_ib (S1 56 10) 400) ∧ (∃ P2 : Int32 → x_M → Prop, x_Ci xs d 112 [.int (S1 58 (Int32.toNatClampNeg (S1 56 10)))] S1 P2 ∧ ∀ (v2 : Int32) (S2 : x_M), P2 v2 S2 → ((x_ib (S2 56 11) 400) ∧ (∃ P3 : Int32 → x_M → Prop, x_Ci xs d 112 [.int (S2 58 (Int32.toNatClampNeg (S2 56 11)))] S2 P3 ∧ ∀ (v3 : Int32) (S3 : x_M), P3 v3 S3 → (if v2 = v3 then (x_E xs (d + 1) 111 85 [.ref 56] [] (x_up S3 56 10 ((S3 56 10) + 1)) Q) else (Q none (x_up S3 56 12 (S3 56 10)))))))))))) : x_E xs (d + 1) 111 85 [.ref 56] [] S Q := by
  refine e_aload f_111_85 rfl (by decide) ?_
  refine e_gf (c := 6) (j := 10) f_111_86 (by decide) (by decide) (by decide) ?_
  refine e_aload f_111_89 rfl (by decide) ?_
  refine e_gf (c := 6) (j := 2) f_111_90 (by decide) (by decide) (by decide) ?_
  refine e_icmp f_111_93 (fun hc => ?_) (fun hc => ?_)
  · have hc : (S 56 2) ≤ (S 56 10) := of_decide_eq_true hc
    rw [if_pos hc] at hV
    refine e_aload f_111_151 rfl (by decide) ?_
    refine e_aload f_111_152 rfl (by decide) ?_
    refine e_gf (c := 6) (j := 10) f_111_153 (by decide) (by decide) (by decide) ?_
    refine e_pf (c := 6) (j := 12) f_111_156 (by decide) (by decide) (by decide) (x_fit_i rfl) ?_
    exact e_return f_111_159 rt_111 hV
  · have hc : ¬ (S 56 2) ≤ (S 56 10) := fun z => hc (decide_eq_true z)
    rw [if_neg hc] at hV
    refine e_aload f_111_96 rfl (by decide) ?_
    refine e_gr (c := 6) (j := 1) (r := 58) f_111_97 (by decide) (by decide) (by decide) (by decide) ?_
    refine e_aload f_111_100 rfl (by decide) ?_
    refine e_gf (c := 6) (j := 11) f_111_101 (by decide) (by decide) (by decide) ?_
    obtain ⟨hg, hV⟩ := hV
    refine e_ia (n := 400) f_111_104 (by decide) (by decide) hg ?_
    obtain ⟨P1, hP1, hV⟩ := hV
    refine e_si (n := 1) (A := [.int (S 58 (Int32.toNatClampNeg (S 56 11)))]) (R := []) f_111_105 na_112 rfl rfl (Nat.le_of_ble_eq_true rfl) (Nat.le_of_ble_eq_true rfl) (by rw [ml_112]; exact Nat.le_of_ble_eq_true rfl) hP1 (fun v1 S1 hp1 => ?_)
    have hV := hV v1 S1 hp1
    refine e_if f_111_108 (fun hc => ?_) (fun hc => ?_)
    · have hc : v1 ≤ 0 := of_decide_eq_true hc
      rw [if_pos hc] at hV
      refine e_aload f_111_151 rfl (by decide) ?_
      refine e_aload f_111_152 rfl (by decide) ?_
      refine e_gf (c := 6) (j := 10) f_111_153 (by decide) (by decide) (by decide) ?_
      refine e_pf (c := 6) (j := 12) f_111_156 (by decide) (by decide) (by decide) (x_fit_i rfl) ?_
      exact e_return f_111_159 rt_111 hV
    · have hc : ¬ v1 ≤ 0 := fun z => hc (decide_eq_true z)
      rw [if_neg hc] at hV
      refine e_aload f_111_111 rfl (by decide) ?_
      refine e_gr (c := 6) (j := 1) (r := 58) f_111_112 (by decide) (by decide) (by decide) (by decide) ?_
      refine e_aload f_111_115 rfl (by decide) ?_
      refine e_gf (c := 6) (j := 10) f_111_116 (by decide) (by decide) (by decide) ?_
      obtain ⟨hg, hV⟩ := hV
      refine e_ia (n := 400) f_111_119 (by decide) (by decide) hg ?_
      obtain ⟨P2, hP2, hV⟩ := hV
      refine e_si (n := 1) (A := [.int (S1 58 (Int32.toNatClampNeg (S1 56 10)))]) (R := []) f_111_120 na_112 rfl rfl (Nat.le_of_ble_eq_true rfl) (Nat.le_of_ble_eq_true rfl) (by rw [ml_112]; exact Nat.le_of_ble_eq_true rfl) hP2 (fun v2 S2 hp2 => ?_)
      have hV := hV v2 S2 hp2
      refine e_aload f_111_123 rfl (by decide) ?_
      refine e_gr (c := 6) (j := 1) (r := 58) f_111_124 (by decide) (by decide) (by decide) (by decide) ?_
      refine e_aload f_111_127 rfl (by decide) ?_
      refine e_gf (c := 6) (j := 11) f_111_128 (by decide) (by decide) (by decide) ?_
      obtain ⟨hg, hV⟩ := hV
      refine e_ia (n := 400) f_111_131 (by decide) (by decide) hg ?_
      obtain ⟨P3, hP3, hV⟩ := hV
      refine e_si (n := 1) (A := [.int (S2 58 (Int32.toNatClampNeg (S2 56 11)))]) (R := [.int v2]) f_111_132 na_112 rfl rfl (Nat.le_of_ble_eq_true rfl) (Nat.le_of_ble_eq_true rfl) (by rw [ml_112]; exact Nat.le_of_ble_eq_true rfl) hP3 (fun v3 S3 hp3 => ?_)
      have hV := hV v3 S3 hp3
      refine e_icmp f_111_135 (fun hc => ?_) (fun hc => ?_)
      · have hc : ¬ v2 = v3 := of_decide_eq_true hc
        rw [if_neg hc] at hV
        refine e_aload f_111_151 rfl (by decide) ?_
        refine e_aload f_111_152 rfl (by decide) ?_
        refine e_gf (c := 6) (j := 10) f_111_153 (by decide) (by decide) (by decide) ?_
        refine e_pf (c := 6) (j := 12) f_111_156 (by decide) (by decide) (by decide) (x_fit_i rfl) ?_
        exact e_return f_111_159 rt_111 hV
      · have hc : v2 = v3 := Decidable.not_not.mp (fun z => hc (decide_eq_true z))
        rw [if_pos hc] at hV
        refine e_aload f_111_138 rfl (by decide) ?_
        refine e_dup f_111_139 rfl ?_
        refine e_gf (c := 6) (j := 10) f_111_140 (by decide) (by decide) (by decide) ?_
        refine e_iconst (c := 1) f_111_143 (by decide) ?_
        refine e_iadd f_111_144 ?_
        refine e_pf (c := 6) (j := 10) f_111_145 (by decide) (by decide) (by decide) (x_fit_i rfl) ?_
        refine e_goto f_111_148 ?_
        exact hV
set_option maxRecDepth 20000 in
theorem T_112_0 {xs : List Int32} {d : Nat} {S : x_M} {Q : Option Value → x_M → Prop} {a0 : Int32}  (hV : if a0 < 97 then (if a0 < 48 then (Q (some (.int 0)) S) else (if (57 : Int32) < a0 then (Q (some (.int 0)) S) else (Q (some (.int 2)) S))) else (if (122 : Int32) < a0 then (if a0 < 48 then (Q (some (.int 0)) S) else (if (57 : Int32) < a0 then (Q (some (.int 0)) S) else (Q (some (.int 2)) S))) else (Q (some (.int 1)) S))) : x_E xs (d + 1) 112 0 [.int a0] [] S Q := by
  refine e_iload f_112_0 rfl ?_
  refine e_iconst (c := 97) f_112_1 (by decide) ?_
  refine e_icmp f_112_3 (fun hc => ?_) (fun hc => ?_)
  · have hc : a0 < 97 := of_decide_eq_true hc
    rw [if_pos hc] at hV
    refine e_iload f_112_16 rfl ?_
    refine e_iconst (c := 48) f_112_17 (by decide) ?_
    refine e_icmp f_112_19 (fun hc => ?_) (fun hc => ?_)
    · have hc : a0 < 48 := of_decide_eq_true hc
      rw [if_pos hc] at hV
      refine e_iconst (c := 0) f_112_32 (by decide) ?_
      exact e_ireturn f_112_33 rt_112 rfl hV
    · have hc : ¬ a0 < 48 := fun z => hc (decide_eq_true z)
      rw [if_neg hc] at hV
      refine e_iload f_112_22 rfl ?_
      refine e_iconst (c := 57) f_112_23 (by decide) ?_
      refine e_icmp f_112_25 (fun hc => ?_) (fun hc => ?_)
      · have hc : (57 : Int32) < a0 := of_decide_eq_true hc
        rw [if_pos hc] at hV
        refine e_iconst (c := 0) f_112_32 (by decide) ?_
        exact e_ireturn f_112_33 rt_112 rfl hV
      · have hc : ¬ (57 : Int32) < a0 := fun z => hc (decide_eq_true z)
        rw [if_neg hc] at hV
        refine e_iconst (c := 2) f_112_28 (by decide) ?_
        refine e_goto f_112_29 ?_
        exact e_ireturn f_112_33 rt_112 rfl hV
  · have hc : ¬ a0 < 97 := fun z => hc (decide_eq_true z)
    rw [if_neg hc] at hV
    refine e_iload f_112_6 rfl ?_
    refine e_iconst (c := 122) f_112_7 (by decide) ?_
    refine e_icmp f_112_9 (fun hc => ?_) (fun hc => ?_)
    · have hc : (122 : Int32) < a0 := of_decide_eq_true hc
      rw [if_pos hc] at hV
      refine e_iload f_112_16 rfl ?_
      refine e_iconst (c := 48) f_112_17 (by decide) ?_
      refine e_icmp f_112_19 (fun hc => ?_) (fun hc => ?_)
      · have hc : a0 < 48 := of_decide_eq_true hc
        rw [if_pos hc] at hV
        refine e_iconst (c := 0) f_112_32 (by decide) ?_
        exact e_ireturn f_112_33 rt_112 rfl hV
      · have hc : ¬ a0 < 48 := fun z => hc (decide_eq_true z)
        rw [if_neg hc] at hV
        refine e_iload f_112_22 rfl ?_
        refine e_iconst (c := 57) f_112_23 (by decide) ?_
        refine e_icmp f_112_25 (fun hc => ?_) (fun hc => ?_)
        · have hc : (57 : Int32) < a0 := of_decide_eq_true hc
          rw [if_pos hc] at hV
          refine e_iconst (c := 0) f_112_32 (by decide) ?_
          exact e_ireturn f_112_33 rt_112 rfl hV
        · have hc : ¬ (57 : Int32) < a0 := fun z => hc (decide_eq_true z)
          rw [if_neg hc] at hV
          refine e_iconst (c := 2) f_112_28 (by decide) ?_
          refine e_goto f_112_29 ?_
          exact e_ireturn f_112_33 rt_112 rfl hV
    · have hc : ¬ (122 : Int32) < a0 := fun z => hc (decide_eq_true z)
      rw [if_neg hc] at hV
      refine e_iconst (c := 1) f_112_12 (by decide) ?_
      refine e_goto f_112_13 ?_
      exact e_ireturn f_112_33 rt_112 rfl hV
set_option maxRecDepth 20000 in
theorem T_113_0 {xs : List Int32} {d : Nat} {S : x_M} {Q : Option Value → x_M → Prop}   (hV : ∃ P1 : Int32 → x_M → Prop, x_Ci xs d 114 [.ref 56, .int 5638196, .int 5] S P1 ∧ ∀ (v1 : Int32) (S1 : x_M), P1 v1 S1 → (if v1 = 0 then (Q (some (.int 0)) (x_up S1 56 3 1)) else (∃ P2 : x_M → Prop, x_Cv xs d 111 [.ref 56] S1 P2 ∧ ∀ (S2 : x_M), P2 S2 → (x_E xs (d + 1) 113 23 [.ref 56, .int 0, .null] [] S2 Q)))) : x_E xs (d + 1) 113 0 [.ref 56, .null, .null] [] S Q := by
  refine e_aload f_113_0 rfl (by decide) ?_
  refine e_iconst (c := 5638196) f_113_1 (by decide) ?_
  refine e_iconst (c := 5) f_113_3 (by decide) ?_
  obtain ⟨P1, hP1, hV⟩ := hV
  refine e_vi (n := 3) (A := [.ref 56, .int 5638196, .int 5]) (R := []) f_113_4 na_114 rfl rfl (Nat.le_of_ble_eq_true rfl) (Nat.le_of_ble_eq_true rfl) (by rw [ml_114]; exact Nat.le_of_ble_eq_true rfl) rfl (by rw [cy_114]; decide) (by rw [cy_114]; exact (by decide : x_tg 56 = 6)) hP1 (fun v1 S1 hp1 => ?_)
  have hV := hV v1 S1 hp1
  refine e_if f_113_7 (fun hc => ?_) (fun hc => ?_)
  · have hc : ¬ v1 = 0 := of_decide_eq_true hc
    rw [if_neg hc] at hV
    refine e_aload f_113_17 rfl (by decide) ?_
    obtain ⟨P2, hP2, hV⟩ := hV
    refine e_vv (n := 1) (A := [.ref 56]) (R := []) f_113_18 na_111 rfl rfl (Nat.le_of_ble_eq_true rfl) (Nat.le_of_ble_eq_true rfl) (by rw [ml_111]; exact Nat.le_of_ble_eq_true rfl) rfl (by rw [cy_111]; decide) (by rw [cy_111]; exact (by decide : x_tg 56 = 6)) hP2 (fun S2 hp2 => ?_)
    have hV := hV S2 hp2
    refine e_iconst (c := 0) f_113_21 (by decide) ?_
    refine e_istore (L' := [.ref 56, .int 0, .null]) f_113_22 (Nat.le_of_ble_eq_true rfl) rfl ?_
    exact hV
  · have hc : v1 = 0 := Decidable.not_not.mp (fun z => hc (decide_eq_true z))
    rw [if_pos hc] at hV
    refine e_aload f_113_10 rfl (by decide) ?_
    refine e_iconst (c := 1) f_113_11 (by decide) ?_
    refine e_pf (c := 6) (j := 3) f_113_12 (by decide) (by decide) (by decide) (x_fit_i rfl) ?_
    refine e_iconst (c := 0) f_113_15 (by decide) ?_
    exact e_ireturn f_113_16 rt_113 (by decide) hV
set_option maxRecDepth 20000 in
theorem T_113_23 {xs : List Int32} {d : Nat} {S : x_M} {Q : Option Value → x_M → Prop} {a1 : Int32} {a2 : Value}  (hV : if (9 : Int32) ≤ a1 then (∃ P1 : Int32 → x_M → Prop, x_Ci xs d 116 [.ref 56] S P1 ∧ ∀ (v1 : Int32) (S1 : x_M), P1 v1 S1 → ((v1 = 0 ∨ v1 = 1) ∧ Q (some (.int v1)) S1)) else (∃ P2 : Int32 → x_M → Prop, x_Ci xs d 115 [.ref 56, .int 99] S P2 ∧ ∀ (v2 : Int32) (S2 : x_M), P2 v2 S2 → (if v2 = (-1000000) then (Q (some (.int 0)) S2) else ((x_ib a1 9) ∧ (x_E xs (d + 1) 113 23 [.ref 56, .int (a1 + 1), .int v2] [] (x_up S2 63 (Int32.toNatClampNeg a1) v2) Q))))) : x_E xs (d + 1) 113 23 [.ref 56, .int a1, a2] [] S Q := by
  refine e_iload f_113_23 rfl ?_
  refine e_iconst (c := 9) f_113_24 (by decide) ?_
  refine e_icmp f_113_26 (fun hc => ?_) (fun hc => ?_)
  · have hc : (9 : Int32) ≤ a1 := of_decide_eq_true hc
    rw [if_pos hc] at hV
    refine e_aload f_113_57 rfl (by decide) ?_
    obtain ⟨P1, hP1, hV⟩ := hV
    refine e_vi (n := 1) (A := [.ref 56]) (R := []) f_113_58 na_116 rfl rfl (Nat.le_of_ble_eq_true rfl) (Nat.le_of_ble_eq_true rfl) (by rw [ml_116]; exact Nat.le_of_ble_eq_true rfl) rfl (by rw [cy_116]; decide) (by rw [cy_116]; exact (by decide : x_tg 56 = 6)) hP1 (fun v1 S1 hp1 => ?_)
    have hV := hV v1 S1 hp1
    obtain ⟨hg, hV⟩ := hV
    exact e_ireturn f_113_61 rt_113 (x_nz hg) hV
  · have hc : ¬ (9 : Int32) ≤ a1 := fun z => hc (decide_eq_true z)
    rw [if_neg hc] at hV
    refine e_aload f_113_29 rfl (by decide) ?_
    refine e_iconst (c := 99) f_113_30 (by decide) ?_
    obtain ⟨P2, hP2, hV⟩ := hV
    refine e_vi (n := 2) (A := [.ref 56, .int 99]) (R := []) f_113_32 na_115 rfl rfl (Nat.le_of_ble_eq_true rfl) (Nat.le_of_ble_eq_true rfl) (by rw [ml_115]; exact Nat.le_of_ble_eq_true rfl) rfl (by rw [cy_115]; decide) (by rw [cy_115]; exact (by decide : x_tg 56 = 6)) hP2 (fun v2 S2 hp2 => ?_)
    have hV := hV v2 S2 hp2
    refine e_istore (L' := [.ref 56, .int a1, .int v2]) f_113_35 (Nat.le_of_ble_eq_true rfl) rfl ?_
    refine e_iload f_113_36 rfl ?_
    refine e_iconst (c := (-1000000)) f_113_37 (by decide) ?_
    refine e_icmp f_113_39 (fun hc => ?_) (fun hc => ?_)
    · have hc : ¬ v2 = (-1000000) := of_decide_eq_true hc
      rw [if_neg hc] at hV
      refine e_aload f_113_44 rfl (by decide) ?_
      refine e_gr (c := 6) (j := 13) (r := 63) f_113_45 (by decide) (by decide) (by decide) (by decide) ?_
      refine e_iload f_113_48 rfl ?_
      refine e_iload f_113_49 rfl ?_
      obtain ⟨hg, hV⟩ := hV
      refine e_is (n := 9) f_113_50 (by decide) (by decide) hg ?_
      refine e_inc (c := 1) (L' := [.ref 56, .int (a1 + 1), .int v2]) f_113_51 rfl (by decide) rfl ?_
      refine e_goto f_113_54 ?_
      exact hV
    · have hc : v2 = (-1000000) := Decidable.not_not.mp (fun z => hc (decide_eq_true z))
      rw [if_pos hc] at hV
      refine e_iconst (c := 0) f_113_42 (by decide) ?_
      exact e_ireturn f_113_43 rt_113 (by decide) hV
set_option maxRecDepth 20000 in
theorem T_114_0 {xs : List Int32} {d : Nat} {S : x_M} {Q : Option Value → x_M → Prop} {a1 : Int32} {a2 : Int32}  (hV : if ((S 56 12) - (S 56 11)) = a2 then (x_E xs (d + 1) 114 22 [.ref 56, .int a1, .int a2, .int 1, .int 0] [] S Q) else (x_E xs (d + 1) 114 22 [.ref 56, .int a1, .int a2, .int 0, .int 0] [] S Q)) : x_E xs (d + 1) 114 0 [.ref 56, .int a1, .int a2, .null, .null] [] S Q := by
  refine e_aload f_114_0 rfl (by decide) ?_
  refine e_gf (c := 6) (j := 12) f_114_1 (by decide) (by decide) (by decide) ?_
  refine e_aload f_114_4 rfl (by decide) ?_
  refine e_gf (c := 6) (j := 11) f_114_5 (by decide) (by decide) (by decide) ?_
  refine e_isub f_114_8 ?_
  refine e_iload f_114_9 rfl ?_
  refine e_icmp f_114_10 (fun hc => ?_) (fun hc => ?_)
  · have hc : ¬ ((S 56 12) - (S 56 11)) = a2 := of_decide_eq_true hc
    rw [if_neg hc] at hV
    refine e_iconst (c := 0) f_114_17 (by decide) ?_
    refine e_istore (L' := [.ref 56, .int a1, .int a2, .int 0, .null]) f_114_18 (Nat.le_of_ble_eq_true rfl) rfl ?_
    refine e_iconst (c := 0) f_114_19 (by decide) ?_
    refine e_istore (L' := [.ref 56, .int a1, .int a2, .int 0, .int 0]) f_114_20 (Nat.le_of_ble_eq_true rfl) rfl ?_
    exact hV
  · have hc : ((S 56 12) - (S 56 11)) = a2 := Decidable.not_not.mp (fun z => hc (decide_eq_true z))
    rw [if_pos hc] at hV
    refine e_iconst (c := 1) f_114_13 (by decide) ?_
    refine e_goto f_114_14 ?_
    refine e_istore (L' := [.ref 56, .int a1, .int a2, .int 1, .null]) f_114_18 (Nat.le_of_ble_eq_true rfl) rfl ?_
    refine e_iconst (c := 0) f_114_19 (by decide) ?_
    refine e_istore (L' := [.ref 56, .int a1, .int a2, .int 1, .int 0]) f_114_20 (Nat.le_of_ble_eq_true rfl) rfl ?_
    exact hV
set_option maxRecDepth 20000 in
theorem T_114_22 {xs : List Int32} {d : Nat} {S : x_M} {Q : Option Value → x_M → Prop} {a1 : Int32} {a2 : Int32} {a3 : Int32} {a4 : Int32}  (hV : if a3 = 0 then ((a3 = 0 ∨ a3 = 1) ∧ Q (some (.int a3)) S) else (if a2 ≤ a4 then ((a3 = 0 ∨ a3 = 1) ∧ Q (some (.int a3)) S) else ((x_ib ((S 56 11) + a4) 400) ∧ (if (S 58 (Int32.toNatClampNeg ((S 56 11) + a4))) = (96 + ((a1 >>> ((5 * a4) &&& 31)) &&& 31)) then (x_E xs (d + 1) 114 22 [.ref 56, .int a1, .int a2, .int 1, .int (a4 + 1)] [] S Q) else (x_E xs (d + 1) 114 22 [.ref 56, .int a1, .int a2, .int 0, .int (a4 + 1)] [] S Q))))) : x_E xs (d + 1) 114 22 [.ref 56, .int a1, .int a2, .int a3, .int a4] [] S Q := by
  refine e_iload f_114_22 rfl ?_
  refine e_if f_114_23 (fun hc => ?_) (fun hc => ?_)
  · have hc : a3 = 0 := of_decide_eq_true hc
    rw [if_pos hc] at hV
    refine e_iload f_114_71 rfl ?_
    obtain ⟨hg, hV⟩ := hV
    exact e_ireturn f_114_72 rt_114 (x_nz hg) hV
  · have hc : ¬ a3 = 0 := fun z => hc (decide_eq_true z)
    rw [if_neg hc] at hV
    refine e_iload f_114_26 rfl ?_
    refine e_iload f_114_28 rfl ?_
    refine e_icmp f_114_29 (fun hc => ?_) (fun hc => ?_)
    · have hc : a2 ≤ a4 := of_decide_eq_true hc
      rw [if_pos hc] at hV
      refine e_iload f_114_71 rfl ?_
      obtain ⟨hg, hV⟩ := hV
      exact e_ireturn f_114_72 rt_114 (x_nz hg) hV
    · have hc : ¬ a2 ≤ a4 := fun z => hc (decide_eq_true z)
      rw [if_neg hc] at hV
      refine e_aload f_114_32 rfl (by decide) ?_
      refine e_gr (c := 6) (j := 1) (r := 58) f_114_33 (by decide) (by decide) (by decide) (by decide) ?_
      refine e_aload f_114_36 rfl (by decide) ?_
      refine e_gf (c := 6) (j := 11) f_114_37 (by decide) (by decide) (by decide) ?_
      refine e_iload f_114_40 rfl ?_
      refine e_iadd f_114_42 ?_
      obtain ⟨hg, hV⟩ := hV
      refine e_ia (n := 400) f_114_43 (by decide) (by decide) hg ?_
      refine e_iconst (c := 96) f_114_44 (by decide) ?_
      refine e_iload f_114_46 rfl ?_
      refine e_iconst (c := 5) f_114_47 (by decide) ?_
      refine e_iload f_114_48 rfl ?_
      refine e_imul f_114_50 ?_
      refine e_ishr f_114_51 ?_
      refine e_iconst (c := 31) f_114_52 (by decide) ?_
      refine e_iand f_114_54 ?_
      refine e_iadd f_114_55 ?_
      refine e_icmp f_114_56 (fun hc => ?_) (fun hc => ?_)
      · have hc : ¬ (S 58 (Int32.toNatClampNeg ((S 56 11) + a4))) = (96 + ((a1 >>> ((5 * a4) &&& 31)) &&& 31)) := of_decide_eq_true hc
        rw [if_neg hc] at hV
        refine e_iconst (c := 0) f_114_63 (by decide) ?_
        refine e_istore (L' := [.ref 56, .int a1, .int a2, .int 0, .int a4]) f_114_64 (Nat.le_of_ble_eq_true rfl) rfl ?_
        refine e_inc (c := 1) (L' := [.ref 56, .int a1, .int a2, .int 0, .int (a4 + 1)]) f_114_65 rfl (by decide) rfl ?_
        refine e_goto f_114_68 ?_
        exact hV
      · have hc : (S 58 (Int32.toNatClampNeg ((S 56 11) + a4))) = (96 + ((a1 >>> ((5 * a4) &&& 31)) &&& 31)) := Decidable.not_not.mp (fun z => hc (decide_eq_true z))
        rw [if_pos hc] at hV
        refine e_iconst (c := 1) f_114_59 (by decide) ?_
        refine e_goto f_114_60 ?_
        refine e_istore (L' := [.ref 56, .int a1, .int a2, .int 1, .int a4]) f_114_64 (Nat.le_of_ble_eq_true rfl) rfl ?_
        refine e_inc (c := 1) (L' := [.ref 56, .int a1, .int a2, .int 1, .int (a4 + 1)]) f_114_65 rfl (by decide) rfl ?_
        refine e_goto f_114_68 ?_
        exact hV
set_option maxRecDepth 20000 in
theorem T_115_0 {xs : List Int32} {d : Nat} {S : x_M} {Q : Option Value → x_M → Prop} {a1 : Int32}  (hV : if (S 56 11) = (S 56 2) then (Q (some (.int (-1000000))) (x_up S 56 3 1)) else ((x_ib (S 56 11) 400) ∧ (∃ P1 : Int32 → x_M → Prop, x_Ci xs d 112 [.int (S 58 (Int32.toNatClampNeg (S 56 11)))] S P1 ∧ ∀ (v1 : Int32) (S1 : x_M), P1 v1 S1 → (if v1 = 2 then (x_E xs (d + 1) 115 42 [.ref 56, .int a1, .int 0, .int (S1 56 11)] [] S1 Q) else (Q (some (.int (-1000000))) (x_up S1 56 3 1)))))) : x_E xs (d + 1) 115 0 [.ref 56, .int a1, .null, .null] [] S Q := by
  refine e_aload f_115_0 rfl (by decide) ?_
  refine e_gf (c := 6) (j := 11) f_115_1 (by decide) (by decide) (by decide) ?_
  refine e_aload f_115_4 rfl (by decide) ?_
  refine e_gf (c := 6) (j := 2) f_115_5 (by decide) (by decide) (by decide) ?_
  refine e_icmp f_115_8 (fun hc => ?_) (fun hc => ?_)
  · have hc : (S 56 11) = (S 56 2) := of_decide_eq_true hc
    rw [if_pos hc] at hV
    refine e_aload f_115_27 rfl (by decide) ?_
    refine e_iconst (c := 1) f_115_28 (by decide) ?_
    refine e_pf (c := 6) (j := 3) f_115_29 (by decide) (by decide) (by decide) (x_fit_i rfl) ?_
    refine e_iconst (c := (-1000000)) f_115_32 (by decide) ?_
    exact e_ireturn f_115_34 rt_115 rfl hV
  · have hc : ¬ (S 56 11) = (S 56 2) := fun z => hc (decide_eq_true z)
    rw [if_neg hc] at hV
    refine e_aload f_115_11 rfl (by decide) ?_
    refine e_gr (c := 6) (j := 1) (r := 58) f_115_12 (by decide) (by decide) (by decide) (by decide) ?_
    refine e_aload f_115_15 rfl (by decide) ?_
    refine e_gf (c := 6) (j := 11) f_115_16 (by decide) (by decide) (by decide) ?_
    obtain ⟨hg, hV⟩ := hV
    refine e_ia (n := 400) f_115_19 (by decide) (by decide) hg ?_
    obtain ⟨P1, hP1, hV⟩ := hV
    refine e_si (n := 1) (A := [.int (S 58 (Int32.toNatClampNeg (S 56 11)))]) (R := []) f_115_20 na_112 rfl rfl (Nat.le_of_ble_eq_true rfl) (Nat.le_of_ble_eq_true rfl) (by rw [ml_112]; exact Nat.le_of_ble_eq_true rfl) hP1 (fun v1 S1 hp1 => ?_)
    have hV := hV v1 S1 hp1
    refine e_iconst (c := 2) f_115_23 (by decide) ?_
    refine e_icmp f_115_24 (fun hc => ?_) (fun hc => ?_)
    · have hc : v1 = 2 := of_decide_eq_true hc
      rw [if_pos hc] at hV
      refine e_iconst (c := 0) f_115_35 (by decide) ?_
      refine e_istore (L' := [.ref 56, .int a1, .int 0, .null]) f_115_36 (Nat.le_of_ble_eq_true rfl) rfl ?_
      refine e_aload f_115_37 rfl (by decide) ?_
      refine e_gf (c := 6) (j := 11) f_115_38 (by decide) (by decide) (by decide) ?_
      refine e_istore (L' := [.ref 56, .int a1, .int 0, .int (S1 56 11)]) f_115_41 (Nat.le_of_ble_eq_true rfl) rfl ?_
      exact hV
    · have hc : ¬ v1 = 2 := fun z => hc (decide_eq_true z)
      rw [if_neg hc] at hV
      refine e_aload f_115_27 rfl (by decide) ?_
      refine e_iconst (c := 1) f_115_28 (by decide) ?_
      refine e_pf (c := 6) (j := 3) f_115_29 (by decide) (by decide) (by decide) (x_fit_i rfl) ?_
      refine e_iconst (c := (-1000000)) f_115_32 (by decide) ?_
      exact e_ireturn f_115_34 rt_115 rfl hV
set_option maxRecDepth 20000 in
theorem T_115_42 {xs : List Int32} {d : Nat} {S : x_M} {Q : Option Value → x_M → Prop} {a1 : Int32} {a2 : Int32} {a3 : Int32}  (hV : if (S 56 12) ≤ a3 then (x_E xs (d + 1) 115 81 [.ref 56, .int a1, .int a2, .int a3] [] S Q) else (if ((S 56 11) + 4) ≤ a3 then (x_E xs (d + 1) 115 81 [.ref 56, .int a1, .int a2, .int a3] [] S Q) else ((x_ib a3 400) ∧ (x_E xs (d + 1) 115 42 [.ref 56, .int a1, .int (((10 * a2) + (S 58 (Int32.toNatClampNeg a3))) - 48), .int (a3 + 1)] [] S Q)))) : x_E xs (d + 1) 115 42 [.ref 56, .int a1, .int a2, .int a3] [] S Q := by
  refine e_iload f_115_42 rfl ?_
  refine e_aload f_115_43 rfl (by decide) ?_
  refine e_gf (c := 6) (j := 12) f_115_44 (by decide) (by decide) (by decide) ?_
  refine e_icmp f_115_47 (fun hc => ?_) (fun hc => ?_)
  · have hc : (S 56 12) ≤ a3 := of_decide_eq_true hc
    rw [if_pos hc] at hV
    exact hV
  · have hc : ¬ (S 56 12) ≤ a3 := fun z => hc (decide_eq_true z)
    rw [if_neg hc] at hV
    refine e_iload f_115_50 rfl ?_
    refine e_aload f_115_51 rfl (by decide) ?_
    refine e_gf (c := 6) (j := 11) f_115_52 (by decide) (by decide) (by decide) ?_
    refine e_iconst (c := 4) f_115_55 (by decide) ?_
    refine e_iadd f_115_56 ?_
    refine e_icmp f_115_57 (fun hc => ?_) (fun hc => ?_)
    · have hc : ((S 56 11) + 4) ≤ a3 := of_decide_eq_true hc
      rw [if_pos hc] at hV
      exact hV
    · have hc : ¬ ((S 56 11) + 4) ≤ a3 := fun z => hc (decide_eq_true z)
      rw [if_neg hc] at hV
      refine e_iconst (c := 10) f_115_60 (by decide) ?_
      refine e_iload f_115_62 rfl ?_
      refine e_imul f_115_63 ?_
      refine e_aload f_115_64 rfl (by decide) ?_
      refine e_gr (c := 6) (j := 1) (r := 58) f_115_65 (by decide) (by decide) (by decide) (by decide) ?_
      refine e_iload f_115_68 rfl ?_
      obtain ⟨hg, hV⟩ := hV
      refine e_ia (n := 400) f_115_69 (by decide) (by decide) hg ?_
      refine e_iadd f_115_70 ?_
      refine e_iconst (c := 48) f_115_71 (by decide) ?_
      refine e_isub f_115_73 ?_
      refine e_istore (L' := [.ref 56, .int a1, .int (((10 * a2) + (S 58 (Int32.toNatClampNeg a3))) - 48), .int a3]) f_115_74 (Nat.le_of_ble_eq_true rfl) rfl ?_
      refine e_inc (c := 1) (L' := [.ref 56, .int a1, .int (((10 * a2) + (S 58 (Int32.toNatClampNeg a3))) - 48), .int (a3 + 1)]) f_115_75 rfl (by decide) rfl ?_
      refine e_goto f_115_78 ?_
      exact hV
set_option maxRecDepth 20000 in
theorem T_115_81 {xs : List Int32} {d : Nat} {S : x_M} {Q : Option Value → x_M → Prop} {a1 : Int32} {a2 : Int32} {a3 : Int32}  (hV : if (3 : Int32) < ((S 56 12) - (S 56 11)) then (if ((S 56 12) - (S 56 11)) ≤ 3 then (Q (some (.int (-1000000))) (x_up S 56 3 2)) else (Q (some (.int (-1000000))) (x_up S 56 3 1))) else (if a2 ≤ a1 then (∃ P1 : x_M → Prop, x_Cv xs d 111 [.ref 56] S P1 ∧ ∀ (S1 : x_M), P1 S1 → (Q (some (.int a2)) S1)) else (if ((S 56 12) - (S 56 11)) ≤ 3 then (Q (some (.int (-1000000))) (x_up S 56 3 2)) else (Q (some (.int (-1000000))) (x_up S 56 3 1))))) : x_E xs (d + 1) 115 81 [.ref 56, .int a1, .int a2, .int a3] [] S Q := by
  refine e_aload f_115_81 rfl (by decide) ?_
  refine e_gf (c := 6) (j := 12) f_115_82 (by decide) (by decide) (by decide) ?_
  refine e_aload f_115_85 rfl (by decide) ?_
  refine e_gf (c := 6) (j := 11) f_115_86 (by decide) (by decide) (by decide) ?_
  refine e_isub f_115_89 ?_
  refine e_iconst (c := 3) f_115_90 (by decide) ?_
  refine e_icmp f_115_91 (fun hc => ?_) (fun hc => ?_)
  · have hc : (3 : Int32) < ((S 56 12) - (S 56 11)) := of_decide_eq_true hc
    rw [if_pos hc] at hV
    refine e_aload f_115_99 rfl (by decide) ?_
    refine e_aload f_115_100 rfl (by decide) ?_
    refine e_gf (c := 6) (j := 12) f_115_101 (by decide) (by decide) (by decide) ?_
    refine e_aload f_115_104 rfl (by decide) ?_
    refine e_gf (c := 6) (j := 11) f_115_105 (by decide) (by decide) (by decide) ?_
    refine e_isub f_115_108 ?_
    refine e_iconst (c := 3) f_115_109 (by decide) ?_
    refine e_icmp f_115_110 (fun hc => ?_) (fun hc => ?_)
    · have hc : ((S 56 12) - (S 56 11)) ≤ 3 := of_decide_eq_true hc
      rw [if_pos hc] at hV
      refine e_iconst (c := 2) f_115_117 (by decide) ?_
      refine e_pf (c := 6) (j := 3) f_115_118 (by decide) (by decide) (by decide) (x_fit_i rfl) ?_
      refine e_iconst (c := (-1000000)) f_115_121 (by decide) ?_
      exact e_ireturn f_115_123 rt_115 rfl hV
    · have hc : ¬ ((S 56 12) - (S 56 11)) ≤ 3 := fun z => hc (decide_eq_true z)
      rw [if_neg hc] at hV
      refine e_iconst (c := 1) f_115_113 (by decide) ?_
      refine e_goto f_115_114 ?_
      refine e_pf (c := 6) (j := 3) f_115_118 (by decide) (by decide) (by decide) (x_fit_i rfl) ?_
      refine e_iconst (c := (-1000000)) f_115_121 (by decide) ?_
      exact e_ireturn f_115_123 rt_115 rfl hV
  · have hc : ¬ (3 : Int32) < ((S 56 12) - (S 56 11)) := fun z => hc (decide_eq_true z)
    rw [if_neg hc] at hV
    refine e_iload f_115_94 rfl ?_
    refine e_iload f_115_95 rfl ?_
    refine e_icmp f_115_96 (fun hc => ?_) (fun hc => ?_)
    · have hc : a2 ≤ a1 := of_decide_eq_true hc
      rw [if_pos hc] at hV
      refine e_aload f_115_124 rfl (by decide) ?_
      obtain ⟨P1, hP1, hV⟩ := hV
      refine e_vv (n := 1) (A := [.ref 56]) (R := []) f_115_125 na_111 rfl rfl (Nat.le_of_ble_eq_true rfl) (Nat.le_of_ble_eq_true rfl) (by rw [ml_111]; exact Nat.le_of_ble_eq_true rfl) rfl (by rw [cy_111]; decide) (by rw [cy_111]; exact (by decide : x_tg 56 = 6)) hP1 (fun S1 hp1 => ?_)
      have hV := hV S1 hp1
      refine e_iload f_115_128 rfl ?_
      exact e_ireturn f_115_129 rt_115 rfl hV
    · have hc : ¬ a2 ≤ a1 := fun z => hc (decide_eq_true z)
      rw [if_neg hc] at hV
      refine e_aload f_115_99 rfl (by decide) ?_
      refine e_aload f_115_100 rfl (by decide) ?_
      refine e_gf (c := 6) (j := 12) f_115_101 (by decide) (by decide) (by decide) ?_
      refine e_aload f_115_104 rfl (by decide) ?_
      refine e_gf (c := 6) (j := 11) f_115_105 (by decide) (by decide) (by decide) ?_
      refine e_isub f_115_108 ?_
      refine e_iconst (c := 3) f_115_109 (by decide) ?_
      refine e_icmp f_115_110 (fun hc => ?_) (fun hc => ?_)
      · have hc : ((S 56 12) - (S 56 11)) ≤ 3 := of_decide_eq_true hc
        rw [if_pos hc] at hV
        refine e_iconst (c := 2) f_115_117 (by decide) ?_
        refine e_pf (c := 6) (j := 3) f_115_118 (by decide) (by decide) (by decide) (x_fit_i rfl) ?_
        refine e_iconst (c := (-1000000)) f_115_121 (by decide) ?_
        exact e_ireturn f_115_123 rt_115 rfl hV
      · have hc : ¬ ((S 56 12) - (S 56 11)) ≤ 3 := fun z => hc (decide_eq_true z)
        rw [if_neg hc] at hV
        refine e_iconst (c := 1) f_115_113 (by decide) ?_
        refine e_goto f_115_114 ?_
        refine e_pf (c := 6) (j := 3) f_115_118 (by decide) (by decide) (by decide) (x_fit_i rfl) ?_
        refine e_iconst (c := (-1000000)) f_115_121 (by decide) ?_
        exact e_ireturn f_115_123 rt_115 rfl hV
set_option maxRecDepth 20000 in
theorem T_116_0 {xs : List Int32} {d : Nat} {S : x_M} {Q : Option Value → x_M → Prop}   (hV : ∃ P1 : Int32 → x_M → Prop, x_Ci xs d 117 [.ref 56] S P1 ∧ ∀ (v1 : Int32) (S1 : x_M), P1 v1 S1 → (if v1 = 0 then (Q (some (.int 0)) (x_up S1 56 3 1)) else (∃ P2 : x_M → Prop, x_Cv xs d 111 [.ref 56] S1 P2 ∧ ∀ (S2 : x_M), P2 S2 → (Q (some (.int 1)) S2)))) : x_E xs (d + 1) 116 0 [.ref 56] [] S Q := by
  refine e_aload f_116_0 rfl (by decide) ?_
  obtain ⟨P1, hP1, hV⟩ := hV
  refine e_vi (n := 1) (A := [.ref 56]) (R := []) f_116_1 na_117 rfl rfl (Nat.le_of_ble_eq_true rfl) (Nat.le_of_ble_eq_true rfl) (by rw [ml_117]; exact Nat.le_of_ble_eq_true rfl) rfl (by rw [cy_117]; decide) (by rw [cy_117]; exact (by decide : x_tg 56 = 6)) hP1 (fun v1 S1 hp1 => ?_)
  have hV := hV v1 S1 hp1
  refine e_if f_116_4 (fun hc => ?_) (fun hc => ?_)
  · have hc : ¬ v1 = 0 := of_decide_eq_true hc
    rw [if_neg hc] at hV
    refine e_aload f_116_14 rfl (by decide) ?_
    obtain ⟨P2, hP2, hV⟩ := hV
    refine e_vv (n := 1) (A := [.ref 56]) (R := []) f_116_15 na_111 rfl rfl (Nat.le_of_ble_eq_true rfl) (Nat.le_of_ble_eq_true rfl) (by rw [ml_111]; exact Nat.le_of_ble_eq_true rfl) rfl (by rw [cy_111]; decide) (by rw [cy_111]; exact (by decide : x_tg 56 = 6)) hP2 (fun S2 hp2 => ?_)
    have hV := hV S2 hp2
    refine e_iconst (c := 1) f_116_18 (by decide) ?_
    exact e_ireturn f_116_19 rt_116 (by decide) hV
  · have hc : v1 = 0 := Decidable.not_not.mp (fun z => hc (decide_eq_true z))
    rw [if_pos hc] at hV
    refine e_aload f_116_7 rfl (by decide) ?_
    refine e_iconst (c := 1) f_116_8 (by decide) ?_
    refine e_pf (c := 6) (j := 3) f_116_9 (by decide) (by decide) (by decide) (x_fit_i rfl) ?_
    refine e_iconst (c := 0) f_116_12 (by decide) ?_
    exact e_ireturn f_116_13 rt_116 (by decide) hV
set_option maxRecDepth 20000 in
theorem T_117_0 {xs : List Int32} {d : Nat} {S : x_M} {Q : Option Value → x_M → Prop}   (hV : if (S 56 2) ≤ (S 56 11) then (Q (some (.int 0)) S) else ((x_ib (S 56 11) 400) ∧ (if (S 58 (Int32.toNatClampNeg (S 56 11))) = 59 then (Q (some (.int 1)) S) else (Q (some (.int 0)) S)))) : x_E xs (d + 1) 117 0 [.ref 56] [] S Q := by
  refine e_aload f_117_0 rfl (by decide) ?_
  refine e_gf (c := 6) (j := 11) f_117_1 (by decide) (by decide) (by decide) ?_
  refine e_aload f_117_4 rfl (by decide) ?_
  refine e_gf (c := 6) (j := 2) f_117_5 (by decide) (by decide) (by decide) ?_
  refine e_icmp f_117_8 (fun hc => ?_) (fun hc => ?_)
  · have hc : (S 56 2) ≤ (S 56 11) := of_decide_eq_true hc
    rw [if_pos hc] at hV
    refine e_iconst (c := 0) f_117_29 (by decide) ?_
    exact e_ireturn f_117_30 rt_117 (by decide) hV
  · have hc : ¬ (S 56 2) ≤ (S 56 11) := fun z => hc (decide_eq_true z)
    rw [if_neg hc] at hV
    refine e_aload f_117_11 rfl (by decide) ?_
    refine e_gr (c := 6) (j := 1) (r := 58) f_117_12 (by decide) (by decide) (by decide) (by decide) ?_
    refine e_aload f_117_15 rfl (by decide) ?_
    refine e_gf (c := 6) (j := 11) f_117_16 (by decide) (by decide) (by decide) ?_
    obtain ⟨hg, hV⟩ := hV
    refine e_ia (n := 400) f_117_19 (by decide) (by decide) hg ?_
    refine e_iconst (c := 59) f_117_20 (by decide) ?_
    refine e_icmp f_117_22 (fun hc => ?_) (fun hc => ?_)
    · have hc : ¬ (S 58 (Int32.toNatClampNeg (S 56 11))) = 59 := of_decide_eq_true hc
      rw [if_neg hc] at hV
      refine e_iconst (c := 0) f_117_29 (by decide) ?_
      exact e_ireturn f_117_30 rt_117 (by decide) hV
    · have hc : (S 58 (Int32.toNatClampNeg (S 56 11))) = 59 := Decidable.not_not.mp (fun z => hc (decide_eq_true z))
      rw [if_pos hc] at hV
      refine e_iconst (c := 1) f_117_25 (by decide) ?_
      refine e_goto f_117_26 ?_
      exact e_ireturn f_117_30 rt_117 (by decide) hV
set_option maxRecDepth 20000 in
theorem T_118_0 {xs : List Int32} {d : Nat} {S : x_M} {Q : Option Value → x_M → Prop}   (hV : ∃ P1 : Int32 → x_M → Prop, x_Ci xs d 114 [.ref 56, .int 149539, .int 4] S P1 ∧ ∀ (v1 : Int32) (S1 : x_M), P1 v1 S1 → (if v1 = 0 then (Q (some (.int 0)) (x_up S1 56 3 1)) else (if (S1 56 16) = 14 then (Q (some (.int 0)) (x_up S1 56 3 3)) else (∃ P2 : x_M → Prop, x_Cv xs d 111 [.ref 56] S1 P2 ∧ ∀ (S2 : x_M), P2 S2 → (∃ P3 : Int32 → x_M → Prop, x_Ci xs d 119 [.ref 56] S2 P3 ∧ ∀ (v3 : Int32) (S3 : x_M), P3 v3 S3 → (if v3 = 0 then (Q (some (.int 0)) S3) else (∃ P4 : Int32 → x_M → Prop, x_Ci xs d 115 [.ref 56, .int 1] S3 P4 ∧ ∀ (v4 : Int32) (S4 : x_M), P4 v4 S4 → (if v4 = (-1000000) then (Q (some (.int 0)) S4) else ((x_ib (S4 56 16) 14) ∧ (∃ P5 : Int32 → x_M → Prop, x_Ci xs d 116 [.ref 56] (x_up (x_up S4 65 (Int32.toNatClampNeg (S4 56 16)) v4) 56 16 (((x_up S4 65 (Int32.toNatClampNeg (S4 56 16)) v4) 56 16) + 1)) P5 ∧ ∀ (v5 : Int32) (S5 : x_M), P5 v5 S5 → ((v5 = 0 ∨ v5 = 1) ∧ Q (some (.int v5)) S5))))))))))) : x_E xs (d + 1) 118 0 [.ref 56, .null] [] S Q := by
  refine e_aload f_118_0 rfl (by decide) ?_
  refine e_iconst (c := 149539) f_118_1 (by decide) ?_
  refine e_iconst (c := 4) f_118_3 (by decide) ?_
  obtain ⟨P1, hP1, hV⟩ := hV
  refine e_vi (n := 3) (A := [.ref 56, .int 149539, .int 4]) (R := []) f_118_4 na_114 rfl rfl (Nat.le_of_ble_eq_true rfl) (Nat.le_of_ble_eq_true rfl) (by rw [ml_114]; exact Nat.le_of_ble_eq_true rfl) rfl (by rw [cy_114]; decide) (by rw [cy_114]; exact (by decide : x_tg 56 = 6)) hP1 (fun v1 S1 hp1 => ?_)
  have hV := hV v1 S1 hp1
  refine e_if f_118_7 (fun hc => ?_) (fun hc => ?_)
  · have hc : ¬ v1 = 0 := of_decide_eq_true hc
    rw [if_neg hc] at hV
    refine e_aload f_118_17 rfl (by decide) ?_
    refine e_gf (c := 6) (j := 16) f_118_18 (by decide) (by decide) (by decide) ?_
    refine e_iconst (c := 14) f_118_21 (by decide) ?_
    refine e_icmp f_118_23 (fun hc => ?_) (fun hc => ?_)
    · have hc : ¬ (S1 56 16) = 14 := of_decide_eq_true hc
      rw [if_neg hc] at hV
      refine e_aload f_118_33 rfl (by decide) ?_
      obtain ⟨P2, hP2, hV⟩ := hV
      refine e_vv (n := 1) (A := [.ref 56]) (R := []) f_118_34 na_111 rfl rfl (Nat.le_of_ble_eq_true rfl) (Nat.le_of_ble_eq_true rfl) (by rw [ml_111]; exact Nat.le_of_ble_eq_true rfl) rfl (by rw [cy_111]; decide) (by rw [cy_111]; exact (by decide : x_tg 56 = 6)) hP2 (fun S2 hp2 => ?_)
      have hV := hV S2 hp2
      refine e_aload f_118_37 rfl (by decide) ?_
      obtain ⟨P3, hP3, hV⟩ := hV
      refine e_vi (n := 1) (A := [.ref 56]) (R := []) f_118_38 na_119 rfl rfl (Nat.le_of_ble_eq_true rfl) (Nat.le_of_ble_eq_true rfl) (by rw [ml_119]; exact Nat.le_of_ble_eq_true rfl) rfl (by rw [cy_119]; decide) (by rw [cy_119]; exact (by decide : x_tg 56 = 6)) hP3 (fun v3 S3 hp3 => ?_)
      have hV := hV v3 S3 hp3
      refine e_if f_118_41 (fun hc => ?_) (fun hc => ?_)
      · have hc : ¬ v3 = 0 := of_decide_eq_true hc
        rw [if_neg hc] at hV
        refine e_aload f_118_46 rfl (by decide) ?_
        refine e_iconst (c := 1) f_118_47 (by decide) ?_
        obtain ⟨P4, hP4, hV⟩ := hV
        refine e_vi (n := 2) (A := [.ref 56, .int 1]) (R := []) f_118_48 na_115 rfl rfl (Nat.le_of_ble_eq_true rfl) (Nat.le_of_ble_eq_true rfl) (by rw [ml_115]; exact Nat.le_of_ble_eq_true rfl) rfl (by rw [cy_115]; decide) (by rw [cy_115]; exact (by decide : x_tg 56 = 6)) hP4 (fun v4 S4 hp4 => ?_)
        have hV := hV v4 S4 hp4
        refine e_istore (L' := [.ref 56, .int v4]) f_118_51 (Nat.le_of_ble_eq_true rfl) rfl ?_
        refine e_iload f_118_52 rfl ?_
        refine e_iconst (c := (-1000000)) f_118_53 (by decide) ?_
        refine e_icmp f_118_55 (fun hc => ?_) (fun hc => ?_)
        · have hc : ¬ v4 = (-1000000) := of_decide_eq_true hc
          rw [if_neg hc] at hV
          refine e_aload f_118_60 rfl (by decide) ?_
          refine e_gr (c := 6) (j := 15) (r := 65) f_118_61 (by decide) (by decide) (by decide) (by decide) ?_
          refine e_aload f_118_64 rfl (by decide) ?_
          refine e_gf (c := 6) (j := 16) f_118_65 (by decide) (by decide) (by decide) ?_
          refine e_iload f_118_68 rfl ?_
          obtain ⟨hg, hV⟩ := hV
          refine e_is (n := 14) f_118_69 (by decide) (by decide) hg ?_
          refine e_aload f_118_70 rfl (by decide) ?_
          refine e_dup f_118_71 rfl ?_
          refine e_gf (c := 6) (j := 16) f_118_72 (by decide) (by decide) (by decide) ?_
          refine e_iconst (c := 1) f_118_75 (by decide) ?_
          refine e_iadd f_118_76 ?_
          refine e_pf (c := 6) (j := 16) f_118_77 (by decide) (by decide) (by decide) (x_fit_i rfl) ?_
          refine e_aload f_118_80 rfl (by decide) ?_
          obtain ⟨P5, hP5, hV⟩ := hV
          refine e_vi (n := 1) (A := [.ref 56]) (R := []) f_118_81 na_116 rfl rfl (Nat.le_of_ble_eq_true rfl) (Nat.le_of_ble_eq_true rfl) (by rw [ml_116]; exact Nat.le_of_ble_eq_true rfl) rfl (by rw [cy_116]; decide) (by rw [cy_116]; exact (by decide : x_tg 56 = 6)) hP5 (fun v5 S5 hp5 => ?_)
          have hV := hV v5 S5 hp5
          obtain ⟨hg, hV⟩ := hV
          exact e_ireturn f_118_84 rt_118 (x_nz hg) hV
        · have hc : v4 = (-1000000) := Decidable.not_not.mp (fun z => hc (decide_eq_true z))
          rw [if_pos hc] at hV
          refine e_iconst (c := 0) f_118_58 (by decide) ?_
          exact e_ireturn f_118_59 rt_118 (by decide) hV
      · have hc : v3 = 0 := Decidable.not_not.mp (fun z => hc (decide_eq_true z))
        rw [if_pos hc] at hV
        refine e_iconst (c := 0) f_118_44 (by decide) ?_
        exact e_ireturn f_118_45 rt_118 (by decide) hV
    · have hc : (S1 56 16) = 14 := Decidable.not_not.mp (fun z => hc (decide_eq_true z))
      rw [if_pos hc] at hV
      refine e_aload f_118_26 rfl (by decide) ?_
      refine e_iconst (c := 3) f_118_27 (by decide) ?_
      refine e_pf (c := 6) (j := 3) f_118_28 (by decide) (by decide) (by decide) (x_fit_i rfl) ?_
      refine e_iconst (c := 0) f_118_31 (by decide) ?_
      exact e_ireturn f_118_32 rt_118 (by decide) hV
  · have hc : v1 = 0 := Decidable.not_not.mp (fun z => hc (decide_eq_true z))
    rw [if_pos hc] at hV
    refine e_aload f_118_10 rfl (by decide) ?_
    refine e_iconst (c := 1) f_118_11 (by decide) ?_
    refine e_pf (c := 6) (j := 3) f_118_12 (by decide) (by decide) (by decide) (x_fit_i rfl) ?_
    refine e_iconst (c := 0) f_118_15 (by decide) ?_
    exact e_ireturn f_118_16 rt_118 (by decide) hV
set_option maxRecDepth 20000 in
theorem T_119_0 {xs : List Int32} {d : Nat} {S : x_M} {Q : Option Value → x_M → Prop}   (hV : if (S 56 2) ≤ (S 56 11) then (x_E xs (d + 1) 119 35 [.ref 56, .int 0, .int 0, .int 0] [] S Q) else (if ((S 56 12) - (S 56 11)) = 9 then (x_E xs (d + 1) 119 35 [.ref 56, .int 0, .int 1, .int 0] [] S Q) else (x_E xs (d + 1) 119 35 [.ref 56, .int 0, .int 0, .int 0] [] S Q))) : x_E xs (d + 1) 119 0 [.ref 56, .null, .null, .null] [] S Q := by
  refine e_iconst (c := 0) f_119_0 (by decide) ?_
  refine e_istore (L' := [.ref 56, .int 0, .null, .null]) f_119_1 (Nat.le_of_ble_eq_true rfl) rfl ?_
  refine e_aload f_119_2 rfl (by decide) ?_
  refine e_gf (c := 6) (j := 11) f_119_3 (by decide) (by decide) (by decide) ?_
  refine e_aload f_119_6 rfl (by decide) ?_
  refine e_gf (c := 6) (j := 2) f_119_7 (by decide) (by decide) (by decide) ?_
  refine e_icmp f_119_10 (fun hc => ?_) (fun hc => ?_)
  · have hc : (S 56 2) ≤ (S 56 11) := of_decide_eq_true hc
    rw [if_pos hc] at hV
    refine e_iconst (c := 0) f_119_31 (by decide) ?_
    refine e_istore (L' := [.ref 56, .int 0, .int 0, .null]) f_119_32 (Nat.le_of_ble_eq_true rfl) rfl ?_
    refine e_iconst (c := 0) f_119_33 (by decide) ?_
    refine e_istore (L' := [.ref 56, .int 0, .int 0, .int 0]) f_119_34 (Nat.le_of_ble_eq_true rfl) rfl ?_
    exact hV
  · have hc : ¬ (S 56 2) ≤ (S 56 11) := fun z => hc (decide_eq_true z)
    rw [if_neg hc] at hV
    refine e_aload f_119_13 rfl (by decide) ?_
    refine e_gf (c := 6) (j := 12) f_119_14 (by decide) (by decide) (by decide) ?_
    refine e_aload f_119_17 rfl (by decide) ?_
    refine e_gf (c := 6) (j := 11) f_119_18 (by decide) (by decide) (by decide) ?_
    refine e_isub f_119_21 ?_
    refine e_iconst (c := 9) f_119_22 (by decide) ?_
    refine e_icmp f_119_24 (fun hc => ?_) (fun hc => ?_)
    · have hc : ¬ ((S 56 12) - (S 56 11)) = 9 := of_decide_eq_true hc
      rw [if_neg hc] at hV
      refine e_iconst (c := 0) f_119_31 (by decide) ?_
      refine e_istore (L' := [.ref 56, .int 0, .int 0, .null]) f_119_32 (Nat.le_of_ble_eq_true rfl) rfl ?_
      refine e_iconst (c := 0) f_119_33 (by decide) ?_
      refine e_istore (L' := [.ref 56, .int 0, .int 0, .int 0]) f_119_34 (Nat.le_of_ble_eq_true rfl) rfl ?_
      exact hV
    · have hc : ((S 56 12) - (S 56 11)) = 9 := Decidable.not_not.mp (fun z => hc (decide_eq_true z))
      rw [if_pos hc] at hV
      refine e_iconst (c := 1) f_119_27 (by decide) ?_
      refine e_goto f_119_28 ?_
      refine e_istore (L' := [.ref 56, .int 0, .int 1, .null]) f_119_32 (Nat.le_of_ble_eq_true rfl) rfl ?_
      refine e_iconst (c := 0) f_119_33 (by decide) ?_
      refine e_istore (L' := [.ref 56, .int 0, .int 1, .int 0]) f_119_34 (Nat.le_of_ble_eq_true rfl) rfl ?_
      exact hV
set_option maxRecDepth 20000 in
theorem T_119_35 {xs : List Int32} {d : Nat} {S : x_M} {Q : Option Value → x_M → Prop} {a1 : Int32} {a2 : Int32} {a3 : Int32}  (hV : if (9 : Int32) ≤ a3 then (x_E xs (d + 1) 119 115 [.ref 56, .int a1, .int a2, .int a3] [] S Q) else (if a2 = 0 then (x_E xs (d + 1) 119 115 [.ref 56, .int a1, .int a2, .int a3] [] S Q) else ((x_ib ((S 56 11) + a3) 400) ∧ (if (S 58 (Int32.toNatClampNeg ((S 56 11) + a3))) = 111 then (x_E xs (d + 1) 119 82 [.ref 56, .int a1, .int a2, .int a3] [.int 1] S Q) else ((x_ib ((S 56 11) + a3) 400) ∧ (if (S 58 (Int32.toNatClampNeg ((S 56 11) + a3))) = 120 then (x_E xs (d + 1) 119 82 [.ref 56, .int a1, .int a2, .int a3] [.int 1] S Q) else (x_E xs (d + 1) 119 82 [.ref 56, .int a1, .int a2, .int a3] [.int 0] S Q))))))) : x_E xs (d + 1) 119 35 [.ref 56, .int a1, .int a2, .int a3] [] S Q := by
  refine e_iload f_119_35 rfl ?_
  refine e_iconst (c := 9) f_119_36 (by decide) ?_
  refine e_icmp f_119_38 (fun hc => ?_) (fun hc => ?_)
  · have hc : (9 : Int32) ≤ a3 := of_decide_eq_true hc
    rw [if_pos hc] at hV
    exact hV
  · have hc : ¬ (9 : Int32) ≤ a3 := fun z => hc (decide_eq_true z)
    rw [if_neg hc] at hV
    refine e_iload f_119_41 rfl ?_
    refine e_if f_119_42 (fun hc => ?_) (fun hc => ?_)
    · have hc : a2 = 0 := of_decide_eq_true hc
      rw [if_pos hc] at hV
      exact hV
    · have hc : ¬ a2 = 0 := fun z => hc (decide_eq_true z)
      rw [if_neg hc] at hV
      refine e_aload f_119_45 rfl (by decide) ?_
      refine e_gr (c := 6) (j := 1) (r := 58) f_119_46 (by decide) (by decide) (by decide) (by decide) ?_
      refine e_aload f_119_49 rfl (by decide) ?_
      refine e_gf (c := 6) (j := 11) f_119_50 (by decide) (by decide) (by decide) ?_
      refine e_iload f_119_53 rfl ?_
      refine e_iadd f_119_54 ?_
      obtain ⟨hg, hV⟩ := hV
      refine e_ia (n := 400) f_119_55 (by decide) (by decide) hg ?_
      refine e_iconst (c := 111) f_119_56 (by decide) ?_
      refine e_icmp f_119_58 (fun hc => ?_) (fun hc => ?_)
      · have hc : (S 58 (Int32.toNatClampNeg ((S 56 11) + a3))) = 111 := of_decide_eq_true hc
        rw [if_pos hc] at hV
        refine e_iconst (c := 1) f_119_77 (by decide) ?_
        refine e_goto f_119_78 ?_
        exact hV
      · have hc : ¬ (S 58 (Int32.toNatClampNeg ((S 56 11) + a3))) = 111 := fun z => hc (decide_eq_true z)
        rw [if_neg hc] at hV
        refine e_aload f_119_61 rfl (by decide) ?_
        refine e_gr (c := 6) (j := 1) (r := 58) f_119_62 (by decide) (by decide) (by decide) (by decide) ?_
        refine e_aload f_119_65 rfl (by decide) ?_
        refine e_gf (c := 6) (j := 11) f_119_66 (by decide) (by decide) (by decide) ?_
        refine e_iload f_119_69 rfl ?_
        refine e_iadd f_119_70 ?_
        obtain ⟨hg, hV⟩ := hV
        refine e_ia (n := 400) f_119_71 (by decide) (by decide) hg ?_
        refine e_iconst (c := 120) f_119_72 (by decide) ?_
        refine e_icmp f_119_74 (fun hc => ?_) (fun hc => ?_)
        · have hc : ¬ (S 58 (Int32.toNatClampNeg ((S 56 11) + a3))) = 120 := of_decide_eq_true hc
          rw [if_neg hc] at hV
          refine e_iconst (c := 0) f_119_81 (by decide) ?_
          exact hV
        · have hc : (S 58 (Int32.toNatClampNeg ((S 56 11) + a3))) = 120 := Decidable.not_not.mp (fun z => hc (decide_eq_true z))
          rw [if_pos hc] at hV
          refine e_iconst (c := 1) f_119_77 (by decide) ?_
          refine e_goto f_119_78 ?_
          exact hV
set_option maxRecDepth 20000 in
theorem T_119_82 {xs : List Int32} {d : Nat} {S : x_M} {Q : Option Value → x_M → Prop} {a1 : Int32} {a2 : Int32} {a3 : Int32} {s0 : Int32}  (hV : (x_ib ((S 56 11) + a3) 400) ∧ (if (S 58 (Int32.toNatClampNeg ((S 56 11) + a3))) = 111 then (x_E xs (d + 1) 119 35 [.ref 56, .int (a1 ||| (1 <<< (a3 &&& 31))), .int s0, .int (a3 + 1)] [] S Q) else (x_E xs (d + 1) 119 35 [.ref 56, .int (a1 ||| 0), .int s0, .int (a3 + 1)] [] S Q))) : x_E xs (d + 1) 119 82 [.ref 56, .int a1, .int a2, .int a3] [.int s0] S Q := by
  refine e_istore (L' := [.ref 56, .int a1, .int s0, .int a3]) f_119_82 (Nat.le_of_ble_eq_true rfl) rfl ?_
  refine e_iload f_119_83 rfl ?_
  refine e_aload f_119_84 rfl (by decide) ?_
  refine e_gr (c := 6) (j := 1) (r := 58) f_119_85 (by decide) (by decide) (by decide) (by decide) ?_
  refine e_aload f_119_88 rfl (by decide) ?_
  refine e_gf (c := 6) (j := 11) f_119_89 (by decide) (by decide) (by decide) ?_
  refine e_iload f_119_92 rfl ?_
  refine e_iadd f_119_93 ?_
  obtain ⟨hg, hV⟩ := hV
  refine e_ia (n := 400) f_119_94 (by decide) (by decide) hg ?_
  refine e_iconst (c := 111) f_119_95 (by decide) ?_
  refine e_icmp f_119_97 (fun hc => ?_) (fun hc => ?_)
  · have hc : ¬ (S 58 (Int32.toNatClampNeg ((S 56 11) + a3))) = 111 := of_decide_eq_true hc
    rw [if_neg hc] at hV
    refine e_iconst (c := 0) f_119_106 (by decide) ?_
    refine e_ior f_119_107 ?_
    refine e_istore (L' := [.ref 56, .int (a1 ||| 0), .int s0, .int a3]) f_119_108 (Nat.le_of_ble_eq_true rfl) rfl ?_
    refine e_inc (c := 1) (L' := [.ref 56, .int (a1 ||| 0), .int s0, .int (a3 + 1)]) f_119_109 rfl (by decide) rfl ?_
    refine e_goto f_119_112 ?_
    exact hV
  · have hc : (S 58 (Int32.toNatClampNeg ((S 56 11) + a3))) = 111 := Decidable.not_not.mp (fun z => hc (decide_eq_true z))
    rw [if_pos hc] at hV
    refine e_iconst (c := 1) f_119_100 (by decide) ?_
    refine e_iload f_119_101 rfl ?_
    refine e_ishl f_119_102 ?_
    refine e_goto f_119_103 ?_
    refine e_ior f_119_107 ?_
    refine e_istore (L' := [.ref 56, .int (a1 ||| (1 <<< (a3 &&& 31))), .int s0, .int a3]) f_119_108 (Nat.le_of_ble_eq_true rfl) rfl ?_
    refine e_inc (c := 1) (L' := [.ref 56, .int (a1 ||| (1 <<< (a3 &&& 31))), .int s0, .int (a3 + 1)]) f_119_109 rfl (by decide) rfl ?_
    refine e_goto f_119_112 ?_
    exact hV
set_option maxRecDepth 20000 in
theorem T_119_115 {xs : List Int32} {d : Nat} {S : x_M} {Q : Option Value → x_M → Prop} {a1 : Int32} {a2 : Int32} {a3 : Int32}  (hV : if a2 = 0 then (Q (some (.int 0)) (x_up S 56 3 1)) else ((x_ib (S 56 16) 14) ∧ (∃ P1 : x_M → Prop, x_Cv xs d 111 [.ref 56] (x_up S 64 (Int32.toNatClampNeg (S 56 16)) a1) P1 ∧ ∀ (S1 : x_M), P1 S1 → (Q (some (.int 1)) S1)))) : x_E xs (d + 1) 119 115 [.ref 56, .int a1, .int a2, .int a3] [] S Q := by
  refine e_iload f_119_115 rfl ?_
  refine e_if f_119_116 (fun hc => ?_) (fun hc => ?_)
  · have hc : ¬ a2 = 0 := of_decide_eq_true hc
    rw [if_neg hc] at hV
    refine e_aload f_119_126 rfl (by decide) ?_
    refine e_gr (c := 6) (j := 14) (r := 64) f_119_127 (by decide) (by decide) (by decide) (by decide) ?_
    refine e_aload f_119_130 rfl (by decide) ?_
    refine e_gf (c := 6) (j := 16) f_119_131 (by decide) (by decide) (by decide) ?_
    refine e_iload f_119_134 rfl ?_
    obtain ⟨hg, hV⟩ := hV
    refine e_is (n := 14) f_119_135 (by decide) (by decide) hg ?_
    refine e_aload f_119_136 rfl (by decide) ?_
    obtain ⟨P1, hP1, hV⟩ := hV
    refine e_vv (n := 1) (A := [.ref 56]) (R := []) f_119_137 na_111 rfl rfl (Nat.le_of_ble_eq_true rfl) (Nat.le_of_ble_eq_true rfl) (by rw [ml_111]; exact Nat.le_of_ble_eq_true rfl) rfl (by rw [cy_111]; decide) (by rw [cy_111]; exact (by decide : x_tg 56 = 6)) hP1 (fun S1 hp1 => ?_)
    have hV := hV S1 hp1
    refine e_iconst (c := 1) f_119_140 (by decide) ?_
    exact e_ireturn f_119_141 rt_119 (by decide) hV
  · have hc : a2 = 0 := Decidable.not_not.mp (fun z => hc (decide_eq_true z))
    rw [if_pos hc] at hV
    refine e_aload f_119_119 rfl (by decide) ?_
    refine e_iconst (c := 1) f_119_120 (by decide) ?_
    refine e_pf (c := 6) (j := 3) f_119_121 (by decide) (by decide) (by decide) (x_fit_i rfl) ?_
    refine e_iconst (c := 0) f_119_124 (by decide) ?_
    exact e_ireturn f_119_125 rt_119 (by decide) hV
set_option maxRecDepth 20000 in
theorem T_120_0 {xs : List Int32} {d : Nat} {S : x_M} {Q : Option Value → x_M → Prop}   (hV : x_E xs (d + 1) 120 2 [.ref 56, .int 0] [] S Q) : x_E xs (d + 1) 120 0 [.ref 56, .null] [] S Q := by
  refine e_iconst (c := 0) f_120_0 (by decide) ?_
  refine e_istore (L' := [.ref 56, .int 0]) f_120_1 (Nat.le_of_ble_eq_true rfl) rfl ?_
  exact hV
set_option maxRecDepth 20000 in
theorem T_120_2 {xs : List Int32} {d : Nat} {S : x_M} {Q : Option Value → x_M → Prop} {a1 : Int32}  (hV : if (8 * (S 57 1)) ≤ a1 then (Q none S) else ((x_ib (2 + (a1 / 8)) 99) ∧ (∃ P1 : Int32 → x_M → Prop, x_Ci xs d 121 [.int (S 57 (Int32.toNatClampNeg (2 + (a1 / 8)))), .int (a1 - a1 / 8 * 8)] S P1 ∧ ∀ (v1 : Int32) (S1 : x_M), P1 v1 S1 → ((x_ib a1 112) ∧ (x_E xs (d + 1) 120 2 [.ref 56, .int (a1 + 1)] [] (x_up S1 66 (Int32.toNatClampNeg a1) v1) Q))))) : x_E xs (d + 1) 120 2 [.ref 56, .int a1] [] S Q := by
  refine e_iload f_120_2 rfl ?_
  refine e_iconst (c := 8) f_120_3 (by decide) ?_
  refine e_aload f_120_5 rfl (by decide) ?_
  refine e_gr (c := 6) (j := 0) (r := 57) f_120_6 (by decide) (by decide) (by decide) (by decide) ?_
  refine e_iconst (c := 1) f_120_9 (by decide) ?_
  refine e_iak (n := 99) (kk := 1) f_120_10 (by decide) (by decide) (by decide) ?_
  refine e_imul f_120_11 ?_
  refine e_icmp f_120_12 (fun hc => ?_) (fun hc => ?_)
  · have hc : (8 * (S 57 1)) ≤ a1 := of_decide_eq_true hc
    rw [if_pos hc] at hV
    exact e_return f_120_45 rt_120 hV
  · have hc : ¬ (8 * (S 57 1)) ≤ a1 := fun z => hc (decide_eq_true z)
    rw [if_neg hc] at hV
    refine e_aload f_120_15 rfl (by decide) ?_
    refine e_gr (c := 6) (j := 17) (r := 66) f_120_16 (by decide) (by decide) (by decide) (by decide) ?_
    refine e_iload f_120_19 rfl ?_
    refine e_aload f_120_20 rfl (by decide) ?_
    refine e_gr (c := 6) (j := 0) (r := 57) f_120_21 (by decide) (by decide) (by decide) (by decide) ?_
    refine e_iconst (c := 2) f_120_24 (by decide) ?_
    refine e_iload f_120_25 rfl ?_
    refine e_iconst (c := 8) f_120_26 (by decide) ?_
    refine e_idiv f_120_28 (by decide) ?_
    refine e_iadd f_120_29 ?_
    obtain ⟨hg, hV⟩ := hV
    refine e_ia (n := 99) f_120_30 (by decide) (by decide) hg ?_
    refine e_iload f_120_31 rfl ?_
    refine e_iconst (c := 8) f_120_32 (by decide) ?_
    refine e_irem f_120_34 (by decide) ?_
    obtain ⟨P1, hP1, hV⟩ := hV
    refine e_si (n := 2) (A := [.int (S 57 (Int32.toNatClampNeg (2 + (a1 / 8)))), .int (a1 - a1 / 8 * 8)]) (R := [.int a1, .ref 66]) f_120_35 na_121 rfl rfl (Nat.le_of_ble_eq_true rfl) (Nat.le_of_ble_eq_true rfl) (by rw [ml_121]; exact Nat.le_of_ble_eq_true rfl) hP1 (fun v1 S1 hp1 => ?_)
    have hV := hV v1 S1 hp1
    obtain ⟨hg, hV⟩ := hV
    refine e_is (n := 112) f_120_38 (by decide) (by decide) hg ?_
    refine e_inc (c := 1) (L' := [.ref 56, .int (a1 + 1)]) f_120_39 rfl (by decide) rfl ?_
    refine e_goto f_120_42 ?_
    exact hV
set_option maxRecDepth 20000 in
theorem T_121_0 {xs : List Int32} {d : Nat} {S : x_M} {Q : Option Value → x_M → Prop} {a0 : Int32} {a1 : Int32}  (hV : x_E xs (d + 1) 121 4 [.int a0, .int a1, .int 0, .int 0, .null, .null, .null, .null] [] S Q) : x_E xs (d + 1) 121 0 [.int a0, .int a1, .null, .null, .null, .null, .null, .null] [] S Q := by
  refine e_iconst (c := 0) f_121_0 (by decide) ?_
  refine e_istore (L' := [.int a0, .int a1, .int 0, .null, .null, .null, .null, .null]) f_121_1 (Nat.le_of_ble_eq_true rfl) rfl ?_
  refine e_iconst (c := 0) f_121_2 (by decide) ?_
  refine e_istore (L' := [.int a0, .int a1, .int 0, .int 0, .null, .null, .null, .null]) f_121_3 (Nat.le_of_ble_eq_true rfl) rfl ?_
  exact hV
set_option maxRecDepth 20000 in
theorem T_121_4 {xs : List Int32} {d : Nat} {S : x_M} {Q : Option Value → x_M → Prop} {a0 : Int32} {a1 : Int32} {a2 : Int32} {a3 : Int32} {a4 : Value} {a5 : Value} {a6 : Value} {a7 : Value}  (hV : if (9 : Int32) ≤ a3 then (Q (some (.int a2)) S) else (if (4 : Int32) ≤ a1 then (x_E xs (d + 1) 121 36 [.int a0, .int a1, .int a2, .int a3, .int (2 - (a3 - a3 / 3 * 3)), .int (a3 / 3), .int 0, a7] [] S Q) else (x_E xs (d + 1) 121 36 [.int a0, .int a1, .int a2, .int a3, .int (a3 - a3 / 3 * 3), .int (a3 / 3), .int 0, a7] [] S Q))) : x_E xs (d + 1) 121 4 [.int a0, .int a1, .int a2, .int a3, a4, a5, a6, a7] [] S Q := by
  refine e_iload f_121_4 rfl ?_
  refine e_iconst (c := 9) f_121_5 (by decide) ?_
  refine e_icmp f_121_7 (fun hc => ?_) (fun hc => ?_)
  · have hc : (9 : Int32) ≤ a3 := of_decide_eq_true hc
    rw [if_pos hc] at hV
    refine e_iload f_121_94 rfl ?_
    exact e_ireturn f_121_95 rt_121 rfl hV
  · have hc : ¬ (9 : Int32) ≤ a3 := fun z => hc (decide_eq_true z)
    rw [if_neg hc] at hV
    refine e_iload f_121_10 rfl ?_
    refine e_iconst (c := 4) f_121_11 (by decide) ?_
    refine e_icmp f_121_12 (fun hc => ?_) (fun hc => ?_)
    · have hc : (4 : Int32) ≤ a1 := of_decide_eq_true hc
      rw [if_pos hc] at hV
      refine e_iconst (c := 2) f_121_21 (by decide) ?_
      refine e_iload f_121_22 rfl ?_
      refine e_iconst (c := 3) f_121_23 (by decide) ?_
      refine e_irem f_121_24 (by decide) ?_
      refine e_isub f_121_25 ?_
      refine e_istore (L' := [.int a0, .int a1, .int a2, .int a3, .int (2 - (a3 - a3 / 3 * 3)), a5, a6, a7]) f_121_26 (Nat.le_of_ble_eq_true rfl) rfl ?_
      refine e_iload f_121_28 rfl ?_
      refine e_iconst (c := 3) f_121_29 (by decide) ?_
      refine e_idiv f_121_30 (by decide) ?_
      refine e_istore (L' := [.int a0, .int a1, .int a2, .int a3, .int (2 - (a3 - a3 / 3 * 3)), .int (a3 / 3), a6, a7]) f_121_31 (Nat.le_of_ble_eq_true rfl) rfl ?_
      refine e_iconst (c := 0) f_121_33 (by decide) ?_
      refine e_istore (L' := [.int a0, .int a1, .int a2, .int a3, .int (2 - (a3 - a3 / 3 * 3)), .int (a3 / 3), .int 0, a7]) f_121_34 (Nat.le_of_ble_eq_true rfl) rfl ?_
      exact hV
    · have hc : ¬ (4 : Int32) ≤ a1 := fun z => hc (decide_eq_true z)
      rw [if_neg hc] at hV
      refine e_iload f_121_15 rfl ?_
      refine e_iconst (c := 3) f_121_16 (by decide) ?_
      refine e_irem f_121_17 (by decide) ?_
      refine e_goto f_121_18 ?_
      refine e_istore (L' := [.int a0, .int a1, .int a2, .int a3, .int (a3 - a3 / 3 * 3), a5, a6, a7]) f_121_26 (Nat.le_of_ble_eq_true rfl) rfl ?_
      refine e_iload f_121_28 rfl ?_
      refine e_iconst (c := 3) f_121_29 (by decide) ?_
      refine e_idiv f_121_30 (by decide) ?_
      refine e_istore (L' := [.int a0, .int a1, .int a2, .int a3, .int (a3 - a3 / 3 * 3), .int (a3 / 3), a6, a7]) f_121_31 (Nat.le_of_ble_eq_true rfl) rfl ?_
      refine e_iconst (c := 0) f_121_33 (by decide) ?_
      refine e_istore (L' := [.int a0, .int a1, .int a2, .int a3, .int (a3 - a3 / 3 * 3), .int (a3 / 3), .int 0, a7]) f_121_34 (Nat.le_of_ble_eq_true rfl) rfl ?_
      exact hV
set_option maxRecDepth 20000 in
theorem T_121_36 {xs : List Int32} {d : Nat} {S : x_M} {Q : Option Value → x_M → Prop} {a0 : Int32} {a1 : Int32} {a2 : Int32} {a3 : Int32} {a4 : Int32} {a5 : Int32} {a6 : Int32} {a7 : Value}  (hV : if (a1 - a1 / 4 * 4) ≤ a6 then (∃ P1 : Int32 → x_M → Prop, x_Ci xs d 122 [.int a0, .int a3] S P1 ∧ ∀ (v1 : Int32) (S1 : x_M), P1 v1 S1 → (if v1 = 0 then (x_E xs (d + 1) 121 4 [.int a0, .int a1, .int (a2 ||| 0), .int (a3 + 1), .int a4, .int a5, .int a6, a7] [] S1 Q) else (x_E xs (d + 1) 121 4 [.int a0, .int a1, .int (a2 ||| (1 <<< ((a4 + (3 * a5)) &&& 31))), .int (a3 + 1), .int a4, .int a5, .int a6, a7] [] S1 Q))) else (x_E xs (d + 1) 121 36 [.int a0, .int a1, .int a2, .int a3, .int (2 - a5), .int a4, .int (a6 + 1), .int a4] [] S Q)) : x_E xs (d + 1) 121 36 [.int a0, .int a1, .int a2, .int a3, .int a4, .int a5, .int a6, a7] [] S Q := by
  refine e_iload f_121_36 rfl ?_
  refine e_iload f_121_38 rfl ?_
  refine e_iconst (c := 4) f_121_39 (by decide) ?_
  refine e_irem f_121_40 (by decide) ?_
  refine e_icmp f_121_41 (fun hc => ?_) (fun hc => ?_)
  · have hc : (a1 - a1 / 4 * 4) ≤ a6 := of_decide_eq_true hc
    rw [if_pos hc] at hV
    refine e_iload f_121_64 rfl ?_
    refine e_iload f_121_65 rfl ?_
    refine e_iload f_121_66 rfl ?_
    obtain ⟨P1, hP1, hV⟩ := hV
    refine e_si (n := 2) (A := [.int a0, .int a3]) (R := [.int a2]) f_121_67 na_122 rfl rfl (Nat.le_of_ble_eq_true rfl) (Nat.le_of_ble_eq_true rfl) (by rw [ml_122]; exact Nat.le_of_ble_eq_true rfl) hP1 (fun v1 S1 hp1 => ?_)
    have hV := hV v1 S1 hp1
    refine e_if f_121_70 (fun hc => ?_) (fun hc => ?_)
    · have hc : v1 = 0 := of_decide_eq_true hc
      rw [if_pos hc] at hV
      refine e_iconst (c := 0) f_121_85 (by decide) ?_
      refine e_ior f_121_86 ?_
      refine e_istore (L' := [.int a0, .int a1, .int (a2 ||| 0), .int a3, .int a4, .int a5, .int a6, a7]) f_121_87 (Nat.le_of_ble_eq_true rfl) rfl ?_
      refine e_inc (c := 1) (L' := [.int a0, .int a1, .int (a2 ||| 0), .int (a3 + 1), .int a4, .int a5, .int a6, a7]) f_121_88 rfl (by decide) rfl ?_
      refine e_goto f_121_91 ?_
      exact hV
    · have hc : ¬ v1 = 0 := fun z => hc (decide_eq_true z)
      rw [if_neg hc] at hV
      refine e_iconst (c := 1) f_121_73 (by decide) ?_
      refine e_iload f_121_74 rfl ?_
      refine e_iconst (c := 3) f_121_76 (by decide) ?_
      refine e_iload f_121_77 rfl ?_
      refine e_imul f_121_79 ?_
      refine e_iadd f_121_80 ?_
      refine e_ishl f_121_81 ?_
      refine e_goto f_121_82 ?_
      refine e_ior f_121_86 ?_
      refine e_istore (L' := [.int a0, .int a1, .int (a2 ||| (1 <<< ((a4 + (3 * a5)) &&& 31))), .int a3, .int a4, .int a5, .int a6, a7]) f_121_87 (Nat.le_of_ble_eq_true rfl) rfl ?_
      refine e_inc (c := 1) (L' := [.int a0, .int a1, .int (a2 ||| (1 <<< ((a4 + (3 * a5)) &&& 31))), .int (a3 + 1), .int a4, .int a5, .int a6, a7]) f_121_88 rfl (by decide) rfl ?_
      refine e_goto f_121_91 ?_
      exact hV
  · have hc : ¬ (a1 - a1 / 4 * 4) ≤ a6 := fun z => hc (decide_eq_true z)
    rw [if_neg hc] at hV
    refine e_iload f_121_44 rfl ?_
    refine e_istore (L' := [.int a0, .int a1, .int a2, .int a3, .int a4, .int a5, .int a6, .int a4]) f_121_46 (Nat.le_of_ble_eq_true rfl) rfl ?_
    refine e_iconst (c := 2) f_121_48 (by decide) ?_
    refine e_iload f_121_49 rfl ?_
    refine e_isub f_121_51 ?_
    refine e_istore (L' := [.int a0, .int a1, .int a2, .int a3, .int (2 - a5), .int a5, .int a6, .int a4]) f_121_52 (Nat.le_of_ble_eq_true rfl) rfl ?_
    refine e_iload f_121_54 rfl ?_
    refine e_istore (L' := [.int a0, .int a1, .int a2, .int a3, .int (2 - a5), .int a4, .int a6, .int a4]) f_121_56 (Nat.le_of_ble_eq_true rfl) rfl ?_
    refine e_inc (c := 1) (L' := [.int a0, .int a1, .int a2, .int a3, .int (2 - a5), .int a4, .int (a6 + 1), .int a4]) f_121_58 rfl (by decide) rfl ?_
    refine e_goto f_121_61 ?_
    exact hV
set_option maxRecDepth 20000 in
theorem T_122_0 {xs : List Int32} {d : Nat} {S : x_M} {Q : Option Value → x_M → Prop} {a0 : Int32} {a1 : Int32}  (hV : if ((a0 >>> (a1 &&& 31)) &&& 1) = 1 then (Q (some (.int 1)) S) else (Q (some (.int 0)) S)) : x_E xs (d + 1) 122 0 [.int a0, .int a1] [] S Q := by
  refine e_iload f_122_0 rfl ?_
  refine e_iload f_122_1 rfl ?_
  refine e_ishr f_122_2 ?_
  refine e_iconst (c := 1) f_122_3 (by decide) ?_
  refine e_iand f_122_4 ?_
  refine e_iconst (c := 1) f_122_5 (by decide) ?_
  refine e_icmp f_122_6 (fun hc => ?_) (fun hc => ?_)
  · have hc : ¬ ((a0 >>> (a1 &&& 31)) &&& 1) = 1 := of_decide_eq_true hc
    rw [if_neg hc] at hV
    refine e_iconst (c := 0) f_122_13 (by decide) ?_
    exact e_ireturn f_122_14 rt_122 (by decide) hV
  · have hc : ((a0 >>> (a1 &&& 31)) &&& 1) = 1 := Decidable.not_not.mp (fun z => hc (decide_eq_true z))
    rw [if_pos hc] at hV
    refine e_iconst (c := 1) f_122_9 (by decide) ?_
    refine e_goto f_122_10 ?_
    exact e_ireturn f_122_14 rt_122 (by decide) hV
set_option maxRecDepth 20000 in
theorem T_123_0 {xs : List Int32} {d : Nat} {S : x_M} {Q : Option Value → x_M → Prop}   (hV : Q (some (.int (S 56 3))) S) : x_E xs (d + 1) 123 0 [.ref 56] [] S Q := by
  refine e_aload f_123_0 rfl (by decide) ?_
  refine e_gf (c := 6) (j := 3) f_123_1 (by decide) (by decide) (by decide) ?_
  exact e_ireturn f_123_4 rt_123 rfl hV
