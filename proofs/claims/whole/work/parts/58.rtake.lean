/-! THE REFERENCE: TAKE -/
set_option maxHeartbeats 4000000 in
set_option maxRecDepth 100000 in
theorem j_tr_lp {G : kG} {d : Nat} {h : Nat → Option kC} {n : Nat} {q : Nat → Int} {F : Nat → Nat → Int} {T : Nat → Int} {c : Int} (hq : q 6 = c) (c0 : 0 ≤ c ∧ c ≤ 60) (hT : ∀ j, j < 60 → F 103 j = T j) (hF : ∀ j, j < 60 → 0 ≤ T j ∧ T j ≤ 126) (hns : krun T 0 c.toNat = 8 ∨ krun T 0 c.toNat = 9)  : ∀ (f : Nat) (i : Nat) (z s9 : Int) (q9 : Nat → Int) (F9 : Nat → Nat → Int) (dn cs ts : Nat) (e3 : Option Value), z = (i : Int) → z ≤ c → c - z ≤ f → True → s9 = krun T 0 i → s9 ≠ -1 → kTI T c.toNat i s9 F9 dn cs ts → q9 9 = (cs : Int) → q9 13 = (ts : Int) → q9 6 = c → q9 16 = q 16 → (∀ j, j < 104 ∨ 108 < j → F9 j = F j) → kE G mX10_takeRule (d + 3) 0 0 21 [some (.ref (gB G + 97)), some (.int (jI (kmr s9))), some (.int (jI z)), e3] [] (kmh G h q9 F9) n (fun r h' n' => r = none ∧ n' = n ∧ ∃ (q' : Nat → Int) (F' : Nat → Nat → Int), h' = kmh G h q' F' ∧ kRD q' F' (c, T) ∧ q' 16 = q 16 ∧ ∀ j, j < 104 ∨ 108 < j → F' j = F j) := by
  have hn1 : krun T 0 c.toNat ≠ -1 := by omega
  intro f
  induction f with
  | zero =>
    intro i z s9 q9 F9 dn cs ts e3 g1 g2 g3 g4 g5 g6 g7 g8 g9 g10 g11 g12
    have q9b := krun_r T i
    rw [← g5] at q9b
    have qb := kTI_b g7
    have qp : 0 < c := by
      by_cases z : c = 0
      · rw [z] at hns
        have z0 : krun T 0 (0 : Int).toNat = 0 := rfl
        omega
      · omega
    refine e_iload_n rfl dX10_takeRule_21 ?_
    refine e_aload_n rfl dX10_takeRule_22 ?_
    refine e_getf fdX10_107 dX10_takeRule_23 kmh_97 rfl ?_
    rw [g10]
    refine e_icmp_ge (tgt := 240) dX10_takeRule_26 (by decide) (by first | assumption | (unfold inI at *; omega)) (by first | assumption | (unfold inI at *; omega)) (fun c26 => ?_) (fun c26 => ?_)
    · refine e_return dX10_takeRule_240 rfl ?_
      have e9 : i = c.toNat := by omega
      rw [e9] at g7 g5
      exact ⟨rfl, rfl, q9, F9, rfl, kTI_end (s := s9) (t := (c, T)) g7 qp c0.2 (by omega) g8 g9, g11, g12⟩
    · exact absurd c26 (by omega)
  | succ f ih =>
    intro i z s9 q9 F9 dn cs ts e3 g1 g2 g3 g4 g5 g6 g7 g8 g9 g10 g11 g12
    have q9b := krun_r T i
    rw [← g5] at q9b
    have qb := kTI_b g7
    have qp : 0 < c := by
      by_cases z : c = 0
      · rw [z] at hns
        have z0 : krun T 0 (0 : Int).toNat = 0 := rfl
        omega
      · omega
    have q8 := hF i
    subst g1
    refine e_iload_n rfl dX10_takeRule_21 ?_
    refine e_aload_n rfl dX10_takeRule_22 ?_
    refine e_getf fdX10_107 dX10_takeRule_23 kmh_97 rfl ?_
    rw [g10]
    refine e_icmp_ge (tgt := 240) dX10_takeRule_26 (by decide) (by first | assumption | (unfold inI at *; omega)) (by first | assumption | (unfold inI at *; omega)) (fun c26 => ?_) (fun c26 => ?_)
    · refine e_return dX10_takeRule_240 rfl ?_
      have e9 : i = c.toNat := by omega
      rw [e9] at g7 g5
      exact ⟨rfl, rfl, q9, F9, rfl, kTI_end (s := s9) (t := (c, T)) g7 qp c0.2 (by omega) g8 g9, g11, g12⟩
    · refine e_aload_n rfl dX10_takeRule_29 ?_
      refine e_getf fdX10_25 dX10_takeRule_30 kmh_97 rfl ?_
      refine e_iload_n rfl dX10_takeRule_33 ?_
      refine e_mld (by first | exact ka98 | exact ka99 | exact ka100 | exact ka101 | exact ka102 | exact ka103 | exact ka104 | exact ka105 | exact ka106 | exact ka107 | exact ka108 | exact ka109 | exact ka110 | exact ka111 | exact ka112 | exact ka113) dX10_takeRule_34 (by omega) (by omega) ?_
      rw [Int.toNat_natCast, g12 103 (by omega), hT i (by omega)]
      have q7 := q8 (by omega)
      refine e_istore_n dX10_takeRule_35 rfl rfl ?_
      dsimp only [List.set]
      refine e_iload_n rfl dX10_takeRule_36 ?_
      refine e_iload_n rfl dX10_takeRule_37 ?_
      refine eS2 mtX10_ruleStep msX10_ruleStep lkX10_118 dX10_takeRule_38 rfl rfl (j_ruleStep (by omega) (by unfold inI; omega)) ?_
      dsimp only [Option.toList, List.cons_append, List.nil_append]
      refine e_istore_n dX10_takeRule_41 rfl rfl ?_
      dsimp only [List.set]
      refine e_iload_n rfl dX10_takeRule_42 ?_
      obtain ⟨s8, hs8⟩ : ∃ s8, s8 = kaf s9 (T i) := ⟨_, rfl⟩
      rw [← hs8]
      have q5 : krun T 0 (i + 1) = s8 := by rw [hs8]; show (if _ then _ else _) = _; rw [← g5, if_neg g6]
      have q4 : s8 ≠ -1 := by rw [← q5]; exact krun_ns hn1 (by omega)
      have q3 := kaf_inv (x := T i) (s := s9) (by omega)
      rw [← hs8] at q3
      clear hs8
      rcases (show s8 = 0 ∨ s8 = 1 ∨ s8 = 2 ∨ s8 = 3 ∨ s8 = 4 ∨ s8 = 5 ∨ s8 = 6 ∨ s8 = 7 ∨ s8 = 8 ∨ s8 = 9 by omega) with e | e | e | e | e | e | e | e | e | e <;> subst e
      · rw [show kmr 0 = 0 from rfl]
        refine e_tabOut (tgt := 234) dX10_takeRule_43 (by unfold inI; omega) (by decide) (by decide) ?_
        refine e_iinc dX10_takeRule_234 rfl rfl ?_
        dsimp only [List.set]
        refine e_goto (tgt := 21) dX10_takeRule_237 (by decide) ?_
        exact ih (i + 1) _ 0 _ _ (dn + 1) cs ts _ (by omega) (by omega) (by omega) trivial q5.symm (by decide) (kTI_semi g7 (by omega) (by omega) (by omega)) g8 g9 (g10) (g11) g12
      · rw [show kmr 1 = 9 from rfl]
        refine e_tabOut (tgt := 234) dX10_takeRule_43 (by unfold inI; omega) (by decide) (by decide) ?_
        refine e_iinc dX10_takeRule_234 rfl rfl ?_
        dsimp only [List.set]
        refine e_goto (tgt := 21) dX10_takeRule_237 (by decide) ?_
        exact ih (i + 1) _ 1 _ _ dn cs ts _ (by omega) (by omega) (by omega) trivial q5.symm (by decide) (kTI_and g7 (by omega) (by omega) (by omega)) g8 g9 (g10) (g11) g12
      · rw [show kmr 2 = 2 from rfl]
        refine e_tabIn (tgt := 84) dX10_takeRule_43 (by unfold inI; omega) (by decide) (by decide) rfl (by decide) ?_
        refine e_aload_n rfl dX10_takeRule_84 ?_
        refine e_getf fdX10_34 dX10_takeRule_85 kmh_97 rfl ?_
        refine e_aload_n rfl dX10_takeRule_88 ?_
        refine e_getf fdX10_134 dX10_takeRule_89 kmh_97 rfl ?_
        rw [g9]
        refine e_iload_n rfl dX10_takeRule_92 ?_
        refine e_mst (by first | exact ka98 | exact ka99 | exact ka100 | exact ka101 | exact ka102 | exact ka103 | exact ka104 | exact ka105 | exact ka106 | exact ka107 | exact ka108 | exact ka109 | exact ka110 | exact ka111 | exact ka112 | exact ka113) dX10_takeRule_93 (by omega) (by omega) ?_
        rw [Int.toNat_natCast]
        refine e_aload_n rfl dX10_takeRule_94 ?_
        refine e_getf fdX10_40 dX10_takeRule_95 kmh_97 rfl ?_
        refine e_aload_n rfl dX10_takeRule_98 ?_
        refine e_getf fdX10_134 dX10_takeRule_99 kmh_97 rfl ?_
        rw [g9]
        refine e_iconst dX10_takeRule_102 ?_
        refine e_mst (by first | exact ka98 | exact ka99 | exact ka100 | exact ka101 | exact ka102 | exact ka103 | exact ka104 | exact ka105 | exact ka106 | exact ka107 | exact ka108 | exact ka109 | exact ka110 | exact ka111 | exact ka112 | exact ka113) dX10_takeRule_103 (by omega) (by omega) ?_
        rw [Int.toNat_natCast]
        refine e_aload_n rfl dX10_takeRule_104 ?_
        refine e_dup rfl dX10_takeRule_105 ?_
        refine e_getf fdX10_134 dX10_takeRule_106 kmh_97 rfl ?_
        rw [g9]
        refine e_iconst dX10_takeRule_109 ?_
        refine e_iadd dX10_takeRule_110 ?_
        refine e_mput pfX10_134 dX10_takeRule_111 kml_13 rfl rfl rfl ?_
        refine e_goto (tgt := 234) dX10_takeRule_114 (by decide) ?_
        refine e_iinc dX10_takeRule_234 rfl rfl ?_
        dsimp only [List.set]
        refine e_goto (tgt := 21) dX10_takeRule_237 (by decide) ?_
        exact ih (i + 1) _ 2 _ _ dn cs (ts + 1) _ (by omega) (by omega) (by omega) trivial q5.symm (by decide) (kTI_name g7 (by omega) (by omega) (by omega) (fun j k hjk => up2_o2 j k (by omega) (by omega)) (up2_v2 (by decide)) up2_v1) g8 (by rw [up_s]; omega) (g10) (g11) (fun j hj => (up2_n (by omega)).trans ((up2_n (by omega)).trans (g12 j hj)))
      · rw [show kmr 3 = 3 from rfl]
        refine e_tabIn (tgt := 117) dX10_takeRule_43 (by unfold inI; omega) (by decide) (by decide) rfl (by decide) ?_
        refine e_aload_n rfl dX10_takeRule_117 ?_
        refine e_getf fdX10_37 dX10_takeRule_118 kmh_97 rfl ?_
        refine e_aload_n rfl dX10_takeRule_121 ?_
        refine e_getf fdX10_134 dX10_takeRule_122 kmh_97 rfl ?_
        rw [g9]
        refine e_iconst dX10_takeRule_125 ?_
        refine e_isub dX10_takeRule_126 ?_
        refine e_iload_n rfl dX10_takeRule_127 ?_
        refine e_mst (by first | exact ka98 | exact ka99 | exact ka100 | exact ka101 | exact ka102 | exact ka103 | exact ka104 | exact ka105 | exact ka106 | exact ka107 | exact ka108 | exact ka109 | exact ka110 | exact ka111 | exact ka112 | exact ka113) dX10_takeRule_128 (by omega) (by omega) ?_
        rw [show ((ts : Int) - 1).toNat = ts - 1 by omega]
        refine e_goto (tgt := 234) dX10_takeRule_129 (by decide) ?_
        refine e_iinc dX10_takeRule_234 rfl rfl ?_
        dsimp only [List.set]
        refine e_goto (tgt := 21) dX10_takeRule_237 (by decide) ?_
        exact ih (i + 1) _ 3 _ _ dn cs ts _ (by omega) (by omega) (by omega) trivial q5.symm (by decide) (kTI_cmp g7 (by omega) (by omega) (by omega) (fun j k hjk => up2_o1 j k hjk) up2_v1) g8 g9 (g10) (g11) (fun j hj => (up2_n (by omega)).trans (g12 j hj))
      · rw [show kmr 4 = 4 from rfl]
        refine e_tabIn (tgt := 132) dX10_takeRule_43 (by unfold inI; omega) (by decide) (by decide) rfl (by decide) ?_
        refine e_aload_n rfl dX10_takeRule_132 ?_
        refine e_getf fdX10_40 dX10_takeRule_133 kmh_97 rfl ?_
        refine e_aload_n rfl dX10_takeRule_136 ?_
        refine e_getf fdX10_134 dX10_takeRule_137 kmh_97 rfl ?_
        rw [g9]
        refine e_iconst dX10_takeRule_140 ?_
        refine e_isub dX10_takeRule_141 ?_
        refine e_bipush (by decide) dX10_takeRule_142 ?_
        refine e_aload_n rfl dX10_takeRule_144 ?_
        refine e_getf fdX10_40 dX10_takeRule_145 kmh_97 rfl ?_
        refine e_aload_n rfl dX10_takeRule_148 ?_
        refine e_getf fdX10_134 dX10_takeRule_149 kmh_97 rfl ?_
        rw [g9]
        refine e_iconst dX10_takeRule_152 ?_
        refine e_isub dX10_takeRule_153 ?_
        refine e_mld (by first | exact ka98 | exact ka99 | exact ka100 | exact ka101 | exact ka102 | exact ka103 | exact ka104 | exact ka105 | exact ka106 | exact ka107 | exact ka108 | exact ka109 | exact ka110 | exact ka111 | exact ka112 | exact ka113) dX10_takeRule_154 (by omega) (by omega) ?_
        rw [show ((ts : Int) - 1).toNat = ts - 1 by omega]
        refine e_imul dX10_takeRule_155 ?_
        refine e_iload_n rfl dX10_takeRule_156 ?_
        refine e_iadd dX10_takeRule_157 ?_
        refine e_bipush (by decide) dX10_takeRule_158 ?_
        refine e_isub dX10_takeRule_160 ?_
        refine e_mst (by first | exact ka98 | exact ka99 | exact ka100 | exact ka101 | exact ka102 | exact ka103 | exact ka104 | exact ka105 | exact ka106 | exact ka107 | exact ka108 | exact ka109 | exact ka110 | exact ka111 | exact ka112 | exact ka113) dX10_takeRule_161 (by omega) (by omega) ?_
        rw [show ((ts : Int) - 1).toNat = ts - 1 by omega]
        refine e_goto (tgt := 234) dX10_takeRule_162 (by decide) ?_
        refine e_iinc dX10_takeRule_234 rfl rfl ?_
        dsimp only [List.set]
        refine e_goto (tgt := 21) dX10_takeRule_237 (by decide) ?_
        exact ih (i + 1) _ 4 _ _ dn cs ts _ (by omega) (by omega) (by omega) trivial q5.symm (by decide) ((by have q1 := kTI_dig (F' := up2 F9 108 (up (F9 108) (ts - 1) (10 * F9 108 (ts - 1) + T i - 48))) g7 (by omega) (by omega) (by omega) (fun j k hjk => up2_o1 j k hjk) up2_v1; rw [show s9 + 1 = 4 by omega] at q1; exact q1)) g8 g9 (g10) (g11) (fun j hj => (up2_n (by omega)).trans (g12 j hj))
      · rw [show kmr 5 = 5 from rfl]
        refine e_tabIn (tgt := 132) dX10_takeRule_43 (by unfold inI; omega) (by decide) (by decide) rfl (by decide) ?_
        refine e_aload_n rfl dX10_takeRule_132 ?_
        refine e_getf fdX10_40 dX10_takeRule_133 kmh_97 rfl ?_
        refine e_aload_n rfl dX10_takeRule_136 ?_
        refine e_getf fdX10_134 dX10_takeRule_137 kmh_97 rfl ?_
        rw [g9]
        refine e_iconst dX10_takeRule_140 ?_
        refine e_isub dX10_takeRule_141 ?_
        refine e_bipush (by decide) dX10_takeRule_142 ?_
        refine e_aload_n rfl dX10_takeRule_144 ?_
        refine e_getf fdX10_40 dX10_takeRule_145 kmh_97 rfl ?_
        refine e_aload_n rfl dX10_takeRule_148 ?_
        refine e_getf fdX10_134 dX10_takeRule_149 kmh_97 rfl ?_
        rw [g9]
        refine e_iconst dX10_takeRule_152 ?_
        refine e_isub dX10_takeRule_153 ?_
        refine e_mld (by first | exact ka98 | exact ka99 | exact ka100 | exact ka101 | exact ka102 | exact ka103 | exact ka104 | exact ka105 | exact ka106 | exact ka107 | exact ka108 | exact ka109 | exact ka110 | exact ka111 | exact ka112 | exact ka113) dX10_takeRule_154 (by omega) (by omega) ?_
        rw [show ((ts : Int) - 1).toNat = ts - 1 by omega]
        refine e_imul dX10_takeRule_155 ?_
        refine e_iload_n rfl dX10_takeRule_156 ?_
        refine e_iadd dX10_takeRule_157 ?_
        refine e_bipush (by decide) dX10_takeRule_158 ?_
        refine e_isub dX10_takeRule_160 ?_
        refine e_mst (by first | exact ka98 | exact ka99 | exact ka100 | exact ka101 | exact ka102 | exact ka103 | exact ka104 | exact ka105 | exact ka106 | exact ka107 | exact ka108 | exact ka109 | exact ka110 | exact ka111 | exact ka112 | exact ka113) dX10_takeRule_161 (by omega) (by omega) ?_
        rw [show ((ts : Int) - 1).toNat = ts - 1 by omega]
        refine e_goto (tgt := 234) dX10_takeRule_162 (by decide) ?_
        refine e_iinc dX10_takeRule_234 rfl rfl ?_
        dsimp only [List.set]
        refine e_goto (tgt := 21) dX10_takeRule_237 (by decide) ?_
        exact ih (i + 1) _ 5 _ _ dn cs ts _ (by omega) (by omega) (by omega) trivial q5.symm (by decide) ((by have q1 := kTI_dig (F' := up2 F9 108 (up (F9 108) (ts - 1) (10 * F9 108 (ts - 1) + T i - 48))) g7 (by omega) (by omega) (by omega) (fun j k hjk => up2_o1 j k hjk) up2_v1; rw [show s9 + 1 = 5 by omega] at q1; exact q1)) g8 g9 (g10) (g11) (fun j hj => (up2_n (by omega)).trans (g12 j hj))
      · rw [show kmr 6 = 1 from rfl]
        refine e_tabOut (tgt := 234) dX10_takeRule_43 (by unfold inI; omega) (by decide) (by decide) ?_
        refine e_iinc dX10_takeRule_234 rfl rfl ?_
        dsimp only [List.set]
        refine e_goto (tgt := 21) dX10_takeRule_237 (by decide) ?_
        exact ih (i + 1) _ 6 _ _ dn cs ts _ (by omega) (by omega) (by omega) trivial q5.symm (by decide) (kTI_star g7 (by omega) (by omega) (by omega)) g8 g9 (g10) (g11) g12
      · rw [show kmr 7 = 6 from rfl]
        refine e_tabIn (tgt := 165) dX10_takeRule_43 (by unfold inI; omega) (by decide) (by decide) rfl (by decide) ?_
        refine e_aload_n rfl dX10_takeRule_165 ?_
        refine e_getf fdX10_31 dX10_takeRule_166 kmh_97 rfl ?_
        refine e_aload_n rfl dX10_takeRule_169 ?_
        refine e_getf fdX10_131 dX10_takeRule_170 kmh_97 rfl ?_
        rw [g8]
        refine e_iconst dX10_takeRule_173 ?_
        refine e_mst (by first | exact ka98 | exact ka99 | exact ka100 | exact ka101 | exact ka102 | exact ka103 | exact ka104 | exact ka105 | exact ka106 | exact ka107 | exact ka108 | exact ka109 | exact ka110 | exact ka111 | exact ka112 | exact ka113) dX10_takeRule_174 (by omega) (by omega) ?_
        rw [Int.toNat_natCast]
        refine e_aload_n rfl dX10_takeRule_175 ?_
        refine e_dup rfl dX10_takeRule_176 ?_
        refine e_getf fdX10_131 dX10_takeRule_177 kmh_97 rfl ?_
        rw [g8]
        refine e_iconst dX10_takeRule_180 ?_
        refine e_iadd dX10_takeRule_181 ?_
        refine e_mput pfX10_131 dX10_takeRule_182 kml_9 rfl rfl rfl ?_
        refine e_aload_n rfl dX10_takeRule_185 ?_
        refine e_getf fdX10_28 dX10_takeRule_186 kmh_97 rfl ?_
        refine e_aload_n rfl dX10_takeRule_189 ?_
        refine e_getf fdX10_131 dX10_takeRule_190 kmh_97 rfl ?_
        rw [up_s]
        refine e_aload_n rfl dX10_takeRule_193 ?_
        refine e_getf fdX10_134 dX10_takeRule_194 kmh_97 rfl ?_
        rw [up_n (by decide), g9]
        refine e_mst (by first | exact ka98 | exact ka99 | exact ka100 | exact ka101 | exact ka102 | exact ka103 | exact ka104 | exact ka105 | exact ka106 | exact ka107 | exact ka108 | exact ka109 | exact ka110 | exact ka111 | exact ka112 | exact ka113) dX10_takeRule_197 (by omega) (by omega) ?_
        rw [show ((cs : Int) + 1).toNat = cs + 1 by omega]
        refine e_goto (tgt := 234) dX10_takeRule_198 (by decide) ?_
        refine e_iinc dX10_takeRule_234 rfl rfl ?_
        dsimp only [List.set]
        refine e_goto (tgt := 21) dX10_takeRule_237 (by decide) ?_
        exact ih (i + 1) _ 7 _ _ dn (cs + 1) ts _ (by omega) (by omega) (by omega) trivial q5.symm (by decide) (kTI_col g7 (by omega) (by omega) (by omega) (fun j k h1 h2 => up2_o2 j k h1 h2) (up2_v2 (by decide)) up2_v1) (by rw [up_s]; omega) (by rw [up_n (by decide)]; exact g9) (g10) (g11) (fun j hj => (up2_n (by omega)).trans ((up2_n (by omega)).trans (g12 j hj)))
      · rw [show kmr 8 = 7 from rfl]
        refine e_tabIn (tgt := 201) dX10_takeRule_43 (by unfold inI; omega) (by decide) (by decide) rfl (by decide) ?_
        refine e_aload_n rfl dX10_takeRule_201 ?_
        refine e_getf fdX10_31 dX10_takeRule_202 kmh_97 rfl ?_
        refine e_aload_n rfl dX10_takeRule_205 ?_
        refine e_getf fdX10_131 dX10_takeRule_206 kmh_97 rfl ?_
        rw [g8]
        refine e_iconst dX10_takeRule_209 ?_
        refine e_isub dX10_takeRule_210 ?_
        refine e_bipush (by decide) dX10_takeRule_211 ?_
        refine e_aload_n rfl dX10_takeRule_213 ?_
        refine e_getf fdX10_31 dX10_takeRule_214 kmh_97 rfl ?_
        refine e_aload_n rfl dX10_takeRule_217 ?_
        refine e_getf fdX10_131 dX10_takeRule_218 kmh_97 rfl ?_
        rw [g8]
        refine e_iconst dX10_takeRule_221 ?_
        refine e_isub dX10_takeRule_222 ?_
        refine e_mld (by first | exact ka98 | exact ka99 | exact ka100 | exact ka101 | exact ka102 | exact ka103 | exact ka104 | exact ka105 | exact ka106 | exact ka107 | exact ka108 | exact ka109 | exact ka110 | exact ka111 | exact ka112 | exact ka113) dX10_takeRule_223 (by omega) (by omega) ?_
        rw [show ((cs : Int) - 1).toNat = cs - 1 by omega]
        refine e_imul dX10_takeRule_224 ?_
        refine e_iload_n rfl dX10_takeRule_225 ?_
        refine e_iadd dX10_takeRule_226 ?_
        refine e_bipush (by decide) dX10_takeRule_227 ?_
        refine e_isub dX10_takeRule_229 ?_
        refine e_mst (by first | exact ka98 | exact ka99 | exact ka100 | exact ka101 | exact ka102 | exact ka103 | exact ka104 | exact ka105 | exact ka106 | exact ka107 | exact ka108 | exact ka109 | exact ka110 | exact ka111 | exact ka112 | exact ka113) dX10_takeRule_230 (by omega) (by omega) ?_
        rw [show ((cs : Int) - 1).toNat = cs - 1 by omega]
        refine e_goto (tgt := 234) dX10_takeRule_231 (by decide) ?_
        refine e_iinc dX10_takeRule_234 rfl rfl ?_
        dsimp only [List.set]
        refine e_goto (tgt := 21) dX10_takeRule_237 (by decide) ?_
        exact ih (i + 1) _ 8 _ _ dn cs ts _ (by omega) (by omega) (by omega) trivial q5.symm (by decide) ((by have q1 := kTI_say (F' := up2 F9 105 (up (F9 105) (cs - 1) (10 * F9 105 (cs - 1) + T i - 48))) g7 (by omega) (by omega) (by omega) (fun j k hjk => up2_o1 j k hjk) up2_v1; rw [show s9 + 1 = 8 by omega] at q1; exact q1)) g8 g9 (g10) (g11) (fun j hj => (up2_n (by omega)).trans (g12 j hj))
      · rw [show kmr 9 = 8 from rfl]
        refine e_tabIn (tgt := 201) dX10_takeRule_43 (by unfold inI; omega) (by decide) (by decide) rfl (by decide) ?_
        refine e_aload_n rfl dX10_takeRule_201 ?_
        refine e_getf fdX10_31 dX10_takeRule_202 kmh_97 rfl ?_
        refine e_aload_n rfl dX10_takeRule_205 ?_
        refine e_getf fdX10_131 dX10_takeRule_206 kmh_97 rfl ?_
        rw [g8]
        refine e_iconst dX10_takeRule_209 ?_
        refine e_isub dX10_takeRule_210 ?_
        refine e_bipush (by decide) dX10_takeRule_211 ?_
        refine e_aload_n rfl dX10_takeRule_213 ?_
        refine e_getf fdX10_31 dX10_takeRule_214 kmh_97 rfl ?_
        refine e_aload_n rfl dX10_takeRule_217 ?_
        refine e_getf fdX10_131 dX10_takeRule_218 kmh_97 rfl ?_
        rw [g8]
        refine e_iconst dX10_takeRule_221 ?_
        refine e_isub dX10_takeRule_222 ?_
        refine e_mld (by first | exact ka98 | exact ka99 | exact ka100 | exact ka101 | exact ka102 | exact ka103 | exact ka104 | exact ka105 | exact ka106 | exact ka107 | exact ka108 | exact ka109 | exact ka110 | exact ka111 | exact ka112 | exact ka113) dX10_takeRule_223 (by omega) (by omega) ?_
        rw [show ((cs : Int) - 1).toNat = cs - 1 by omega]
        refine e_imul dX10_takeRule_224 ?_
        refine e_iload_n rfl dX10_takeRule_225 ?_
        refine e_iadd dX10_takeRule_226 ?_
        refine e_bipush (by decide) dX10_takeRule_227 ?_
        refine e_isub dX10_takeRule_229 ?_
        refine e_mst (by first | exact ka98 | exact ka99 | exact ka100 | exact ka101 | exact ka102 | exact ka103 | exact ka104 | exact ka105 | exact ka106 | exact ka107 | exact ka108 | exact ka109 | exact ka110 | exact ka111 | exact ka112 | exact ka113) dX10_takeRule_230 (by omega) (by omega) ?_
        rw [show ((cs : Int) - 1).toNat = cs - 1 by omega]
        refine e_goto (tgt := 234) dX10_takeRule_231 (by decide) ?_
        refine e_iinc dX10_takeRule_234 rfl rfl ?_
        dsimp only [List.set]
        refine e_goto (tgt := 21) dX10_takeRule_237 (by decide) ?_
        exact ih (i + 1) _ 9 _ _ dn cs ts _ (by omega) (by omega) (by omega) trivial q5.symm (by decide) ((by have q1 := kTI_say (F' := up2 F9 105 (up (F9 105) (cs - 1) (10 * F9 105 (cs - 1) + T i - 48))) g7 (by omega) (by omega) (by omega) (fun j k hjk => up2_o1 j k hjk) up2_v1; rw [show s9 + 1 = 9 by omega] at q1; exact q1)) g8 g9 (g10) (g11) (fun j hj => (up2_n (by omega)).trans (g12 j hj))
set_option maxHeartbeats 4000000 in
set_option maxRecDepth 100000 in
theorem j_takeRule {G : kG} {d : Nat} {h : Nat → Option kC} {n : Nat} {q : Nat → Int} {F : Nat → Nat → Int} {T : Nat → Int} {c : Int} (hq : q 6 = c) (c0 : 0 ≤ c ∧ c ≤ 60) (hT : ∀ j, j < 60 → F 103 j = T j) (hF : ∀ j, j < 60 → 0 ≤ T j ∧ T j ≤ 126) (hns : krun T 0 c.toNat = 8 ∨ krun T 0 c.toNat = 9)  : kCall G mX10_takeRule (d + 3) 0 0 [.ref (gB G + 97)] (kmh G h q F) n (fun r h' n' => r = none ∧ n' = n ∧ ∃ (q' : Nat → Int) (F' : Nat → Nat → Int), h' = kmh G h q' F' ∧ kRD q' F' (c, T) ∧ q' 16 = q 16 ∧ ∀ j, j < 104 ∨ 108 < j → F' j = F j) := by
  show kE G mX10_takeRule (d + 3) 0 0 0 [some (.ref (gB G + 97)), none, none, none] [] (kmh G h q F) n _
  refine e_aload_n rfl dX10_takeRule_0 ?_
  refine e_iconst dX10_takeRule_1 ?_
  refine e_mput pfX10_131 dX10_takeRule_2 kml_9 rfl rfl rfl ?_
  refine e_aload_n rfl dX10_takeRule_5 ?_
  refine e_iconst dX10_takeRule_6 ?_
  refine e_mput pfX10_134 dX10_takeRule_7 kml_13 rfl rfl rfl ?_
  refine e_aload_n rfl dX10_takeRule_10 ?_
  refine e_getf fdX10_28 dX10_takeRule_11 kmh_97 rfl ?_
  refine e_iconst dX10_takeRule_14 ?_
  refine e_iconst dX10_takeRule_15 ?_
  refine e_mst (by first | exact ka98 | exact ka99 | exact ka100 | exact ka101 | exact ka102 | exact ka103 | exact ka104 | exact ka105 | exact ka106 | exact ka107 | exact ka108 | exact ka109 | exact ka110 | exact ka111 | exact ka112 | exact ka113) dX10_takeRule_16 (by omega) (by omega) ?_
  refine e_iconst dX10_takeRule_17 ?_
  refine e_istore_n dX10_takeRule_18 rfl rfl ?_
  dsimp only [List.set]
  refine e_iconst dX10_takeRule_19 ?_
  refine e_istore_n dX10_takeRule_20 rfl rfl ?_
  dsimp only [List.set]
  refine kE.mono (j_tr_lp (q := q) (F := F) hq c0 hT hF hns 100 0 0 0 _ _ 0 0 0 none (by omega) (by omega) (by omega) trivial rfl (by decide) (kTI_0 up2_v1) rfl rfl hq rfl (fun j hj => up2_n (by omega))) (fun r h' n' hp => hp)
set_option maxHeartbeats 4000000 in
set_option maxRecDepth 100000 in
theorem j_tg_lp {G : kG} {d : Nat} {h : Nat → Option kC} {n : Nat} {q : Nat → Int} {F : Nat → Nat → Int} {T : Nat → Int} {c : Int} (hq : q 6 = c) (c0 : 0 ≤ c ∧ c ≤ 60) (hT : ∀ j, j < 60 → F 103 j = T j) (hF : ∀ j, j < 60 → 0 ≤ T j ∧ T j ≤ 126) (hns : krun T 10 c.toNat = 14)  : ∀ (f : Nat) (i : Nat) (z s9 : Int) (q9 : Nat → Int) (F9 : Nat → Nat → Int) (dn cs : Nat) (e3 : Option Value), z = (i : Int) → z ≤ c → c - z ≤ f → True → s9 = krun T 10 i → s9 ≠ -1 → kGI T c.toNat i s9 F9 dn cs → q9 16 = (cs : Int) → q9 6 = c → (q9 9 = q 9 ∧ q9 13 = q 13) → (∀ j, j < 109 ∨ 110 < j → F9 j = F j) → kE G mX10_takeGrowth (d + 3) 0 0 9 [some (.ref (gB G + 97)), some (.int (jI (kmg9 s9))), some (.int (jI z)), e3] [] (kmh G h q9 F9) n (fun r h' n' => r = none ∧ n' = n ∧ ∃ (q' : Nat → Int) (F' : Nat → Nat → Int), h' = kmh G h q' F' ∧ kGD q' F' (c, T) ∧ (q' 9 = q 9 ∧ q' 13 = q 13) ∧ ∀ j, j < 109 ∨ 110 < j → F' j = F j) := by
  have hn1 : krun T 10 c.toNat ≠ -1 := by omega
  intro f
  induction f with
  | zero =>
    intro i z s9 q9 F9 dn cs e3 g1 g2 g3 g4 g5 g6 g7 g8 g9 g10 g11
    have q9b := krun_g T i
    rw [← g5] at q9b
    have qb := kGI_b g7
    have qp : 0 < c := by
      by_cases z : c = 0
      · rw [z] at hns
        have z0 : krun T 10 (0 : Int).toNat = 10 := rfl
        omega
      · omega
    refine e_iload_n rfl dX10_takeGrowth_9 ?_
    refine e_aload_n rfl dX10_takeGrowth_10 ?_
    refine e_getf fdX10_107 dX10_takeGrowth_11 kmh_97 rfl ?_
    rw [g9]
    refine e_icmp_ge (tgt := 118) dX10_takeGrowth_14 (by decide) (by first | assumption | (unfold inI at *; omega)) (by first | assumption | (unfold inI at *; omega)) (fun c14 => ?_) (fun c14 => ?_)
    · refine e_return dX10_takeGrowth_118 rfl ?_
      have e9 : i = c.toNat := by omega
      rw [e9] at g7 g5
      exact ⟨rfl, rfl, q9, F9, rfl, kGI_end (s := s9) (t := (c, T)) g7 qp c0.2 (by omega) g8, g10, g11⟩
    · exact absurd c14 (by omega)
  | succ f ih =>
    intro i z s9 q9 F9 dn cs e3 g1 g2 g3 g4 g5 g6 g7 g8 g9 g10 g11
    have q9b := krun_g T i
    rw [← g5] at q9b
    have qb := kGI_b g7
    have qp : 0 < c := by
      by_cases z : c = 0
      · rw [z] at hns
        have z0 : krun T 10 (0 : Int).toNat = 10 := rfl
        omega
      · omega
    have q8 := hF i
    subst g1
    refine e_iload_n rfl dX10_takeGrowth_9 ?_
    refine e_aload_n rfl dX10_takeGrowth_10 ?_
    refine e_getf fdX10_107 dX10_takeGrowth_11 kmh_97 rfl ?_
    rw [g9]
    refine e_icmp_ge (tgt := 118) dX10_takeGrowth_14 (by decide) (by first | assumption | (unfold inI at *; omega)) (by first | assumption | (unfold inI at *; omega)) (fun c14 => ?_) (fun c14 => ?_)
    · refine e_return dX10_takeGrowth_118 rfl ?_
      have e9 : i = c.toNat := by omega
      rw [e9] at g7 g5
      exact ⟨rfl, rfl, q9, F9, rfl, kGI_end (s := s9) (t := (c, T)) g7 qp c0.2 (by omega) g8, g10, g11⟩
    · refine e_aload_n rfl dX10_takeGrowth_17 ?_
      refine e_getf fdX10_25 dX10_takeGrowth_18 kmh_97 rfl ?_
      refine e_iload_n rfl dX10_takeGrowth_21 ?_
      refine e_mld (by first | exact ka98 | exact ka99 | exact ka100 | exact ka101 | exact ka102 | exact ka103 | exact ka104 | exact ka105 | exact ka106 | exact ka107 | exact ka108 | exact ka109 | exact ka110 | exact ka111 | exact ka112 | exact ka113) dX10_takeGrowth_22 (by omega) (by omega) ?_
      rw [Int.toNat_natCast, g11 103 (by omega), hT i (by omega)]
      have q7 := q8 (by omega)
      refine e_bipush (by decide) dX10_takeGrowth_23 ?_
      refine e_isub dX10_takeGrowth_25 ?_
      refine e_istore_n dX10_takeGrowth_26 rfl rfl ?_
      dsimp only [List.set]
      refine e_iload_n rfl dX10_takeGrowth_27 ?_
      refine e_aload_n rfl dX10_takeGrowth_28 ?_
      refine e_getf fdX10_25 dX10_takeGrowth_29 kmh_97 rfl ?_
      refine e_iload_n rfl dX10_takeGrowth_32 ?_
      refine e_mld (by first | exact ka98 | exact ka99 | exact ka100 | exact ka101 | exact ka102 | exact ka103 | exact ka104 | exact ka105 | exact ka106 | exact ka107 | exact ka108 | exact ka109 | exact ka110 | exact ka111 | exact ka112 | exact ka113) dX10_takeGrowth_33 (by omega) (by omega) ?_
      rw [Int.toNat_natCast, g11 103 (by omega), hT i (by omega)]
      refine eS2 mtX10_growthStep msX10_growthStep lkX10_121 dX10_takeGrowth_34 rfl rfl (j_growthStep (by omega) (by unfold inI; omega)) ?_
      dsimp only [Option.toList, List.cons_append, List.nil_append]
      refine e_istore_n dX10_takeGrowth_37 rfl rfl ?_
      dsimp only [List.set]
      obtain ⟨s8, hs8⟩ : ∃ s8, s8 = kaf s9 (T i) := ⟨_, rfl⟩
      rw [← hs8]
      have q5 : krun T 10 (i + 1) = s8 := by rw [hs8]; show (if _ then _ else _) = _; rw [← g5, if_neg g6]
      have q4 : s8 ≠ -1 := by rw [← q5]; exact krun_ns hn1 (by omega)
      have q3 := kaf_ing (x := T i) (s := s9) (by omega)
      rw [← hs8] at q3
      clear hs8
      rcases (show s8 = 10 ∨ s8 = 11 ∨ s8 = 12 ∨ s8 = 13 ∨ s8 = 14 by omega) with e | e | e | e | e <;> subst e
      · rw [show kmg9 10 = 0 from rfl]
        refine e_iload_n rfl dX10_takeGrowth_38 ?_
        refine e_iconst dX10_takeGrowth_39 ?_
        refine e_icmp_ne (tgt := 56) dX10_takeGrowth_40 (by decide) (by first | assumption | (unfold inI at *; omega)) (by first | assumption | (unfold inI at *; omega)) (fun c40 => ?_) (fun c40 => ?_)
        · refine e_iload_n rfl dX10_takeGrowth_56 ?_
          refine e_iconst dX10_takeGrowth_57 ?_
          refine e_icmp_ne (tgt := 87) dX10_takeGrowth_58 (by decide) (by first | assumption | (unfold inI at *; omega)) (by first | assumption | (unfold inI at *; omega)) (fun c58 => ?_) (fun c58 => ?_)
          · refine e_iload_n rfl dX10_takeGrowth_87 ?_
            refine e_iconst dX10_takeGrowth_88 ?_
            refine e_icmp_ne (tgt := 112) dX10_takeGrowth_89 (by decide) (by first | assumption | (unfold inI at *; omega)) (by first | assumption | (unfold inI at *; omega)) (fun c89 => ?_) (fun c89 => ?_)
            · refine e_iinc dX10_takeGrowth_112 rfl rfl ?_
              dsimp only [List.set]
              refine e_goto (tgt := 9) dX10_takeGrowth_115 (by decide) ?_
              exact ih (i + 1) _ 10 _ _ (dn + 1) cs _ (by omega) (by omega) (by omega) trivial q5.symm (by decide) (kGI_semi g7 (by omega) (by omega) (by omega)) g8 g9 g10 g11
            · exact absurd c89 (by omega)
          · exact absurd c58 (by omega)
        · exact absurd c40 (by omega)
      · rw [show kmg9 11 = 1 from rfl]
        refine e_iload_n rfl dX10_takeGrowth_38 ?_
        refine e_iconst dX10_takeGrowth_39 ?_
        refine e_icmp_ne (tgt := 56) dX10_takeGrowth_40 (by decide) (by first | assumption | (unfold inI at *; omega)) (by first | assumption | (unfold inI at *; omega)) (fun c40 => ?_) (fun c40 => ?_)
        · exact absurd c40 (by omega)
        · refine e_aload_n rfl dX10_takeGrowth_43 ?_
          refine e_getf fdX10_43 dX10_takeGrowth_44 kmh_97 rfl ?_
          refine e_aload_n rfl dX10_takeGrowth_47 ?_
          refine e_getf fdX10_137 dX10_takeGrowth_48 kmh_97 rfl ?_
          rw [g8]
          refine e_iload_n rfl dX10_takeGrowth_51 ?_
          refine e_mst (by first | exact ka98 | exact ka99 | exact ka100 | exact ka101 | exact ka102 | exact ka103 | exact ka104 | exact ka105 | exact ka106 | exact ka107 | exact ka108 | exact ka109 | exact ka110 | exact ka111 | exact ka112 | exact ka113) dX10_takeGrowth_52 (by omega) (by omega) ?_
          rw [Int.toNat_natCast]
          refine e_goto (tgt := 112) dX10_takeGrowth_53 (by decide) ?_
          refine e_iinc dX10_takeGrowth_112 rfl rfl ?_
          dsimp only [List.set]
          refine e_goto (tgt := 9) dX10_takeGrowth_115 (by decide) ?_
          exact ih (i + 1) _ 11 _ _ dn cs _ (by omega) (by omega) (by omega) trivial q5.symm (by decide) (kGI_d1 g7 (by omega) (by omega) (by omega) (fun j k hjk => up2_o1 j k hjk) up2_v1) g8 g9 g10 (fun j hj => (up2_n (by omega)).trans (g11 j hj))
      · rw [show kmg9 12 = 2 from rfl]
        refine e_iload_n rfl dX10_takeGrowth_38 ?_
        refine e_iconst dX10_takeGrowth_39 ?_
        refine e_icmp_ne (tgt := 56) dX10_takeGrowth_40 (by decide) (by first | assumption | (unfold inI at *; omega)) (by first | assumption | (unfold inI at *; omega)) (fun c40 => ?_) (fun c40 => ?_)
        · refine e_iload_n rfl dX10_takeGrowth_56 ?_
          refine e_iconst dX10_takeGrowth_57 ?_
          refine e_icmp_ne (tgt := 87) dX10_takeGrowth_58 (by decide) (by first | assumption | (unfold inI at *; omega)) (by first | assumption | (unfold inI at *; omega)) (fun c58 => ?_) (fun c58 => ?_)
          · exact absurd c58 (by omega)
          · refine e_aload_n rfl dX10_takeGrowth_61 ?_
            refine e_getf fdX10_43 dX10_takeGrowth_62 kmh_97 rfl ?_
            refine e_aload_n rfl dX10_takeGrowth_65 ?_
            refine e_getf fdX10_137 dX10_takeGrowth_66 kmh_97 rfl ?_
            rw [g8]
            refine e_bipush (by decide) dX10_takeGrowth_69 ?_
            refine e_aload_n rfl dX10_takeGrowth_71 ?_
            refine e_getf fdX10_43 dX10_takeGrowth_72 kmh_97 rfl ?_
            refine e_aload_n rfl dX10_takeGrowth_75 ?_
            refine e_getf fdX10_137 dX10_takeGrowth_76 kmh_97 rfl ?_
            rw [g8]
            refine e_mld (by first | exact ka98 | exact ka99 | exact ka100 | exact ka101 | exact ka102 | exact ka103 | exact ka104 | exact ka105 | exact ka106 | exact ka107 | exact ka108 | exact ka109 | exact ka110 | exact ka111 | exact ka112 | exact ka113) dX10_takeGrowth_79 (by omega) (by omega) ?_
            rw [Int.toNat_natCast]
            refine e_imul dX10_takeGrowth_80 ?_
            refine e_iload_n rfl dX10_takeGrowth_81 ?_
            refine e_iadd dX10_takeGrowth_82 ?_
            refine e_mst (by first | exact ka98 | exact ka99 | exact ka100 | exact ka101 | exact ka102 | exact ka103 | exact ka104 | exact ka105 | exact ka106 | exact ka107 | exact ka108 | exact ka109 | exact ka110 | exact ka111 | exact ka112 | exact ka113) dX10_takeGrowth_83 (by omega) (by omega) ?_
            rw [Int.toNat_natCast]
            refine e_goto (tgt := 112) dX10_takeGrowth_84 (by decide) ?_
            refine e_iinc dX10_takeGrowth_112 rfl rfl ?_
            dsimp only [List.set]
            refine e_goto (tgt := 9) dX10_takeGrowth_115 (by decide) ?_
            exact ih (i + 1) _ 12 _ _ dn cs _ (by omega) (by omega) (by omega) trivial q5.symm (by decide) (kGI_d2 g7 (by omega) (by omega) (by omega) (fun j k hjk => up2_o1 j k hjk) up2_v1) g8 g9 g10 (fun j hj => (up2_n (by omega)).trans (g11 j hj))
        · exact absurd c40 (by omega)
      · rw [show kmg9 13 = 3 from rfl]
        refine e_iload_n rfl dX10_takeGrowth_38 ?_
        refine e_iconst dX10_takeGrowth_39 ?_
        refine e_icmp_ne (tgt := 56) dX10_takeGrowth_40 (by decide) (by first | assumption | (unfold inI at *; omega)) (by first | assumption | (unfold inI at *; omega)) (fun c40 => ?_) (fun c40 => ?_)
        · refine e_iload_n rfl dX10_takeGrowth_56 ?_
          refine e_iconst dX10_takeGrowth_57 ?_
          refine e_icmp_ne (tgt := 87) dX10_takeGrowth_58 (by decide) (by first | assumption | (unfold inI at *; omega)) (by first | assumption | (unfold inI at *; omega)) (fun c58 => ?_) (fun c58 => ?_)
          · refine e_iload_n rfl dX10_takeGrowth_87 ?_
            refine e_iconst dX10_takeGrowth_88 ?_
            refine e_icmp_ne (tgt := 112) dX10_takeGrowth_89 (by decide) (by first | assumption | (unfold inI at *; omega)) (by first | assumption | (unfold inI at *; omega)) (fun c89 => ?_) (fun c89 => ?_)
            · refine e_iinc dX10_takeGrowth_112 rfl rfl ?_
              dsimp only [List.set]
              refine e_goto (tgt := 9) dX10_takeGrowth_115 (by decide) ?_
              exact ih (i + 1) _ 13 _ _ dn cs _ (by omega) (by omega) (by omega) trivial q5.symm (by decide) (kGI_col g7 (by omega) (by omega) (by omega)) g8 g9 g10 g11
            · exact absurd c89 (by omega)
          · exact absurd c58 (by omega)
        · exact absurd c40 (by omega)
      · rw [show kmg9 14 = 4 from rfl]
        refine e_iload_n rfl dX10_takeGrowth_38 ?_
        refine e_iconst dX10_takeGrowth_39 ?_
        refine e_icmp_ne (tgt := 56) dX10_takeGrowth_40 (by decide) (by first | assumption | (unfold inI at *; omega)) (by first | assumption | (unfold inI at *; omega)) (fun c40 => ?_) (fun c40 => ?_)
        · refine e_iload_n rfl dX10_takeGrowth_56 ?_
          refine e_iconst dX10_takeGrowth_57 ?_
          refine e_icmp_ne (tgt := 87) dX10_takeGrowth_58 (by decide) (by first | assumption | (unfold inI at *; omega)) (by first | assumption | (unfold inI at *; omega)) (fun c58 => ?_) (fun c58 => ?_)
          · refine e_iload_n rfl dX10_takeGrowth_87 ?_
            refine e_iconst dX10_takeGrowth_88 ?_
            refine e_icmp_ne (tgt := 112) dX10_takeGrowth_89 (by decide) (by first | assumption | (unfold inI at *; omega)) (by first | assumption | (unfold inI at *; omega)) (fun c89 => ?_) (fun c89 => ?_)
            · exact absurd c89 (by omega)
            · refine e_aload_n rfl dX10_takeGrowth_92 ?_
              refine e_getf fdX10_46 dX10_takeGrowth_93 kmh_97 rfl ?_
              refine e_aload_n rfl dX10_takeGrowth_96 ?_
              refine e_getf fdX10_137 dX10_takeGrowth_97 kmh_97 rfl ?_
              rw [g8]
              refine e_iload_n rfl dX10_takeGrowth_100 ?_
              refine e_mst (by first | exact ka98 | exact ka99 | exact ka100 | exact ka101 | exact ka102 | exact ka103 | exact ka104 | exact ka105 | exact ka106 | exact ka107 | exact ka108 | exact ka109 | exact ka110 | exact ka111 | exact ka112 | exact ka113) dX10_takeGrowth_101 (by omega) (by omega) ?_
              rw [Int.toNat_natCast]
              refine e_aload_n rfl dX10_takeGrowth_102 ?_
              refine e_dup rfl dX10_takeGrowth_103 ?_
              refine e_getf fdX10_137 dX10_takeGrowth_104 kmh_97 rfl ?_
              rw [g8]
              refine e_iconst dX10_takeGrowth_107 ?_
              refine e_iadd dX10_takeGrowth_108 ?_
              refine e_mput pfX10_137 dX10_takeGrowth_109 kml_16 rfl rfl rfl ?_
              refine e_iinc dX10_takeGrowth_112 rfl rfl ?_
              dsimp only [List.set]
              refine e_goto (tgt := 9) dX10_takeGrowth_115 (by decide) ?_
              exact ih (i + 1) _ 14 _ _ dn (cs + 1) _ (by omega) (by omega) (by omega) trivial q5.symm (by decide) (kGI_say g7 (by omega) (by omega) (by omega) (fun j k hjk => up2_o1 j k hjk) up2_v1) (by rw [up_s]; omega) g9 g10 (fun j hj => (up2_n (by omega)).trans (g11 j hj))
          · exact absurd c58 (by omega)
        · exact absurd c40 (by omega)
set_option maxHeartbeats 4000000 in
set_option maxRecDepth 100000 in
theorem j_takeGrowth {G : kG} {d : Nat} {h : Nat → Option kC} {n : Nat} {q : Nat → Int} {F : Nat → Nat → Int} {T : Nat → Int} {c : Int} (hq : q 6 = c) (c0 : 0 ≤ c ∧ c ≤ 60) (hT : ∀ j, j < 60 → F 103 j = T j) (hF : ∀ j, j < 60 → 0 ≤ T j ∧ T j ≤ 126) (hns : krun T 10 c.toNat = 14)  : kCall G mX10_takeGrowth (d + 3) 0 0 [.ref (gB G + 97)] (kmh G h q F) n (fun r h' n' => r = none ∧ n' = n ∧ ∃ (q' : Nat → Int) (F' : Nat → Nat → Int), h' = kmh G h q' F' ∧ kGD q' F' (c, T) ∧ (q' 9 = q 9 ∧ q' 13 = q 13) ∧ ∀ j, j < 109 ∨ 110 < j → F' j = F j) := by
  show kE G mX10_takeGrowth (d + 3) 0 0 0 [some (.ref (gB G + 97)), none, none, none] [] (kmh G h q F) n _
  refine e_aload_n rfl dX10_takeGrowth_0 ?_
  refine e_iconst dX10_takeGrowth_1 ?_
  refine e_mput pfX10_137 dX10_takeGrowth_2 kml_16 rfl rfl rfl ?_
  refine e_iconst dX10_takeGrowth_5 ?_
  refine e_istore_n dX10_takeGrowth_6 rfl rfl ?_
  dsimp only [List.set]
  refine e_iconst dX10_takeGrowth_7 ?_
  refine e_istore_n dX10_takeGrowth_8 rfl rfl ?_
  dsimp only [List.set]
  refine kE.mono (j_tg_lp (q := q) (F := F) hq c0 hT hF hns 100 0 0 10 _ _ 0 0 none (by omega) (by omega) (by omega) trivial rfl (by decide) kGI_0 rfl hq ⟨rfl, rfl⟩ (fun j _ => rfl)) (fun r h' n' hp => hp)
theorem rMD_tr {q q' : Nat → Int} {F F' : Nat → Nat → Int} {Z : kCs} (r : rMD q F Z) (h6 : q' 6 = 0) (rd : kRD q' F' (cP Z)) (h16 : q' 16 = q 16) (hF : ∀ j, j < 104 ∨ 108 < j → F' j = F j) : rMD q' F' (kSR (cN Z) (cP Z), (0, (cP Z).2), Z.2.2) := by
  obtain ⟨⟨a1, a2, a3, a4, a5⟩, r2, r3, r4, r5⟩ := r
  refine ⟨⟨?_, ?_, ?_, rd, kGD_2 a5 h16 (hF 109 (by omega)) (hF 110 (by omega))⟩, h6, ?_, ?_, ?_⟩
  · rw [hF 98 (by omega)]; exact a1
  · rw [hF 99 (by omega), hF 100 (by omega), hF 101 (by omega)]; exact a2
  · rw [hF 102 (by omega)]; exact a3
  · rw [hF 103 (by omega)]; exact r3
  · rw [hF 114 (by omega)]; exact r4
  · rw [hF 113 (by omega)]; exact r5
theorem rMD_tg {q q' : Nat → Int} {F F' : Nat → Nat → Int} {Z : kCs} (r : rMD q F Z) (h6 : q' 6 = 0) (rd : kGD q' F' (cP Z)) (h9 : q' 9 = q 9 ∧ q' 13 = q 13) (hF : ∀ j, j < 109 ∨ 110 < j → F' j = F j) : rMD q' F' (kSG (cN Z) (cP Z), (0, (cP Z).2), Z.2.2) := by
  obtain ⟨⟨a1, a2, a3, a4, a5⟩, r2, r3, r4, r5⟩ := r
  refine ⟨⟨?_, ?_, ?_, kRD_2 a4 h9.1 h9.2 (fun j _ _ => hF j (by omega)), rd⟩, h6, ?_, ?_, ?_⟩
  · rw [hF 98 (by omega)]; exact a1
  · rw [hF 99 (by omega), hF 100 (by omega), hF 101 (by omega)]; exact a2
  · rw [hF 102 (by omega)]; exact a3
  · rw [hF 103 (by omega)]; exact r3
  · rw [hF 114 (by omega)]; exact r4
  · rw [hF 113 (by omega)]; exact r5
set_option maxHeartbeats 4000000 in
set_option maxRecDepth 100000 in
theorem j_take0 {G : kG} {d : Nat} {h : Nat → Option kC} {n : Nat} {q : Nat → Int} {F : Nat → Nat → Int} {Z : kCs} (md : rMD q F Z) (ok : kCok Z)  : kCall G mX10_take (d + 4) 0 0 [.ref (gB G + 97), .int (jI 0)] (kmh G h q F) n (kQm G h n (.int (jI (a_take Z 0))) (s_take Z 0)) := by
  show kE G mX10_take (d + 4) 0 0 0 [some (.ref (gB G + 97)), some (.int (jI 0))] [] (kmh G h q F) n _
  refine e_iload_n rfl dX10_take_0 ?_
  refine eS1 mtX10_isEnd msX10_isEnd lkX10_124 dX10_take_1 rfl rfl (j_isEnd (by first | assumption | (unfold inI at *; omega))) ?_
  dsimp only [Option.toList, List.cons_append, List.nil_append]
  refine e_ifneP (tgt := 10) dX10_take_4 (by decide) (fun c4 => ?_) (fun c4 => ?_)
  · refine e_aload_n rfl dX10_take_10 ?_
    refine e_iload_n rfl dX10_take_11 ?_
    refine eV1 mtX10_faultOf miX10_faultOf lkX10_127 dX10_take_12 kmh_97 rfl rfl rfl (j_faultOf0 md.2.1 ⟨ok.2.1.1, ok.2.1.2.1⟩ md.2.2.1 ok.2.1.2.2) ?_
    dsimp only [Option.toList, List.cons_append, List.nil_append]
    have q7 := kfault_6 (T := (cP Z).2) (c := (cP Z).1) (how := 0) ok.2.1.1
    have q6 := kfault_in (cP Z).2 ok.2.1.1 ok.2.1.2.1 0
    refine e_if_lt (tgt := 21) dX10_take_15 (by decide) q6 (fun c15 => ?_) (fun c15 => ?_)
    · refine e_iload_n rfl dX10_take_21 ?_
      refine e_if_ne (tgt := 32) dX10_take_22 (by decide) (by first | assumption | (unfold inI at *; omega)) (fun c22 => ?_) (fun c22 => ?_)
      · exact absurd c22 (by omega)
      · refine e_aload_n rfl dX10_take_25 ?_
        have n9 : krun (cP Z).2 0 (cP Z).1.toNat = 8 ∨ krun (cP Z).2 0 (cP Z).1.toNat = 9 := by
          have z1 := kfault_n (T := (cP Z).2) (c := (cP Z).1) (how := 0) ok.2.1.1 (by omega)
          rw [if_pos rfl] at z1
          have z2 := krun_r (cP Z).2 (cP Z).1.toNat
          omega
        refine eV0R mtX10_takeRule miX10_takeRule lkX10_140 dX10_take_26 kmh_97 rfl rfl rfl (j_takeRule md.2.1 ⟨ok.2.1.1, ok.2.1.2.1⟩ md.2.2.1 ok.2.1.2.2 n9) (fun r26 h26 n26 hp26 => ?_)
        obtain ⟨hr8, hn8, q8, F8, hh8, rd8, hq8, hF8⟩ := hp26
        subst hr8
        subst hn8
        subst hh8
        dsimp only [Option.toList, List.cons_append, List.nil_append]
        refine e_goto (tgt := 36) dX10_take_29 (by decide) ?_
        refine e_aload_n rfl dX10_take_36 ?_
        refine e_iconst dX10_take_37 ?_
        refine e_mput pfX10_107 dX10_take_38 kml_6 rfl rfl rfl ?_
        refine e_iload_n rfl dX10_take_41 ?_
        refine e_if_ne (tgt := 52) dX10_take_42 (by decide) (by first | assumption | (unfold inI at *; omega)) (fun c42 => ?_) (fun c42 => ?_)
        · exact absurd c42 (by omega)
        · refine e_aload_n rfl dX10_take_45 ?_
          refine e_getf fdX10_131 dX10_take_46 kmh_97 rfl ?_
          rw [up_n (by decide), rd8.1]
          refine e_goto (tgt := 56) dX10_take_49 (by decide) ?_
          refine e_ireturn dX10_take_56 rfl rfl ?_
          have e9 : s_take Z 0 = (if (0 : Int) = 0 then kSR (cN Z) (cP Z) else kSG (cN Z) (cP Z), (0, (cP Z).2), Z.2.2) := if_pos ⟨by omega, by omega⟩
          rw [e9, if_pos rfl]
          exact ⟨by unfold a_take; rw [if_pos (by omega), if_pos (by omega)], rfl, _, _, rfl, rMD_tr md rfl (kRD_2 rd8 rfl rfl (fun _ _ _ => rfl)) hq8 hF8⟩
    · refine e_bipush (by decide) dX10_take_18 ?_
      refine e_ireturn dX10_take_20 rfl rfl ?_
      rw [s_takeN (by omega)]
      exact kQm_0 (by unfold a_take; rw [if_pos (by omega), if_neg (by omega)]) md
  · exact absurd c4 (by omega)
set_option maxHeartbeats 4000000 in
set_option maxRecDepth 100000 in
theorem j_take1 {G : kG} {d : Nat} {h : Nat → Option kC} {n : Nat} {q : Nat → Int} {F : Nat → Nat → Int} {Z : kCs} (md : rMD q F Z) (ok : kCok Z)  : kCall G mX10_take (d + 4) 0 0 [.ref (gB G + 97), .int (jI 1)] (kmh G h q F) n (kQm G h n (.int (jI (a_take Z 1))) (s_take Z 1)) := by
  show kE G mX10_take (d + 4) 0 0 0 [some (.ref (gB G + 97)), some (.int (jI 1))] [] (kmh G h q F) n _
  refine e_iload_n rfl dX10_take_0 ?_
  refine eS1 mtX10_isEnd msX10_isEnd lkX10_124 dX10_take_1 rfl rfl (j_isEnd (by first | assumption | (unfold inI at *; omega))) ?_
  dsimp only [Option.toList, List.cons_append, List.nil_append]
  refine e_ifneP (tgt := 10) dX10_take_4 (by decide) (fun c4 => ?_) (fun c4 => ?_)
  · refine e_aload_n rfl dX10_take_10 ?_
    refine e_iload_n rfl dX10_take_11 ?_
    refine eV1 mtX10_faultOf miX10_faultOf lkX10_127 dX10_take_12 kmh_97 rfl rfl rfl (j_faultOf1 md.2.1 ⟨ok.2.1.1, ok.2.1.2.1⟩ md.2.2.1 ok.2.1.2.2) ?_
    dsimp only [Option.toList, List.cons_append, List.nil_append]
    have q7 := kfault_6 (T := (cP Z).2) (c := (cP Z).1) (how := 1) ok.2.1.1
    have q6 := kfault_in (cP Z).2 ok.2.1.1 ok.2.1.2.1 1
    refine e_if_lt (tgt := 21) dX10_take_15 (by decide) q6 (fun c15 => ?_) (fun c15 => ?_)
    · refine e_iload_n rfl dX10_take_21 ?_
      refine e_if_ne (tgt := 32) dX10_take_22 (by decide) (by first | assumption | (unfold inI at *; omega)) (fun c22 => ?_) (fun c22 => ?_)
      · refine e_aload_n rfl dX10_take_32 ?_
        have n9 : krun (cP Z).2 10 (cP Z).1.toNat = 14 := by
          have z1 := kfault_n (T := (cP Z).2) (c := (cP Z).1) (how := 1) ok.2.1.1 (by omega)
          rw [if_neg (by decide)] at z1
          have z2 := krun_g (cP Z).2 (cP Z).1.toNat
          omega
        refine eV0R mtX10_takeGrowth miX10_takeGrowth lkX10_143 dX10_take_33 kmh_97 rfl rfl rfl (j_takeGrowth md.2.1 ⟨ok.2.1.1, ok.2.1.2.1⟩ md.2.2.1 ok.2.1.2.2 n9) (fun r33 h33 n33 hp33 => ?_)
        obtain ⟨hr8, hn8, q8, F8, hh8, rd8, hq8, hF8⟩ := hp33
        subst hr8
        subst hn8
        subst hh8
        dsimp only [Option.toList, List.cons_append, List.nil_append]
        refine e_aload_n rfl dX10_take_36 ?_
        refine e_iconst dX10_take_37 ?_
        refine e_mput pfX10_107 dX10_take_38 kml_6 rfl rfl rfl ?_
        refine e_iload_n rfl dX10_take_41 ?_
        refine e_if_ne (tgt := 52) dX10_take_42 (by decide) (by first | assumption | (unfold inI at *; omega)) (fun c42 => ?_) (fun c42 => ?_)
        · refine e_aload_n rfl dX10_take_52 ?_
          refine e_getf fdX10_137 dX10_take_53 kmh_97 rfl ?_
          rw [up_n (by decide), rd8.1]
          refine e_ireturn dX10_take_56 rfl rfl ?_
          have e9 : s_take Z 1 = (if (1 : Int) = 0 then kSR (cN Z) (cP Z) else kSG (cN Z) (cP Z), (0, (cP Z).2), Z.2.2) := if_pos ⟨by omega, by omega⟩
          rw [e9, if_neg (by decide)]
          exact ⟨by unfold a_take; rw [if_pos (by omega), if_pos (by omega)], rfl, _, _, rfl, rMD_tg md rfl (kGD_2 rd8 rfl rfl rfl) hq8 hF8⟩
        · exact absurd c42 (by omega)
      · exact absurd c22 (by omega)
    · refine e_bipush (by decide) dX10_take_18 ?_
      refine e_ireturn dX10_take_20 rfl rfl ?_
      rw [s_takeN (by omega)]
      exact kQm_0 (by unfold a_take; rw [if_pos (by omega), if_neg (by omega)]) md
  · exact absurd c4 (by omega)
set_option maxHeartbeats 4000000 in
set_option maxRecDepth 100000 in
theorem j_takeN {G : kG} {d : Nat} {h : Nat → Option kC} {n : Nat} {q : Nat → Int} {F : Nat → Nat → Int} {Z : kCs} (md : rMD q F Z) (ok : kCok Z) {x : Int} (hx : inI x) (cx : ¬ (0 ≤ x ∧ x ≤ 1)) : kCall G mX10_take (d + 4) 0 0 [.ref (gB G + 97), .int (jI x)] (kmh G h q F) n (kQm G h n (.int (jI (a_take Z x))) (s_take Z x)) := by
  show kE G mX10_take (d + 4) 0 0 0 [some (.ref (gB G + 97)), some (.int (jI x))] [] (kmh G h q F) n _
  refine e_iload_n rfl dX10_take_0 ?_
  refine eS1 mtX10_isEnd msX10_isEnd lkX10_124 dX10_take_1 rfl rfl (j_isEnd (by first | assumption | (unfold inI at *; omega))) ?_
  dsimp only [Option.toList, List.cons_append, List.nil_append]
  refine e_ifneP (tgt := 10) dX10_take_4 (by decide) (fun c4 => ?_) (fun c4 => ?_)
  · exact absurd c4 (by omega)
  · refine e_bipush (by decide) dX10_take_7 ?_
    refine e_ireturn dX10_take_9 rfl rfl ?_
    rw [s_takeN (by omega)]
    exact kQm_0 (by unfold a_take; rw [if_neg (by omega)]) md
theorem j_take {G : kG} {d : Nat} {h : Nat → Option kC} {n : Nat} {q : Nat → Int} {F : Nat → Nat → Int} {Z : kCs} (md : rMD q F Z) (ok : kCok Z) {x : Int} (hx : inI x) : kCall G mX10_take (d + 4) 0 0 [.ref (gB G + 97), .int (jI x)] (kmh G h q F) n (kQm G h n (.int (jI (a_take Z x))) (s_take Z x)) := by
  rcases (show x = 0 ∨ x = 1 ∨ ¬ (0 ≤ x ∧ x ≤ 1) by omega) with c | c | c
  · subst c
    exact j_take0 md ok
  · subst c
    exact j_take1 md ok
  · exact j_takeN md ok hx c
