/-! THE REFERENCE: WHAT WRITES -/
theorem rMD_98 {q : Nat → Int} {F F' : Nat → Nat → Int} {Z : kCs} {M' : Nat → Nat → Int} (r : rMD q F Z) (hF : ∀ j, j ≠ 98 → j ≠ 111 → j ≠ 112 → F' j = F j) (hm : ∀ b x : Nat, b < 6 → x < 64 → F' 98 (64 * b + x) = M' b x) : rMD q F' ((M', (cN Z).2), Z.2) := by
  obtain ⟨⟨a1, a2, a3, a4, a5⟩, r2, r3, r4, r5⟩ := r
  refine ⟨⟨hm, ?_, ?_, kRD_F a4 (fun j _ _ => hF j (by omega) (by omega) (by omega)), kGD_F a5 (fun j _ _ => hF j (by omega) (by omega) (by omega))⟩, r2, ?_, ?_, ?_⟩
  · rw [hF 99 (by omega) (by omega) (by omega), hF 100 (by omega) (by omega) (by omega), hF 101 (by omega) (by omega) (by omega)]; exact a2
  · rw [hF 102 (by omega) (by omega) (by omega)]; exact a3
  · rw [hF 103 (by omega) (by omega) (by omega)]; exact r3
  · rw [hF 114 (by omega) (by omega) (by omega)]; exact r4
  · rw [hF 113 (by omega) (by omega) (by omega)]; exact r5
theorem rMD_E {q : Nat → Int} {F F' : Nat → Nat → Int} {Z : kCs} {E' : Nat → Nat → Int} (r : rMD q F Z) (hF : ∀ j, j < 99 ∨ 101 < j → F' j = F j) (he : ∀ b : Nat, b < 6 → F' 99 b = E' b 0 ∧ F' 100 b = E' b 1 ∧ F' 101 b = E' b 2) : rMD q F' ((hM (cN Z), E', (cN Z).2.2), Z.2) := by
  obtain ⟨⟨a1, a2, a3, a4, a5⟩, r2, r3, r4, r5⟩ := r
  refine ⟨⟨?_, he, ?_, kRD_F a4 (fun j _ _ => hF j (by omega)), kGD_F a5 (fun j _ _ => hF j (by omega))⟩, r2, ?_, ?_, ?_⟩
  · rw [hF 98 (by omega)]; exact a1
  · rw [hF 102 (by omega)]; exact a3
  · rw [hF 103 (by omega)]; exact r3
  · rw [hF 114 (by omega)]; exact r4
  · rw [hF 113 (by omega)]; exact r5
theorem rMD_W {q : Nat → Int} {F : Nat → Nat → Int} {Z : kCs} {W' : Nat → Int} (r : rMD q F Z) {V : Nat → Int} (hw : ∀ k : Nat, k < 5 → V k = W' k) : rMD q (up2 F 102 V) (kSW (cN Z) W', Z.2) := by
  obtain ⟨⟨a1, a2, a3, a4, a5⟩, r2, r3, r4, r5⟩ := r
  exact ⟨⟨a1, a2, hw, kRD_F a4 (fun j _ _ => up2_n (by omega)), kGD_F a5 (fun j _ _ => up2_n (by omega))⟩, r2, r3, r4, r5⟩
theorem rMD_P {q q' : Nat → Int} {F : Nat → Nat → Int} {Z : kCs} {p : Int × (Nat → Int)} (r : rMD q F Z) {V : Nat → Int} (h1 : q' 9 = q 9) (h2 : q' 13 = q 13) (h3 : q' 16 = q 16) (hq : q' 6 = p.1) (hs : ∀ j : Nat, j < 60 → V j = p.2 j) : rMD q' (up2 F 103 V) (cN Z, p, Z.2.2) := by
  have r9 := rHD_q r.1 h1 h2 h3
  obtain ⟨⟨a1, a2, a3, a4, a5⟩, r2, r3, r4, r5⟩ := r
  exact ⟨⟨a1, a2, a3, kRD_F r9.2.2.2.1 (fun j _ _ => up2_n (by omega)), kGD_F r9.2.2.2.2 (fun j _ _ => up2_n (by omega))⟩, hq, hs, r4, r5⟩
theorem rMD_p {q q' : Nat → Int} {F : Nat → Nat → Int} {Z : kCs} (r : rMD q F Z) {c : Int} (h1 : q' 9 = q 9) (h2 : q' 13 = q 13) (h3 : q' 16 = q 16) (hq : q' 6 = c) : rMD q' F (cN Z, (c, (cP Z).2), Z.2.2) := ⟨rHD_q r.1 h1 h2 h3, hq, r.2.2⟩
set_option maxHeartbeats 4000000 in
set_option maxRecDepth 100000 in
theorem j_men {G : kG} {d : Nat} {h : Nat → Option kC} {n : Nat} {q : Nat → Int} {F : Nat → Nat → Int} {Z : kCs} (md : rMD q F Z) (ok : kCok Z)  {b : Int} (hb : inI b) {x : Int} (hx : inI x) {v : Int} (hv : inI v) : kCall G mX10_men (d + 4) 0 0 [.ref (gB G + 97), .int (jI b), .int (jI x), .int (jI v)] (kmh G h q F) n (kQm G h n (.int (jI (a_men Z b x v))) (s_men Z b x v)) := by
  show kE G mX10_men (d + 4) 0 0 0 [some (.ref (gB G + 97)), some (.int (jI b)), some (.int (jI x)), some (.int (jI v)), none] [] (kmh G h q F) n _
  refine e_iload_n rfl dX10_men_0 ?_
  refine eS1 mtX10_isBook msX10_isBook lkX10_76 dX10_men_1 rfl rfl (j_isBook (by first | assumption | (unfold inI at *; omega))) ?_
  dsimp only [Option.toList, List.cons_append, List.nil_append]
  refine e_ifneP (tgt := 9) dX10_men_4 (by decide) (fun c4 => ?_) (fun c4 => ?_)
  · refine e_iload_n rfl dX10_men_9 ?_
    refine eS1 mtX10_isHeight msX10_isHeight lkX10_80 dX10_men_10 rfl rfl (j_isHeight (by first | assumption | (unfold inI at *; omega))) ?_
    dsimp only [Option.toList, List.cons_append, List.nil_append]
    refine e_ifeqP (tgt := 28) dX10_men_13 (by decide) (fun c13 => ?_) (fun c13 => ?_)
    · refine e_bipush (by decide) dX10_men_28 ?_
      refine e_ireturn dX10_men_30 rfl rfl ?_
      rw [s_menN (by omega)]
      exact kQm_0 (by unfold a_men; (repeat' split) <;> first | rfl | (exfalso; omega)) md
    · refine e_iload_n rfl dX10_men_16 ?_
      refine e_i2l (by first | assumption | (unfold inI at *; omega)) dX10_men_17 ?_
      refine e_lconst (z := 0) (by decide) dX10_men_18 ?_
      refine e_ldc2 (z := 999) kcX10_83 (by decide) dX10_men_19 ?_
      refine eS3 mtX10_in msX10_in lkX10_64 dX10_men_22 rfl rfl (j_in (by first | assumption | exact inL_of (by assumption) | (unfold inL; omega) | (unfold inI at *; unfold inL; omega)) (by first | assumption | exact inL_of (by assumption) | (unfold inL; omega) | (unfold inI at *; unfold inL; omega)) (by first | assumption | exact inL_of (by assumption) | (unfold inL; omega) | (unfold inI at *; unfold inL; omega))) ?_
      dsimp only [Option.toList, List.cons_append, List.nil_append]
      refine e_ifneP (tgt := 31) dX10_men_25 (by decide) (fun c25 => ?_) (fun c25 => ?_)
      · refine e_aload_n rfl dX10_men_31 ?_
        refine e_getf fdX10_7 dX10_men_32 kmh_97 rfl ?_
        refine e_iload_n rfl dX10_men_35 ?_
        refine e_iload_n rfl dX10_men_36 ?_
        refine eS2 mtX10_at msX10_at lkX10_85 dX10_men_37 rfl rfl j_at ?_
        dsimp only [Option.toList, List.cons_append, List.nil_append]
        refine e_mld (by first | exact ka98 | exact ka99 | exact ka100 | exact ka101 | exact ka102 | exact ka103 | exact ka104 | exact ka105 | exact ka106 | exact ka107 | exact ka108 | exact ka109 | exact ka110 | exact ka111 | exact ka112 | exact ka113) dX10_men_40 (by omega) (by omega) ?_
        rw [md_m md (by omega) (by omega)]
        refine e_istore dX10_men_41 rfl rfl ?_
        dsimp only [List.set]
        refine e_aload_n rfl dX10_men_43 ?_
        refine e_getf fdX10_7 dX10_men_44 kmh_97 rfl ?_
        refine e_iload_n rfl dX10_men_47 ?_
        refine e_iload_n rfl dX10_men_48 ?_
        refine eS2 mtX10_at msX10_at lkX10_85 dX10_men_49 rfl rfl j_at ?_
        dsimp only [Option.toList, List.cons_append, List.nil_append]
        refine e_iload_n rfl dX10_men_52 ?_
        refine e_mst (by first | exact ka98 | exact ka99 | exact ka100 | exact ka101 | exact ka102 | exact ka103 | exact ka104 | exact ka105 | exact ka106 | exact ka107 | exact ka108 | exact ka109 | exact ka110 | exact ka111 | exact ka112 | exact ka113) dX10_men_53 (by omega) (by omega) ?_
        refine e_iload rfl dX10_men_54 ?_
        refine e_ireturn dX10_men_56 rfl rfl ?_
        have e9 : s_men Z b x v = (kSM (cN Z) b.toNat (up (hM (cN Z) b.toNat) x.toNat v), Z.2) := if_pos ⟨by omega, by omega, by omega⟩
        rw [e9]
        refine ⟨by unfold a_men; (repeat' split) <;> first | rfl | (exfalso; omega), rfl, q, _, rfl, rMD_98 (M' := up2 (hM (cN Z)) b.toNat (up (hM (cN Z) b.toNat) x.toNat v)) md (fun j h1 _ _ => up2_n h1) (fun b9 x9 h1 h2 => ?_)⟩
        rw [up2_s]
        unfold up2 up
        have m9 := md.1.1 b9 x9 h1 h2
        by_cases e : b9 = b.toNat
        · subst e
          rw [if_pos rfl]
          by_cases e2 : x9 = x.toNat
          · rw [if_pos (by omega), if_pos e2]
          · rw [if_neg (by omega), if_neg e2]
            exact m9
        · rw [if_neg (by omega), if_neg e]
          exact m9
      · refine e_bipush (by decide) dX10_men_28 ?_
        refine e_ireturn dX10_men_30 rfl rfl ?_
        rw [s_menN (by omega)]
        exact kQm_0 (by unfold a_men; (repeat' split) <;> first | rfl | (exfalso; omega)) md
  · refine e_iconst dX10_men_7 ?_
    refine e_ireturn dX10_men_8 rfl rfl ?_
    rw [s_menN (by omega)]
    exact kQm_0 (by unfold a_men; (repeat' split) <;> first | rfl | (exfalso; omega)) md
theorem k_set9 {F : Nat → Nat → Int} {E : Nat → Nat → Int} {b b9 k : Nat} {v : Int} (m9 : F 99 b9 = E b9 0 ∧ F 100 b9 = E b9 1 ∧ F 101 b9 = E b9 2) (hk : k = 0 ∨ k = 1 ∨ k = 2) : up2 F (99 + k) (up (F (99 + k)) b v) 99 b9 = up2 E b (up (E b) k v) b9 0 ∧ up2 F (99 + k) (up (F (99 + k)) b v) 100 b9 = up2 E b (up (E b) k v) b9 1 ∧ up2 F (99 + k) (up (F (99 + k)) b v) 101 b9 = up2 E b (up (E b) k v) b9 2 := by
  by_cases e : b9 = b
  · subst e
    rcases hk with e | e | e <;> subst e <;> simp [up2, up, m9]
  · rcases hk with e2 | e2 | e2 <;> subst e2 <;> simp [up2, up, m9, e]
set_option maxHeartbeats 4000000 in
set_option maxRecDepth 100000 in
theorem j_set0 {G : kG} {d : Nat} {h : Nat → Option kC} {n : Nat} {q : Nat → Int} {F : Nat → Nat → Int} {Z : kCs} (md : rMD q F Z) (ok : kCok Z) {b x v : Int} (hb : inI b) (hv : inI v) (cx : x = 0) : kCall G mX10_set (d + 4) 0 0 [.ref (gB G + 97), .int (jI b), .int (jI x), .int (jI v)] (kmh G h q F) n (kQm G h n (.int (jI (a_set Z b x v))) (s_set Z b x v)) := by
  show kE G mX10_set (d + 4) 0 0 0 [some (.ref (gB G + 97)), some (.int (jI b)), some (.int (jI x)), some (.int (jI v)), none] [] (kmh G h q F) n _
  have l9 : kLE x.toNat = 0 ∧ kME x.toNat = 99 := by subst cx; decide
  refine e_iload_n rfl dX10_set_0 ?_
  refine eS1 mtX10_isBook msX10_isBook lkX10_76 dX10_set_1 rfl rfl (j_isBook (by first | assumption | (unfold inI at *; omega))) ?_
  dsimp only [Option.toList, List.cons_append, List.nil_append]
  refine e_ifneP (tgt := 9) dX10_set_4 (by decide) (fun c4 => ?_) (fun c4 => ?_)
  · refine e_iload_n rfl dX10_set_9 ?_
    refine e_i2l (by first | assumption | (unfold inI at *; omega)) dX10_set_10 ?_
    refine e_lconst (z := 0) (by decide) dX10_set_11 ?_
    refine e_ldc2 (z := 2) kcX10_89 (by decide) dX10_set_12 ?_
    refine eS3 mtX10_in msX10_in lkX10_64 dX10_set_15 rfl rfl (j_in (by first | assumption | exact inL_of (by assumption) | (unfold inL; omega) | (unfold inI at *; unfold inL; omega)) (by first | assumption | exact inL_of (by assumption) | (unfold inL; omega) | (unfold inI at *; unfold inL; omega)) (by first | assumption | exact inL_of (by assumption) | (unfold inL; omega) | (unfold inI at *; unfold inL; omega))) ?_
    dsimp only [Option.toList, List.cons_append, List.nil_append]
    refine e_ifeqP (tgt := 65) dX10_set_18 (by decide) (fun c18 => ?_) (fun c18 => ?_)
    · exact absurd c18 (by omega)
    · refine e_iload_n rfl dX10_set_21 ?_
      refine e_i2l (by first | assumption | (unfold inI at *; omega)) dX10_set_22 ?_
      refine e_iload_n rfl dX10_set_23 ?_
      refine e_iconst dX10_set_24 ?_
      refine e_icmp_ne (tgt := 34) dX10_set_25 (by decide) (by first | assumption | (unfold inI at *; omega)) (by first | assumption | (unfold inI at *; omega)) (fun c25 => ?_) (fun c25 => ?_)
      · refine e_lconst (z := 0) (by decide) dX10_set_34 ?_
        refine e_iload_n rfl dX10_set_35 ?_
        refine e_if_ne (tgt := 45) dX10_set_36 (by decide) (by first | assumption | (unfold inI at *; omega)) (fun c36 => ?_) (fun c36 => ?_)
        · exact absurd c36 (by omega)
        · refine e_ldc2 (z := 99) kcX10_93 (by decide) dX10_set_39 ?_
          refine e_goto (tgt := 59) dX10_set_42 (by decide) ?_
          refine eS3 mtX10_in msX10_in lkX10_64 dX10_set_59 rfl rfl (j_in (by first | assumption | exact inL_of (by assumption) | (unfold inL; omega) | (unfold inI at *; unfold inL; omega)) (by first | assumption | exact inL_of (by assumption) | (unfold inL; omega) | (unfold inI at *; unfold inL; omega)) (by first | assumption | exact inL_of (by assumption) | (unfold inL; omega) | (unfold inI at *; unfold inL; omega))) ?_
          dsimp only [Option.toList, List.cons_append, List.nil_append]
          refine e_ifneP (tgt := 68) dX10_set_62 (by decide) (fun c62 => ?_) (fun c62 => ?_)
          · refine e_iload_n rfl dX10_set_68 ?_
            refine e_if_ne (tgt := 81) dX10_set_69 (by decide) (by first | assumption | (unfold inI at *; omega)) (fun c69 => ?_) (fun c69 => ?_)
            · exact absurd c69 (by omega)
            · refine e_aload_n rfl dX10_set_72 ?_
              refine e_getf fdX10_13 dX10_set_73 kmh_97 rfl ?_
              refine e_iload_n rfl dX10_set_76 ?_
              refine e_mld (by first | exact ka98 | exact ka99 | exact ka100 | exact ka101 | exact ka102 | exact ka103 | exact ka104 | exact ka105 | exact ka106 | exact ka107 | exact ka108 | exact ka109 | exact ka110 | exact ka111 | exact ka112 | exact ka113) dX10_set_77 (by omega) (by omega) ?_
              rw [(md_e md (by omega)).1]
              refine e_goto (tgt := 101) dX10_set_78 (by decide) ?_
              refine e_istore dX10_set_101 rfl rfl ?_
              dsimp only [List.set]
              refine e_iload_n rfl dX10_set_103 ?_
              refine e_if_ne (tgt := 117) dX10_set_104 (by decide) (by first | assumption | (unfold inI at *; omega)) (fun c104 => ?_) (fun c104 => ?_)
              · exact absurd c104 (by omega)
              · refine e_aload_n rfl dX10_set_107 ?_
                refine e_getf fdX10_13 dX10_set_108 kmh_97 rfl ?_
                refine e_iload_n rfl dX10_set_111 ?_
                refine e_iload_n rfl dX10_set_112 ?_
                refine e_mst (by first | exact ka98 | exact ka99 | exact ka100 | exact ka101 | exact ka102 | exact ka103 | exact ka104 | exact ka105 | exact ka106 | exact ka107 | exact ka108 | exact ka109 | exact ka110 | exact ka111 | exact ka112 | exact ka113) dX10_set_113 (by omega) (by omega) ?_
                refine e_goto (tgt := 139) dX10_set_114 (by decide) ?_
                refine e_iload rfl dX10_set_139 ?_
                refine e_ireturn dX10_set_141 rfl rfl ?_
                have e9 : s_set Z b x v = (kSE (cN Z) b.toNat (up (hE (cN Z) b.toNat) x.toNat v), Z.2) := if_pos ⟨by omega, by omega, by omega⟩
                rw [e9]
                refine ⟨?_, rfl, q, _, rfl, rMD_E (E' := up2 (hE (cN Z)) b.toNat (up (hE (cN Z) b.toNat) x.toNat v)) md (fun j h1 => up2_n (by omega)) (fun b9 h1 => ?_)⟩
                · unfold a_set
                  rw [if_neg (by omega), if_pos ⟨by omega, by omega⟩, show x.toNat = 0 by omega]
                · have q9 := k_set9 (F := F) (E := hE (cN Z)) (b := b.toNat) (k := 0) (v := v) (md.1.2.1 b9 h1) (by omega)
                  rw [show x.toNat = 0 by omega]
                  exact q9
          · refine e_bipush (by decide) dX10_set_65 ?_
            refine e_ireturn dX10_set_67 rfl rfl ?_
            rw [s_setN (by omega)]
            exact kQm_0 (by unfold a_set; try rw [l9.1, l9.2]; (repeat' split) <;> first | rfl | (exfalso; omega)) md
      · exact absurd c25 (by omega)
  · refine e_iconst dX10_set_7 ?_
    refine e_ireturn dX10_set_8 rfl rfl ?_
    rw [s_setN (by omega)]
    exact kQm_0 (by unfold a_set; try rw [l9.1, l9.2]; (repeat' split) <;> first | rfl | (exfalso; omega)) md
set_option maxHeartbeats 4000000 in
set_option maxRecDepth 100000 in
theorem j_set1 {G : kG} {d : Nat} {h : Nat → Option kC} {n : Nat} {q : Nat → Int} {F : Nat → Nat → Int} {Z : kCs} (md : rMD q F Z) (ok : kCok Z) {b x v : Int} (hb : inI b) (hv : inI v) (cx : x = 1) : kCall G mX10_set (d + 4) 0 0 [.ref (gB G + 97), .int (jI b), .int (jI x), .int (jI v)] (kmh G h q F) n (kQm G h n (.int (jI (a_set Z b x v))) (s_set Z b x v)) := by
  show kE G mX10_set (d + 4) 0 0 0 [some (.ref (gB G + 97)), some (.int (jI b)), some (.int (jI x)), some (.int (jI v)), none] [] (kmh G h q F) n _
  have l9 : kLE x.toNat = 14 ∧ kME x.toNat = 40 := by subst cx; decide
  refine e_iload_n rfl dX10_set_0 ?_
  refine eS1 mtX10_isBook msX10_isBook lkX10_76 dX10_set_1 rfl rfl (j_isBook (by first | assumption | (unfold inI at *; omega))) ?_
  dsimp only [Option.toList, List.cons_append, List.nil_append]
  refine e_ifneP (tgt := 9) dX10_set_4 (by decide) (fun c4 => ?_) (fun c4 => ?_)
  · refine e_iload_n rfl dX10_set_9 ?_
    refine e_i2l (by first | assumption | (unfold inI at *; omega)) dX10_set_10 ?_
    refine e_lconst (z := 0) (by decide) dX10_set_11 ?_
    refine e_ldc2 (z := 2) kcX10_89 (by decide) dX10_set_12 ?_
    refine eS3 mtX10_in msX10_in lkX10_64 dX10_set_15 rfl rfl (j_in (by first | assumption | exact inL_of (by assumption) | (unfold inL; omega) | (unfold inI at *; unfold inL; omega)) (by first | assumption | exact inL_of (by assumption) | (unfold inL; omega) | (unfold inI at *; unfold inL; omega)) (by first | assumption | exact inL_of (by assumption) | (unfold inL; omega) | (unfold inI at *; unfold inL; omega))) ?_
    dsimp only [Option.toList, List.cons_append, List.nil_append]
    refine e_ifeqP (tgt := 65) dX10_set_18 (by decide) (fun c18 => ?_) (fun c18 => ?_)
    · exact absurd c18 (by omega)
    · refine e_iload_n rfl dX10_set_21 ?_
      refine e_i2l (by first | assumption | (unfold inI at *; omega)) dX10_set_22 ?_
      refine e_iload_n rfl dX10_set_23 ?_
      refine e_iconst dX10_set_24 ?_
      refine e_icmp_ne (tgt := 34) dX10_set_25 (by decide) (by first | assumption | (unfold inI at *; omega)) (by first | assumption | (unfold inI at *; omega)) (fun c25 => ?_) (fun c25 => ?_)
      · exact absurd c25 (by omega)
      · refine e_ldc2 (z := 14) kcX10_91 (by decide) dX10_set_28 ?_
        refine e_goto (tgt := 35) dX10_set_31 (by decide) ?_
        refine e_iload_n rfl dX10_set_35 ?_
        refine e_if_ne (tgt := 45) dX10_set_36 (by decide) (by first | assumption | (unfold inI at *; omega)) (fun c36 => ?_) (fun c36 => ?_)
        · refine e_iload_n rfl dX10_set_45 ?_
          refine e_iconst dX10_set_46 ?_
          refine e_icmp_ne (tgt := 56) dX10_set_47 (by decide) (by first | assumption | (unfold inI at *; omega)) (by first | assumption | (unfold inI at *; omega)) (fun c47 => ?_) (fun c47 => ?_)
          · exact absurd c47 (by omega)
          · refine e_ldc2 (z := 40) kcX10_95 (by decide) dX10_set_50 ?_
            refine e_goto (tgt := 59) dX10_set_53 (by decide) ?_
            refine eS3 mtX10_in msX10_in lkX10_64 dX10_set_59 rfl rfl (j_in (by first | assumption | exact inL_of (by assumption) | (unfold inL; omega) | (unfold inI at *; unfold inL; omega)) (by first | assumption | exact inL_of (by assumption) | (unfold inL; omega) | (unfold inI at *; unfold inL; omega)) (by first | assumption | exact inL_of (by assumption) | (unfold inL; omega) | (unfold inI at *; unfold inL; omega))) ?_
            dsimp only [Option.toList, List.cons_append, List.nil_append]
            refine e_ifneP (tgt := 68) dX10_set_62 (by decide) (fun c62 => ?_) (fun c62 => ?_)
            · refine e_iload_n rfl dX10_set_68 ?_
              refine e_if_ne (tgt := 81) dX10_set_69 (by decide) (by first | assumption | (unfold inI at *; omega)) (fun c69 => ?_) (fun c69 => ?_)
              · refine e_iload_n rfl dX10_set_81 ?_
                refine e_iconst dX10_set_82 ?_
                refine e_icmp_ne (tgt := 95) dX10_set_83 (by decide) (by first | assumption | (unfold inI at *; omega)) (by first | assumption | (unfold inI at *; omega)) (fun c83 => ?_) (fun c83 => ?_)
                · exact absurd c83 (by omega)
                · refine e_aload_n rfl dX10_set_86 ?_
                  refine e_getf fdX10_16 dX10_set_87 kmh_97 rfl ?_
                  refine e_iload_n rfl dX10_set_90 ?_
                  refine e_mld (by first | exact ka98 | exact ka99 | exact ka100 | exact ka101 | exact ka102 | exact ka103 | exact ka104 | exact ka105 | exact ka106 | exact ka107 | exact ka108 | exact ka109 | exact ka110 | exact ka111 | exact ka112 | exact ka113) dX10_set_91 (by omega) (by omega) ?_
                  rw [(md_e md (by omega)).2.1]
                  refine e_goto (tgt := 101) dX10_set_92 (by decide) ?_
                  refine e_istore dX10_set_101 rfl rfl ?_
                  dsimp only [List.set]
                  refine e_iload_n rfl dX10_set_103 ?_
                  refine e_if_ne (tgt := 117) dX10_set_104 (by decide) (by first | assumption | (unfold inI at *; omega)) (fun c104 => ?_) (fun c104 => ?_)
                  · refine e_iload_n rfl dX10_set_117 ?_
                    refine e_iconst dX10_set_118 ?_
                    refine e_icmp_ne (tgt := 132) dX10_set_119 (by decide) (by first | assumption | (unfold inI at *; omega)) (by first | assumption | (unfold inI at *; omega)) (fun c119 => ?_) (fun c119 => ?_)
                    · exact absurd c119 (by omega)
                    · refine e_aload_n rfl dX10_set_122 ?_
                      refine e_getf fdX10_16 dX10_set_123 kmh_97 rfl ?_
                      refine e_iload_n rfl dX10_set_126 ?_
                      refine e_iload_n rfl dX10_set_127 ?_
                      refine e_mst (by first | exact ka98 | exact ka99 | exact ka100 | exact ka101 | exact ka102 | exact ka103 | exact ka104 | exact ka105 | exact ka106 | exact ka107 | exact ka108 | exact ka109 | exact ka110 | exact ka111 | exact ka112 | exact ka113) dX10_set_128 (by omega) (by omega) ?_
                      refine e_goto (tgt := 139) dX10_set_129 (by decide) ?_
                      refine e_iload rfl dX10_set_139 ?_
                      refine e_ireturn dX10_set_141 rfl rfl ?_
                      have e9 : s_set Z b x v = (kSE (cN Z) b.toNat (up (hE (cN Z) b.toNat) x.toNat v), Z.2) := if_pos ⟨by omega, by omega, by omega⟩
                      rw [e9]
                      refine ⟨?_, rfl, q, _, rfl, rMD_E (E' := up2 (hE (cN Z)) b.toNat (up (hE (cN Z) b.toNat) x.toNat v)) md (fun j h1 => up2_n (by omega)) (fun b9 h1 => ?_)⟩
                      · unfold a_set
                        rw [if_neg (by omega), if_pos ⟨by omega, by omega⟩, show x.toNat = 1 by omega]
                      · have q9 := k_set9 (F := F) (E := hE (cN Z)) (b := b.toNat) (k := 1) (v := v) (md.1.2.1 b9 h1) (by omega)
                        rw [show x.toNat = 1 by omega]
                        exact q9
                  · exact absurd c104 (by omega)
              · exact absurd c69 (by omega)
            · refine e_bipush (by decide) dX10_set_65 ?_
              refine e_ireturn dX10_set_67 rfl rfl ?_
              rw [s_setN (by omega)]
              exact kQm_0 (by unfold a_set; try rw [l9.1, l9.2]; (repeat' split) <;> first | rfl | (exfalso; omega)) md
        · exact absurd c36 (by omega)
  · refine e_iconst dX10_set_7 ?_
    refine e_ireturn dX10_set_8 rfl rfl ?_
    rw [s_setN (by omega)]
    exact kQm_0 (by unfold a_set; try rw [l9.1, l9.2]; (repeat' split) <;> first | rfl | (exfalso; omega)) md
set_option maxHeartbeats 4000000 in
set_option maxRecDepth 100000 in
theorem j_set2 {G : kG} {d : Nat} {h : Nat → Option kC} {n : Nat} {q : Nat → Int} {F : Nat → Nat → Int} {Z : kCs} (md : rMD q F Z) (ok : kCok Z) {b x v : Int} (hb : inI b) (hv : inI v) (cx : x = 2) : kCall G mX10_set (d + 4) 0 0 [.ref (gB G + 97), .int (jI b), .int (jI x), .int (jI v)] (kmh G h q F) n (kQm G h n (.int (jI (a_set Z b x v))) (s_set Z b x v)) := by
  show kE G mX10_set (d + 4) 0 0 0 [some (.ref (gB G + 97)), some (.int (jI b)), some (.int (jI x)), some (.int (jI v)), none] [] (kmh G h q F) n _
  have l9 : kLE x.toNat = 0 ∧ kME x.toNat = 2 := by subst cx; decide
  refine e_iload_n rfl dX10_set_0 ?_
  refine eS1 mtX10_isBook msX10_isBook lkX10_76 dX10_set_1 rfl rfl (j_isBook (by first | assumption | (unfold inI at *; omega))) ?_
  dsimp only [Option.toList, List.cons_append, List.nil_append]
  refine e_ifneP (tgt := 9) dX10_set_4 (by decide) (fun c4 => ?_) (fun c4 => ?_)
  · refine e_iload_n rfl dX10_set_9 ?_
    refine e_i2l (by first | assumption | (unfold inI at *; omega)) dX10_set_10 ?_
    refine e_lconst (z := 0) (by decide) dX10_set_11 ?_
    refine e_ldc2 (z := 2) kcX10_89 (by decide) dX10_set_12 ?_
    refine eS3 mtX10_in msX10_in lkX10_64 dX10_set_15 rfl rfl (j_in (by first | assumption | exact inL_of (by assumption) | (unfold inL; omega) | (unfold inI at *; unfold inL; omega)) (by first | assumption | exact inL_of (by assumption) | (unfold inL; omega) | (unfold inI at *; unfold inL; omega)) (by first | assumption | exact inL_of (by assumption) | (unfold inL; omega) | (unfold inI at *; unfold inL; omega))) ?_
    dsimp only [Option.toList, List.cons_append, List.nil_append]
    refine e_ifeqP (tgt := 65) dX10_set_18 (by decide) (fun c18 => ?_) (fun c18 => ?_)
    · exact absurd c18 (by omega)
    · refine e_iload_n rfl dX10_set_21 ?_
      refine e_i2l (by first | assumption | (unfold inI at *; omega)) dX10_set_22 ?_
      refine e_iload_n rfl dX10_set_23 ?_
      refine e_iconst dX10_set_24 ?_
      refine e_icmp_ne (tgt := 34) dX10_set_25 (by decide) (by first | assumption | (unfold inI at *; omega)) (by first | assumption | (unfold inI at *; omega)) (fun c25 => ?_) (fun c25 => ?_)
      · refine e_lconst (z := 0) (by decide) dX10_set_34 ?_
        refine e_iload_n rfl dX10_set_35 ?_
        refine e_if_ne (tgt := 45) dX10_set_36 (by decide) (by first | assumption | (unfold inI at *; omega)) (fun c36 => ?_) (fun c36 => ?_)
        · refine e_iload_n rfl dX10_set_45 ?_
          refine e_iconst dX10_set_46 ?_
          refine e_icmp_ne (tgt := 56) dX10_set_47 (by decide) (by first | assumption | (unfold inI at *; omega)) (by first | assumption | (unfold inI at *; omega)) (fun c47 => ?_) (fun c47 => ?_)
          · refine e_ldc2 (z := 2) kcX10_89 (by decide) dX10_set_56 ?_
            refine eS3 mtX10_in msX10_in lkX10_64 dX10_set_59 rfl rfl (j_in (by first | assumption | exact inL_of (by assumption) | (unfold inL; omega) | (unfold inI at *; unfold inL; omega)) (by first | assumption | exact inL_of (by assumption) | (unfold inL; omega) | (unfold inI at *; unfold inL; omega)) (by first | assumption | exact inL_of (by assumption) | (unfold inL; omega) | (unfold inI at *; unfold inL; omega))) ?_
            dsimp only [Option.toList, List.cons_append, List.nil_append]
            refine e_ifneP (tgt := 68) dX10_set_62 (by decide) (fun c62 => ?_) (fun c62 => ?_)
            · refine e_iload_n rfl dX10_set_68 ?_
              refine e_if_ne (tgt := 81) dX10_set_69 (by decide) (by first | assumption | (unfold inI at *; omega)) (fun c69 => ?_) (fun c69 => ?_)
              · refine e_iload_n rfl dX10_set_81 ?_
                refine e_iconst dX10_set_82 ?_
                refine e_icmp_ne (tgt := 95) dX10_set_83 (by decide) (by first | assumption | (unfold inI at *; omega)) (by first | assumption | (unfold inI at *; omega)) (fun c83 => ?_) (fun c83 => ?_)
                · refine e_aload_n rfl dX10_set_95 ?_
                  refine e_getf fdX10_19 dX10_set_96 kmh_97 rfl ?_
                  refine e_iload_n rfl dX10_set_99 ?_
                  refine e_mld (by first | exact ka98 | exact ka99 | exact ka100 | exact ka101 | exact ka102 | exact ka103 | exact ka104 | exact ka105 | exact ka106 | exact ka107 | exact ka108 | exact ka109 | exact ka110 | exact ka111 | exact ka112 | exact ka113) dX10_set_100 (by omega) (by omega) ?_
                  rw [(md_e md (by omega)).2.2]
                  refine e_istore dX10_set_101 rfl rfl ?_
                  dsimp only [List.set]
                  refine e_iload_n rfl dX10_set_103 ?_
                  refine e_if_ne (tgt := 117) dX10_set_104 (by decide) (by first | assumption | (unfold inI at *; omega)) (fun c104 => ?_) (fun c104 => ?_)
                  · refine e_iload_n rfl dX10_set_117 ?_
                    refine e_iconst dX10_set_118 ?_
                    refine e_icmp_ne (tgt := 132) dX10_set_119 (by decide) (by first | assumption | (unfold inI at *; omega)) (by first | assumption | (unfold inI at *; omega)) (fun c119 => ?_) (fun c119 => ?_)
                    · refine e_aload_n rfl dX10_set_132 ?_
                      refine e_getf fdX10_19 dX10_set_133 kmh_97 rfl ?_
                      refine e_iload_n rfl dX10_set_136 ?_
                      refine e_iload_n rfl dX10_set_137 ?_
                      refine e_mst (by first | exact ka98 | exact ka99 | exact ka100 | exact ka101 | exact ka102 | exact ka103 | exact ka104 | exact ka105 | exact ka106 | exact ka107 | exact ka108 | exact ka109 | exact ka110 | exact ka111 | exact ka112 | exact ka113) dX10_set_138 (by omega) (by omega) ?_
                      refine e_iload rfl dX10_set_139 ?_
                      refine e_ireturn dX10_set_141 rfl rfl ?_
                      have e9 : s_set Z b x v = (kSE (cN Z) b.toNat (up (hE (cN Z) b.toNat) x.toNat v), Z.2) := if_pos ⟨by omega, by omega, by omega⟩
                      rw [e9]
                      refine ⟨?_, rfl, q, _, rfl, rMD_E (E' := up2 (hE (cN Z)) b.toNat (up (hE (cN Z) b.toNat) x.toNat v)) md (fun j h1 => up2_n (by omega)) (fun b9 h1 => ?_)⟩
                      · unfold a_set
                        rw [if_neg (by omega), if_pos ⟨by omega, by omega⟩, show x.toNat = 2 by omega]
                      · have q9 := k_set9 (F := F) (E := hE (cN Z)) (b := b.toNat) (k := 2) (v := v) (md.1.2.1 b9 h1) (by omega)
                        rw [show x.toNat = 2 by omega]
                        exact q9
                    · exact absurd c119 (by omega)
                  · exact absurd c104 (by omega)
                · exact absurd c83 (by omega)
              · exact absurd c69 (by omega)
            · refine e_bipush (by decide) dX10_set_65 ?_
              refine e_ireturn dX10_set_67 rfl rfl ?_
              rw [s_setN (by omega)]
              exact kQm_0 (by unfold a_set; try rw [l9.1, l9.2]; (repeat' split) <;> first | rfl | (exfalso; omega)) md
          · exact absurd c47 (by omega)
        · exact absurd c36 (by omega)
      · exact absurd c25 (by omega)
  · refine e_iconst dX10_set_7 ?_
    refine e_ireturn dX10_set_8 rfl rfl ?_
    rw [s_setN (by omega)]
    exact kQm_0 (by unfold a_set; try rw [l9.1, l9.2]; (repeat' split) <;> first | rfl | (exfalso; omega)) md
set_option maxHeartbeats 4000000 in
set_option maxRecDepth 100000 in
theorem j_setN {G : kG} {d : Nat} {h : Nat → Option kC} {n : Nat} {q : Nat → Int} {F : Nat → Nat → Int} {Z : kCs} (md : rMD q F Z) (ok : kCok Z) {b x v : Int} (hb : inI b) (hx : inI x) (cx : ¬ (0 ≤ x ∧ x ≤ 2)) : kCall G mX10_set (d + 4) 0 0 [.ref (gB G + 97), .int (jI b), .int (jI x), .int (jI v)] (kmh G h q F) n (kQm G h n (.int (jI (a_set Z b x v))) (s_set Z b x v)) := by
  show kE G mX10_set (d + 4) 0 0 0 [some (.ref (gB G + 97)), some (.int (jI b)), some (.int (jI x)), some (.int (jI v)), none] [] (kmh G h q F) n _
  refine e_iload_n rfl dX10_set_0 ?_
  refine eS1 mtX10_isBook msX10_isBook lkX10_76 dX10_set_1 rfl rfl (j_isBook (by first | assumption | (unfold inI at *; omega))) ?_
  dsimp only [Option.toList, List.cons_append, List.nil_append]
  refine e_ifneP (tgt := 9) dX10_set_4 (by decide) (fun c4 => ?_) (fun c4 => ?_)
  · refine e_iload_n rfl dX10_set_9 ?_
    refine e_i2l (by first | assumption | (unfold inI at *; omega)) dX10_set_10 ?_
    refine e_lconst (z := 0) (by decide) dX10_set_11 ?_
    refine e_ldc2 (z := 2) kcX10_89 (by decide) dX10_set_12 ?_
    refine eS3 mtX10_in msX10_in lkX10_64 dX10_set_15 rfl rfl (j_in (by first | assumption | exact inL_of (by assumption) | (unfold inL; omega) | (unfold inI at *; unfold inL; omega)) (by first | assumption | exact inL_of (by assumption) | (unfold inL; omega) | (unfold inI at *; unfold inL; omega)) (by first | assumption | exact inL_of (by assumption) | (unfold inL; omega) | (unfold inI at *; unfold inL; omega))) ?_
    dsimp only [Option.toList, List.cons_append, List.nil_append]
    refine e_ifeqP (tgt := 65) dX10_set_18 (by decide) (fun c18 => ?_) (fun c18 => ?_)
    · refine e_bipush (by decide) dX10_set_65 ?_
      refine e_ireturn dX10_set_67 rfl rfl ?_
      rw [s_setN (by omega)]
      exact kQm_0 (by unfold a_set; first | (rw [if_pos (by omega)]; done) | (rw [if_neg (by omega), if_neg (by omega)]; done)) md
    · exact absurd c18 (by omega)
  · refine e_iconst dX10_set_7 ?_
    refine e_ireturn dX10_set_8 rfl rfl ?_
    rw [s_setN (by omega)]
    exact kQm_0 (by unfold a_set; first | (rw [if_pos (by omega)]; done) | (rw [if_neg (by omega), if_neg (by omega)]; done)) md
theorem j_set {G : kG} {d : Nat} {h : Nat → Option kC} {n : Nat} {q : Nat → Int} {F : Nat → Nat → Int} {Z : kCs} (md : rMD q F Z) (ok : kCok Z) {b x v : Int} (hb : inI b) (hx : inI x) (hv : inI v) : kCall G mX10_set (d + 4) 0 0 [.ref (gB G + 97), .int (jI b), .int (jI x), .int (jI v)] (kmh G h q F) n (kQm G h n (.int (jI (a_set Z b x v))) (s_set Z b x v)) := by
  rcases (show x = 0 ∨ x = 1 ∨ x = 2 ∨ ¬ (0 ≤ x ∧ x ≤ 2) by omega) with c | c | c | c
  · exact j_set0 md ok hb hv c
  · exact j_set1 md ok hb hv c
  · exact j_set2 md ok hb hv c
  · exact j_setN md ok hb hx c
set_option maxHeartbeats 4000000 in
set_option maxRecDepth 100000 in
theorem j_way {G : kG} {d : Nat} {h : Nat → Option kC} {n : Nat} {q : Nat → Int} {F : Nat → Nat → Int} {Z : kCs} (md : rMD q F Z) (ok : kCok Z)  {x : Int} (hx : inI x) {v : Int} (hv : inI v) : kCall G mX10_way (d + 4) 0 0 [.ref (gB G + 97), .int (jI x), .int (jI v)] (kmh G h q F) n (kQm G h n (.int (jI (a_way Z x v))) (s_way Z x v)) := by
  show kE G mX10_way (d + 4) 0 0 0 [some (.ref (gB G + 97)), some (.int (jI x)), some (.int (jI v)), none] [] (kmh G h q F) n _
  have l9 : (x < 2 ∧ kMW x.toNat = 9) ∨ (x = 2 ∧ kMW x.toNat = 4) ∨ (2 < x ∧ kMW x.toNat = 10) := by unfold kMW; (repeat' split) <;> omega
  refine e_iload_n rfl dX10_way_0 ?_
  refine e_i2l (by first | assumption | (unfold inI at *; omega)) dX10_way_1 ?_
  refine e_lconst (z := 0) (by decide) dX10_way_2 ?_
  refine e_ldc2 (z := 4) kcX10_97 (by decide) dX10_way_3 ?_
  refine eS3 mtX10_in msX10_in lkX10_64 dX10_way_6 rfl rfl (j_in (by first | assumption | exact inL_of (by assumption) | (unfold inL; omega) | (unfold inI at *; unfold inL; omega)) (by first | assumption | exact inL_of (by assumption) | (unfold inL; omega) | (unfold inI at *; unfold inL; omega)) (by first | assumption | exact inL_of (by assumption) | (unfold inL; omega) | (unfold inI at *; unfold inL; omega))) ?_
  dsimp only [Option.toList, List.cons_append, List.nil_append]
  refine e_ifeqP (tgt := 46) dX10_way_9 (by decide) (fun c9 => ?_) (fun c9 => ?_)
  · refine e_bipush (by decide) dX10_way_46 ?_
    refine e_ireturn dX10_way_48 rfl rfl ?_
    rw [s_wayN (by omega)]
    exact kQm_0 (by unfold a_way; rw [if_neg (by omega)]) md
  · refine e_iload_n rfl dX10_way_12 ?_
    refine e_i2l (by first | assumption | (unfold inI at *; omega)) dX10_way_13 ?_
    refine e_lconst (z := 0) (by decide) dX10_way_14 ?_
    refine e_iload_n rfl dX10_way_15 ?_
    refine e_iconst dX10_way_16 ?_
    refine e_icmp_ge (tgt := 26) dX10_way_17 (by decide) (by first | assumption | (unfold inI at *; omega)) (by first | assumption | (unfold inI at *; omega)) (fun c17 => ?_) (fun c17 => ?_)
    · refine e_iload_n rfl dX10_way_26 ?_
      refine e_iconst dX10_way_27 ?_
      refine e_icmp_ne (tgt := 37) dX10_way_28 (by decide) (by first | assumption | (unfold inI at *; omega)) (by first | assumption | (unfold inI at *; omega)) (fun c28 => ?_) (fun c28 => ?_)
      · refine e_ldc2 (z := 10) kcX10_101 (by decide) dX10_way_37 ?_
        refine eS3 mtX10_in msX10_in lkX10_64 dX10_way_40 rfl rfl (j_in (by first | assumption | exact inL_of (by assumption) | (unfold inL; omega) | (unfold inI at *; unfold inL; omega)) (by first | assumption | exact inL_of (by assumption) | (unfold inL; omega) | (unfold inI at *; unfold inL; omega)) (by first | assumption | exact inL_of (by assumption) | (unfold inL; omega) | (unfold inI at *; unfold inL; omega))) ?_
        dsimp only [Option.toList, List.cons_append, List.nil_append]
        refine e_ifneP (tgt := 49) dX10_way_43 (by decide) (fun c43 => ?_) (fun c43 => ?_)
        · refine e_aload_n rfl dX10_way_49 ?_
          refine e_getf fdX10_22 dX10_way_50 kmh_97 rfl ?_
          refine e_iload_n rfl dX10_way_53 ?_
          refine e_mld (by first | exact ka98 | exact ka99 | exact ka100 | exact ka101 | exact ka102 | exact ka103 | exact ka104 | exact ka105 | exact ka106 | exact ka107 | exact ka108 | exact ka109 | exact ka110 | exact ka111 | exact ka112 | exact ka113) dX10_way_54 (by omega) (by omega) ?_
          rw [md_w md (by omega)]
          refine e_istore_n dX10_way_55 rfl rfl ?_
          dsimp only [List.set]
          refine e_aload_n rfl dX10_way_56 ?_
          refine e_getf fdX10_22 dX10_way_57 kmh_97 rfl ?_
          refine e_iload_n rfl dX10_way_60 ?_
          refine e_iload_n rfl dX10_way_61 ?_
          refine e_mst (by first | exact ka98 | exact ka99 | exact ka100 | exact ka101 | exact ka102 | exact ka103 | exact ka104 | exact ka105 | exact ka106 | exact ka107 | exact ka108 | exact ka109 | exact ka110 | exact ka111 | exact ka112 | exact ka113) dX10_way_62 (by omega) (by omega) ?_
          refine e_iload_n rfl dX10_way_63 ?_
          refine e_ireturn dX10_way_64 rfl rfl ?_
          have e9 : s_way Z x v = (kSW (cN Z) (up (hW (cN Z)) x.toNat v), Z.2) := if_pos ⟨by omega, by omega⟩
          rw [e9]
          refine ⟨by unfold a_way; rw [if_pos ⟨by omega, by omega⟩], rfl, q, _, rfl, rMD_W md (fun k hk => ?_)⟩
          have m9 := md.1.2.2.1 k hk
          unfold up
          split
          · rfl
          · exact m9
        · refine e_bipush (by decide) dX10_way_46 ?_
          refine e_ireturn dX10_way_48 rfl rfl ?_
          rw [s_wayN (by omega)]
          exact kQm_0 (by unfold a_way; rw [if_neg (by omega)]) md
      · refine e_ldc2 (z := 4) kcX10_97 (by decide) dX10_way_31 ?_
        refine e_goto (tgt := 40) dX10_way_34 (by decide) ?_
        refine eS3 mtX10_in msX10_in lkX10_64 dX10_way_40 rfl rfl (j_in (by first | assumption | exact inL_of (by assumption) | (unfold inL; omega) | (unfold inI at *; unfold inL; omega)) (by first | assumption | exact inL_of (by assumption) | (unfold inL; omega) | (unfold inI at *; unfold inL; omega)) (by first | assumption | exact inL_of (by assumption) | (unfold inL; omega) | (unfold inI at *; unfold inL; omega))) ?_
        dsimp only [Option.toList, List.cons_append, List.nil_append]
        refine e_ifneP (tgt := 49) dX10_way_43 (by decide) (fun c43 => ?_) (fun c43 => ?_)
        · refine e_aload_n rfl dX10_way_49 ?_
          refine e_getf fdX10_22 dX10_way_50 kmh_97 rfl ?_
          refine e_iload_n rfl dX10_way_53 ?_
          refine e_mld (by first | exact ka98 | exact ka99 | exact ka100 | exact ka101 | exact ka102 | exact ka103 | exact ka104 | exact ka105 | exact ka106 | exact ka107 | exact ka108 | exact ka109 | exact ka110 | exact ka111 | exact ka112 | exact ka113) dX10_way_54 (by omega) (by omega) ?_
          rw [md_w md (by omega)]
          refine e_istore_n dX10_way_55 rfl rfl ?_
          dsimp only [List.set]
          refine e_aload_n rfl dX10_way_56 ?_
          refine e_getf fdX10_22 dX10_way_57 kmh_97 rfl ?_
          refine e_iload_n rfl dX10_way_60 ?_
          refine e_iload_n rfl dX10_way_61 ?_
          refine e_mst (by first | exact ka98 | exact ka99 | exact ka100 | exact ka101 | exact ka102 | exact ka103 | exact ka104 | exact ka105 | exact ka106 | exact ka107 | exact ka108 | exact ka109 | exact ka110 | exact ka111 | exact ka112 | exact ka113) dX10_way_62 (by omega) (by omega) ?_
          refine e_iload_n rfl dX10_way_63 ?_
          refine e_ireturn dX10_way_64 rfl rfl ?_
          have e9 : s_way Z x v = (kSW (cN Z) (up (hW (cN Z)) x.toNat v), Z.2) := if_pos ⟨by omega, by omega⟩
          rw [e9]
          refine ⟨by unfold a_way; rw [if_pos ⟨by omega, by omega⟩], rfl, q, _, rfl, rMD_W md (fun k hk => ?_)⟩
          have m9 := md.1.2.2.1 k hk
          unfold up
          split
          · rfl
          · exact m9
        · refine e_bipush (by decide) dX10_way_46 ?_
          refine e_ireturn dX10_way_48 rfl rfl ?_
          rw [s_wayN (by omega)]
          exact kQm_0 (by unfold a_way; rw [if_neg (by omega)]) md
    · refine e_ldc2 (z := 9) kcX10_99 (by decide) dX10_way_20 ?_
      refine e_goto (tgt := 40) dX10_way_23 (by decide) ?_
      refine eS3 mtX10_in msX10_in lkX10_64 dX10_way_40 rfl rfl (j_in (by first | assumption | exact inL_of (by assumption) | (unfold inL; omega) | (unfold inI at *; unfold inL; omega)) (by first | assumption | exact inL_of (by assumption) | (unfold inL; omega) | (unfold inI at *; unfold inL; omega)) (by first | assumption | exact inL_of (by assumption) | (unfold inL; omega) | (unfold inI at *; unfold inL; omega))) ?_
      dsimp only [Option.toList, List.cons_append, List.nil_append]
      refine e_ifneP (tgt := 49) dX10_way_43 (by decide) (fun c43 => ?_) (fun c43 => ?_)
      · refine e_aload_n rfl dX10_way_49 ?_
        refine e_getf fdX10_22 dX10_way_50 kmh_97 rfl ?_
        refine e_iload_n rfl dX10_way_53 ?_
        refine e_mld (by first | exact ka98 | exact ka99 | exact ka100 | exact ka101 | exact ka102 | exact ka103 | exact ka104 | exact ka105 | exact ka106 | exact ka107 | exact ka108 | exact ka109 | exact ka110 | exact ka111 | exact ka112 | exact ka113) dX10_way_54 (by omega) (by omega) ?_
        rw [md_w md (by omega)]
        refine e_istore_n dX10_way_55 rfl rfl ?_
        dsimp only [List.set]
        refine e_aload_n rfl dX10_way_56 ?_
        refine e_getf fdX10_22 dX10_way_57 kmh_97 rfl ?_
        refine e_iload_n rfl dX10_way_60 ?_
        refine e_iload_n rfl dX10_way_61 ?_
        refine e_mst (by first | exact ka98 | exact ka99 | exact ka100 | exact ka101 | exact ka102 | exact ka103 | exact ka104 | exact ka105 | exact ka106 | exact ka107 | exact ka108 | exact ka109 | exact ka110 | exact ka111 | exact ka112 | exact ka113) dX10_way_62 (by omega) (by omega) ?_
        refine e_iload_n rfl dX10_way_63 ?_
        refine e_ireturn dX10_way_64 rfl rfl ?_
        have e9 : s_way Z x v = (kSW (cN Z) (up (hW (cN Z)) x.toNat v), Z.2) := if_pos ⟨by omega, by omega⟩
        rw [e9]
        refine ⟨by unfold a_way; rw [if_pos ⟨by omega, by omega⟩], rfl, q, _, rfl, rMD_W md (fun k hk => ?_)⟩
        have m9 := md.1.2.2.1 k hk
        unfold up
        split
        · rfl
        · exact m9
      · refine e_bipush (by decide) dX10_way_46 ?_
        refine e_ireturn dX10_way_48 rfl rfl ?_
        rw [s_wayN (by omega)]
        exact kQm_0 (by unfold a_way; rw [if_neg (by omega)]) md
set_option maxHeartbeats 4000000 in
set_option maxRecDepth 100000 in
theorem j_say {G : kG} {d : Nat} {h : Nat → Option kC} {n : Nat} {q : Nat → Int} {F : Nat → Nat → Int} {Z : kCs} (md : rMD q F Z) (ok : kCok Z)  {x : Int} (hx : inI x) : kCall G mX10_say (d + 4) 0 0 [.ref (gB G + 97), .int (jI x)] (kmh G h q F) n (kQm G h n (.int (jI (a_say Z x))) (s_say Z x)) := by
  show kE G mX10_say (d + 4) 0 0 0 [some (.ref (gB G + 97)), some (.int (jI x))] [] (kmh G h q F) n _
  have p9 := ok.2.1
  have p90 := p9.1
  have p91 := p9.2.1
  have m6 := md.2.1
  refine e_iload_n rfl dX10_say_0 ?_
  refine e_i2l (by first | assumption | (unfold inI at *; omega)) dX10_say_1 ?_
  refine e_ldc2 (z := 33) kcX10_103 (by decide) dX10_say_2 ?_
  refine e_ldc2 (z := 126) kcX10_105 (by decide) dX10_say_5 ?_
  refine eS3 mtX10_in msX10_in lkX10_64 dX10_say_8 rfl rfl (j_in (by first | assumption | exact inL_of (by assumption) | (unfold inL; omega) | (unfold inI at *; unfold inL; omega)) (by first | assumption | exact inL_of (by assumption) | (unfold inL; omega) | (unfold inI at *; unfold inL; omega)) (by first | assumption | exact inL_of (by assumption) | (unfold inL; omega) | (unfold inI at *; unfold inL; omega))) ?_
  dsimp only [Option.toList, List.cons_append, List.nil_append]
  refine e_ifneP (tgt := 17) dX10_say_11 (by decide) (fun c11 => ?_) (fun c11 => ?_)
  · refine e_aload_n rfl dX10_say_17 ?_
    refine e_getf fdX10_107 dX10_say_18 kmh_97 rfl ?_
    rw [m6]
    refine e_bipush (by decide) dX10_say_21 ?_
    refine e_icmp_ne (tgt := 29) dX10_say_23 (by decide) (by have := p9.1; have := p9.2.1; unfold inI; omega) (by first | assumption | (unfold inI at *; omega)) (fun c23 => ?_) (fun c23 => ?_)
    · refine e_aload_n rfl dX10_say_29 ?_
      refine e_getf fdX10_25 dX10_say_30 kmh_97 rfl ?_
      refine e_aload_n rfl dX10_say_33 ?_
      refine e_getf fdX10_107 dX10_say_34 kmh_97 rfl ?_
      rw [m6]
      refine e_iload_n rfl dX10_say_37 ?_
      refine e_mst (by first | exact ka98 | exact ka99 | exact ka100 | exact ka101 | exact ka102 | exact ka103 | exact ka104 | exact ka105 | exact ka106 | exact ka107 | exact ka108 | exact ka109 | exact ka110 | exact ka111 | exact ka112 | exact ka113) dX10_say_38 (by omega) (by omega) ?_
      refine e_aload_n rfl dX10_say_39 ?_
      refine e_dup rfl dX10_say_40 ?_
      refine e_getf fdX10_107 dX10_say_41 kmh_97 rfl ?_
      rw [m6]
      refine e_iconst dX10_say_44 ?_
      refine e_iadd dX10_say_45 ?_
      refine e_mput pfX10_107 dX10_say_46 kml_6 rfl rfl rfl ?_
      refine e_aload_n rfl dX10_say_49 ?_
      refine e_getf fdX10_107 dX10_say_50 kmh_97 rfl ?_
      refine e_ireturn dX10_say_53 rfl rfl ?_
      have e9 : s_say Z x = (cN Z, ((cP Z).1 + 1, up (cP Z).2 (cP Z).1.toNat x), Z.2.2) := if_pos ⟨by omega, by omega⟩
      rw [e9]
      refine ⟨by unfold a_say; rw [if_pos (by omega), if_pos (by omega)]; rfl, rfl, _, _, rfl, rMD_P (p := ((cP Z).1 + 1, up (cP Z).2 (cP Z).1.toNat x)) md rfl rfl rfl rfl (fun j hj => ?_)⟩
      have m9 := md.2.2.1 j hj
      show up (F 103) _ x j = up (cP Z).2 _ x j
      unfold up
      split
      · rfl
      · exact m9
    · refine e_bipush (by decide) dX10_say_26 ?_
      refine e_ireturn dX10_say_28 rfl rfl ?_
      have p8 := p9.2.1
      rw [s_sayN (by omega)]
      exact kQm_0 (by unfold a_say; first | (rw [if_neg (by omega)]; done) | (rw [if_pos (by omega), if_neg (by omega)]; done)) md
  · refine e_bipush (by decide) dX10_say_14 ?_
    refine e_ireturn dX10_say_16 rfl rfl ?_
    have p8 := p9.2.1
    rw [s_sayN (by omega)]
    exact kQm_0 (by unfold a_say; first | (rw [if_neg (by omega)]; done) | (rw [if_pos (by omega), if_neg (by omega)]; done)) md
set_option maxHeartbeats 4000000 in
set_option maxRecDepth 100000 in
theorem j_wipe {G : kG} {d : Nat} {h : Nat → Option kC} {n : Nat} {q : Nat → Int} {F : Nat → Nat → Int} {Z : kCs} (md : rMD q F Z) (ok : kCok Z)  : kCall G mX10_wipe (d + 4) 0 0 [.ref (gB G + 97)] (kmh G h q F) n (kQm G h n (.int (jI (a_wipe Z))) (s_wipe Z)) := by
  show kE G mX10_wipe (d + 4) 0 0 0 [some (.ref (gB G + 97)), none] [] (kmh G h q F) n _
  have m6 := md.2.1
  refine e_aload_n rfl dX10_wipe_0 ?_
  refine e_getf fdX10_107 dX10_wipe_1 kmh_97 rfl ?_
  rw [m6]
  refine e_istore_n dX10_wipe_4 rfl rfl ?_
  dsimp only [List.set]
  refine e_aload_n rfl dX10_wipe_5 ?_
  refine e_iconst dX10_wipe_6 ?_
  refine e_mput pfX10_107 dX10_wipe_7 kml_6 rfl rfl rfl ?_
  refine e_iload_n rfl dX10_wipe_10 ?_
  refine e_ireturn dX10_wipe_11 rfl rfl ?_
  exact ⟨rfl, rfl, _, _, rfl, rMD_p md rfl rfl rfl rfl⟩
set_option maxHeartbeats 4000000 in
set_option maxRecDepth 100000 in
theorem j_fault0 {G : kG} {d : Nat} {h : Nat → Option kC} {n : Nat} {q : Nat → Int} {F : Nat → Nat → Int} {Z : kCs} (md : rMD q F Z) (ok : kCok Z)  : kCall G mX10_fault (d + 4) 0 0 [.ref (gB G + 97), .int (jI 0)] (kmh G h q F) n (kQm G h n (.int (jI (a_fault Z 0))) (Z)) := by
  show kE G mX10_fault (d + 4) 0 0 0 [some (.ref (gB G + 97)), some (.int (jI 0))] [] (kmh G h q F) n _
  refine e_iload_n rfl dX10_fault_0 ?_
  refine eS1 mtX10_isEnd msX10_isEnd lkX10_124 dX10_fault_1 rfl rfl (j_isEnd (by first | assumption | (unfold inI at *; omega))) ?_
  dsimp only [Option.toList, List.cons_append, List.nil_append]
  refine e_ifeqP (tgt := 15) dX10_fault_4 (by decide) (fun c4 => ?_) (fun c4 => ?_)
  · exact absurd c4 (by omega)
  · refine e_aload_n rfl dX10_fault_7 ?_
    refine e_iload_n rfl dX10_fault_8 ?_
    refine eV1 mtX10_faultOf miX10_faultOf lkX10_127 dX10_fault_9 kmh_97 rfl rfl rfl (j_faultOf0 md.2.1 ⟨ok.2.1.1, ok.2.1.2.1⟩ md.2.2.1 ok.2.1.2.2) ?_
    dsimp only [Option.toList, List.cons_append, List.nil_append]
    refine e_goto (tgt := 17) dX10_fault_12 (by decide) ?_
    refine e_ireturn dX10_fault_17 rfl rfl ?_
    exact kQm_0 rfl md
set_option maxHeartbeats 4000000 in
set_option maxRecDepth 100000 in
theorem j_fault1 {G : kG} {d : Nat} {h : Nat → Option kC} {n : Nat} {q : Nat → Int} {F : Nat → Nat → Int} {Z : kCs} (md : rMD q F Z) (ok : kCok Z)  : kCall G mX10_fault (d + 4) 0 0 [.ref (gB G + 97), .int (jI 1)] (kmh G h q F) n (kQm G h n (.int (jI (a_fault Z 1))) (Z)) := by
  show kE G mX10_fault (d + 4) 0 0 0 [some (.ref (gB G + 97)), some (.int (jI 1))] [] (kmh G h q F) n _
  refine e_iload_n rfl dX10_fault_0 ?_
  refine eS1 mtX10_isEnd msX10_isEnd lkX10_124 dX10_fault_1 rfl rfl (j_isEnd (by first | assumption | (unfold inI at *; omega))) ?_
  dsimp only [Option.toList, List.cons_append, List.nil_append]
  refine e_ifeqP (tgt := 15) dX10_fault_4 (by decide) (fun c4 => ?_) (fun c4 => ?_)
  · exact absurd c4 (by omega)
  · refine e_aload_n rfl dX10_fault_7 ?_
    refine e_iload_n rfl dX10_fault_8 ?_
    refine eV1 mtX10_faultOf miX10_faultOf lkX10_127 dX10_fault_9 kmh_97 rfl rfl rfl (j_faultOf1 md.2.1 ⟨ok.2.1.1, ok.2.1.2.1⟩ md.2.2.1 ok.2.1.2.2) ?_
    dsimp only [Option.toList, List.cons_append, List.nil_append]
    refine e_goto (tgt := 17) dX10_fault_12 (by decide) ?_
    refine e_ireturn dX10_fault_17 rfl rfl ?_
    exact kQm_0 rfl md
set_option maxHeartbeats 4000000 in
set_option maxRecDepth 100000 in
theorem j_faultN {G : kG} {d : Nat} {h : Nat → Option kC} {n : Nat} {q : Nat → Int} {F : Nat → Nat → Int} {Z : kCs} (md : rMD q F Z) (ok : kCok Z) {x : Int} (hx : inI x) (cx : ¬ (0 ≤ x ∧ x ≤ 1)) : kCall G mX10_fault (d + 4) 0 0 [.ref (gB G + 97), .int (jI x)] (kmh G h q F) n (kQm G h n (.int (jI (a_fault Z x))) (Z)) := by
  show kE G mX10_fault (d + 4) 0 0 0 [some (.ref (gB G + 97)), some (.int (jI x))] [] (kmh G h q F) n _
  refine e_iload_n rfl dX10_fault_0 ?_
  refine eS1 mtX10_isEnd msX10_isEnd lkX10_124 dX10_fault_1 rfl rfl (j_isEnd (by first | assumption | (unfold inI at *; omega))) ?_
  dsimp only [Option.toList, List.cons_append, List.nil_append]
  refine e_ifeqP (tgt := 15) dX10_fault_4 (by decide) (fun c4 => ?_) (fun c4 => ?_)
  · refine e_bipush (by decide) dX10_fault_15 ?_
    refine e_ireturn dX10_fault_17 rfl rfl ?_
    exact kQm_0 (by unfold a_fault; rw [if_neg (by omega)]) md
  · exact absurd c4 (by omega)
theorem j_fault {G : kG} {d : Nat} {h : Nat → Option kC} {n : Nat} {q : Nat → Int} {F : Nat → Nat → Int} {Z : kCs} (md : rMD q F Z) (ok : kCok Z) {x : Int} (hx : inI x) : kCall G mX10_fault (d + 4) 0 0 [.ref (gB G + 97), .int (jI x)] (kmh G h q F) n (kQm G h n (.int (jI (a_fault Z x))) (Z)) := by
  rcases (show x = 0 ∨ x = 1 ∨ ¬ (0 ≤ x ∧ x ≤ 1) by omega) with c | c | c
  · subst c
    exact j_fault0 md ok
  · subst c
    exact j_fault1 md ok
  · exact j_faultN md ok hx c
set_option maxHeartbeats 4000000 in
set_option maxRecDepth 100000 in
theorem j_told {G : kG} {d : Nat} {h : Nat → Option kC} {n : Nat} {q : Nat → Int} {F : Nat → Nat → Int} {Z : kCs} (md : rMD q F Z) (ok : kCok Z)  {x : Int} (hx : inI x) : kCall G mX10_told (d + 4) 0 0 [.ref (gB G + 97), .int (jI x)] (kmh G h q F) n (kQm G h n (.int (jI (a_told Z x))) (Z)) := by
  show kE G mX10_told (d + 4) 0 0 0 [some (.ref (gB G + 97)), some (.int (jI x))] [] (kmh G h q F) n _
  refine e_iload_n rfl dX10_told_0 ?_
  refine e_i2l (by first | assumption | (unfold inI at *; omega)) dX10_told_1 ?_
  refine e_ldc2 (z := 3) kcX10_299 (by decide) dX10_told_2 ?_
  refine e_ldc2 (z := 7) kcX10_318 (by decide) dX10_told_5 ?_
  refine eS3 mtX10_in msX10_in lkX10_64 dX10_told_8 rfl rfl (j_in (by first | assumption | exact inL_of (by assumption) | (unfold inL; omega) | (unfold inI at *; unfold inL; omega)) (by first | assumption | exact inL_of (by assumption) | (unfold inL; omega) | (unfold inI at *; unfold inL; omega)) (by first | assumption | exact inL_of (by assumption) | (unfold inL; omega) | (unfold inI at *; unfold inL; omega))) ?_
  dsimp only [Option.toList, List.cons_append, List.nil_append]
  refine e_ifeqP (tgt := 23) dX10_told_11 (by decide) (fun c11 => ?_) (fun c11 => ?_)
  · refine e_iload_n rfl dX10_told_23 ?_
    refine e_i2l (by first | assumption | (unfold inI at *; omega)) dX10_told_24 ?_
    refine e_ldc2 (z := 10) kcX10_101 (by decide) dX10_told_25 ?_
    refine e_ldc2 (z := 15) kcX10_320 (by decide) dX10_told_28 ?_
    refine eS3 mtX10_in msX10_in lkX10_64 dX10_told_31 rfl rfl (j_in (by first | assumption | exact inL_of (by assumption) | (unfold inL; omega) | (unfold inI at *; unfold inL; omega)) (by first | assumption | exact inL_of (by assumption) | (unfold inL; omega) | (unfold inI at *; unfold inL; omega)) (by first | assumption | exact inL_of (by assumption) | (unfold inL; omega) | (unfold inI at *; unfold inL; omega))) ?_
    dsimp only [Option.toList, List.cons_append, List.nil_append]
    refine e_ifeqP (tgt := 46) dX10_told_34 (by decide) (fun c34 => ?_) (fun c34 => ?_)
    · refine e_iload_n rfl dX10_told_46 ?_
      refine e_i2l (by first | assumption | (unfold inI at *; omega)) dX10_told_47 ?_
      refine e_ldc2 (z := 20) kcX10_322 (by decide) dX10_told_48 ?_
      refine e_ldc2 (z := 25) kcX10_324 (by decide) dX10_told_51 ?_
      refine eS3 mtX10_in msX10_in lkX10_64 dX10_told_54 rfl rfl (j_in (by first | assumption | exact inL_of (by assumption) | (unfold inL; omega) | (unfold inI at *; unfold inL; omega)) (by first | assumption | exact inL_of (by assumption) | (unfold inL; omega) | (unfold inI at *; unfold inL; omega)) (by first | assumption | exact inL_of (by assumption) | (unfold inL; omega) | (unfold inI at *; unfold inL; omega))) ?_
      dsimp only [Option.toList, List.cons_append, List.nil_append]
      refine e_ifeqP (tgt := 70) dX10_told_57 (by decide) (fun c57 => ?_) (fun c57 => ?_)
      · refine e_iload_n rfl dX10_told_70 ?_
        refine e_i2l (by first | assumption | (unfold inI at *; omega)) dX10_told_71 ?_
        refine e_ldc2 (z := 30) kcX10_326 (by decide) dX10_told_72 ?_
        refine e_ldc2 (z := 35) kcX10_328 (by decide) dX10_told_75 ?_
        refine eS3 mtX10_in msX10_in lkX10_64 dX10_told_78 rfl rfl (j_in (by first | assumption | exact inL_of (by assumption) | (unfold inL; omega) | (unfold inI at *; unfold inL; omega)) (by first | assumption | exact inL_of (by assumption) | (unfold inL; omega) | (unfold inI at *; unfold inL; omega)) (by first | assumption | exact inL_of (by assumption) | (unfold inL; omega) | (unfold inI at *; unfold inL; omega))) ?_
        dsimp only [Option.toList, List.cons_append, List.nil_append]
        refine e_ifeqP (tgt := 94) dX10_told_81 (by decide) (fun c81 => ?_) (fun c81 => ?_)
        · refine e_iload_n rfl dX10_told_94 ?_
          refine e_i2l (by first | assumption | (unfold inI at *; omega)) dX10_told_95 ?_
          refine e_ldc2 (z := 40) kcX10_95 (by decide) dX10_told_96 ?_
          refine e_ldc2 (z := 45) kcX10_330 (by decide) dX10_told_99 ?_
          refine eS3 mtX10_in msX10_in lkX10_64 dX10_told_102 rfl rfl (j_in (by first | assumption | exact inL_of (by assumption) | (unfold inL; omega) | (unfold inI at *; unfold inL; omega)) (by first | assumption | exact inL_of (by assumption) | (unfold inL; omega) | (unfold inI at *; unfold inL; omega)) (by first | assumption | exact inL_of (by assumption) | (unfold inL; omega) | (unfold inI at *; unfold inL; omega))) ?_
          dsimp only [Option.toList, List.cons_append, List.nil_append]
          refine e_ifeqP (tgt := 118) dX10_told_105 (by decide) (fun c105 => ?_) (fun c105 => ?_)
          · refine e_iload_n rfl dX10_told_118 ?_
            refine e_if_ne (tgt := 129) dX10_told_119 (by decide) (by first | assumption | (unfold inI at *; omega)) (fun c119 => ?_) (fun c119 => ?_)
            · refine e_iload_n rfl dX10_told_129 ?_
              refine e_iconst dX10_told_130 ?_
              refine e_icmp_ne (tgt := 141) dX10_told_131 (by decide) (by first | assumption | (unfold inI at *; omega)) (by first | assumption | (unfold inI at *; omega)) (fun c131 => ?_) (fun c131 => ?_)
              · refine e_iload_n rfl dX10_told_141 ?_
                refine e_iconst dX10_told_142 ?_
                refine e_icmp_ne (tgt := 153) dX10_told_143 (by decide) (by first | assumption | (unfold inI at *; omega)) (by first | assumption | (unfold inI at *; omega)) (fun c143 => ?_) (fun c143 => ?_)
                · refine e_bipush (by decide) dX10_told_153 ?_
                  refine e_ireturn dX10_told_155 rfl rfl ?_
                  exact kQm_0 (by unfold a_told; first | (rw [if_pos (by omega)]; done) | (rw [if_neg (by omega), if_pos (by omega)]; done) | (rw [if_neg (by omega), if_neg (by omega), if_pos (by omega)]; done) | (rw [if_neg (by omega), if_neg (by omega), if_neg (by omega), if_neg (by omega), if_neg (by omega)]; done)) md
                · refine e_aload_n rfl dX10_told_146 ?_
                  refine e_getf fdX10_137 dX10_told_147 kmh_97 rfl ?_
                  rw [md.1.2.2.2.2.1]
                  refine e_goto (tgt := 155) dX10_told_150 (by decide) ?_
                  refine e_ireturn dX10_told_155 rfl rfl ?_
                  exact kQm_0 (by unfold a_told; first | (rw [if_pos (by omega)]; done) | (rw [if_neg (by omega), if_pos (by omega)]; done) | (rw [if_neg (by omega), if_neg (by omega), if_pos (by omega)]; done) | (rw [if_neg (by omega), if_neg (by omega), if_neg (by omega), if_neg (by omega), if_neg (by omega)]; done)) md
              · refine e_aload_n rfl dX10_told_134 ?_
                refine e_getf fdX10_131 dX10_told_135 kmh_97 rfl ?_
                rw [md.1.2.2.2.1.1]
                refine e_goto (tgt := 155) dX10_told_138 (by decide) ?_
                refine e_ireturn dX10_told_155 rfl rfl ?_
                exact kQm_0 (by unfold a_told; first | (rw [if_pos (by omega)]; done) | (rw [if_neg (by omega), if_pos (by omega)]; done) | (rw [if_neg (by omega), if_neg (by omega), if_pos (by omega)]; done) | (rw [if_neg (by omega), if_neg (by omega), if_neg (by omega), if_neg (by omega), if_neg (by omega)]; done)) md
            · refine e_aload_n rfl dX10_told_122 ?_
              refine e_getf fdX10_107 dX10_told_123 kmh_97 rfl ?_
              rw [md.2.1]
              refine e_goto (tgt := 155) dX10_told_126 (by decide) ?_
              refine e_ireturn dX10_told_155 rfl rfl ?_
              exact kQm_0 (by unfold a_told; first | (rw [if_pos (by omega)]; done) | (rw [if_neg (by omega), if_pos (by omega)]; done) | (rw [if_neg (by omega), if_neg (by omega), if_pos (by omega)]; done) | (rw [if_neg (by omega), if_neg (by omega), if_neg (by omega), if_neg (by omega), if_neg (by omega)]; done)) md
          · refine e_aload_n rfl dX10_told_108 ?_
            refine e_getf fdX10_19 dX10_told_109 kmh_97 rfl ?_
            refine e_iload_n rfl dX10_told_112 ?_
            refine e_bipush (by decide) dX10_told_113 ?_
            refine e_isub dX10_told_115 ?_
            refine e_mld (by first | exact ka98 | exact ka99 | exact ka100 | exact ka101 | exact ka102 | exact ka103 | exact ka104 | exact ka105 | exact ka106 | exact ka107 | exact ka108 | exact ka109 | exact ka110 | exact ka111 | exact ka112 | exact ka113) dX10_told_116 (by omega) (by omega) ?_
            rw [(md_e md (by omega)).2.2]
            refine e_ireturn dX10_told_117 rfl rfl ?_
            exact kQm_0 (by unfold a_told; rw [if_neg (by omega), if_neg (by omega), if_neg (by omega), if_neg (by omega), if_pos (by omega), if_neg (by omega), show (x % 10).toNat = (x - 40).toNat by omega, show (x / 10 - 2).toNat = 2 by omega]) md
        · refine e_aload_n rfl dX10_told_84 ?_
          refine e_getf fdX10_16 dX10_told_85 kmh_97 rfl ?_
          refine e_iload_n rfl dX10_told_88 ?_
          refine e_bipush (by decide) dX10_told_89 ?_
          refine e_isub dX10_told_91 ?_
          refine e_mld (by first | exact ka98 | exact ka99 | exact ka100 | exact ka101 | exact ka102 | exact ka103 | exact ka104 | exact ka105 | exact ka106 | exact ka107 | exact ka108 | exact ka109 | exact ka110 | exact ka111 | exact ka112 | exact ka113) dX10_told_92 (by omega) (by omega) ?_
          rw [(md_e md (by omega)).2.1]
          refine e_ireturn dX10_told_93 rfl rfl ?_
          exact kQm_0 (by unfold a_told; rw [if_neg (by omega), if_neg (by omega), if_neg (by omega), if_neg (by omega), if_pos (by omega), if_neg (by omega), show (x % 10).toNat = (x - 30).toNat by omega, show (x / 10 - 2).toNat = 1 by omega]) md
      · refine e_aload_n rfl dX10_told_60 ?_
        refine e_getf fdX10_13 dX10_told_61 kmh_97 rfl ?_
        refine e_iload_n rfl dX10_told_64 ?_
        refine e_bipush (by decide) dX10_told_65 ?_
        refine e_isub dX10_told_67 ?_
        refine e_mld (by first | exact ka98 | exact ka99 | exact ka100 | exact ka101 | exact ka102 | exact ka103 | exact ka104 | exact ka105 | exact ka106 | exact ka107 | exact ka108 | exact ka109 | exact ka110 | exact ka111 | exact ka112 | exact ka113) dX10_told_68 (by omega) (by omega) ?_
        rw [(md_e md (by omega)).1]
        refine e_ireturn dX10_told_69 rfl rfl ?_
        exact kQm_0 (by unfold a_told; rw [if_neg (by omega), if_neg (by omega), if_neg (by omega), if_neg (by omega), if_pos (by omega), if_neg (by omega), show (x % 10).toNat = (x - 20).toNat by omega, show (x / 10 - 2).toNat = 0 by omega]) md
    · refine e_aload_n rfl dX10_told_37 ?_
      refine e_iload_n rfl dX10_told_38 ?_
      refine e_bipush (by decide) dX10_told_39 ?_
      refine e_isub dX10_told_41 ?_
      refine eV1 mtX10_all miX10_all lkX10_172 dX10_told_42 kmh_97 rfl rfl rfl (j_all md ok (by omega)) ?_
      dsimp only [Option.toList, List.cons_append, List.nil_append]
      refine e_ireturn dX10_told_45 rfl rfl ?_
      exact kQm_0 (by unfold a_told; rw [if_neg (by omega), if_neg (by omega), if_neg (by omega), if_neg (by omega), if_pos (by omega), if_pos (by omega), show (x % 10).toNat = (x - 10).toNat by omega]) md
  · refine e_aload_n rfl dX10_told_14 ?_
    refine e_getf fdX10_22 dX10_told_15 kmh_97 rfl ?_
    refine e_iload_n rfl dX10_told_18 ?_
    refine e_iconst dX10_told_19 ?_
    refine e_isub dX10_told_20 ?_
    refine e_mld (by first | exact ka98 | exact ka99 | exact ka100 | exact ka101 | exact ka102 | exact ka103 | exact ka104 | exact ka105 | exact ka106 | exact ka107 | exact ka108 | exact ka109 | exact ka110 | exact ka111 | exact ka112 | exact ka113) dX10_told_21 (by omega) (by omega) ?_
    rw [md_w md (by omega)]
    refine e_ireturn dX10_told_22 rfl rfl ?_
    exact kQm_0 (by unfold a_told; rw [if_neg (by omega), if_neg (by omega), if_neg (by omega), if_pos (by omega)]) md
