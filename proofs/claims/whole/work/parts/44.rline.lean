/-! THE REFERENCE: GROWTH, LINE -/
set_option maxHeartbeats 4000000 in
set_option maxRecDepth 100000 in
theorem j_growsAt_lp {G : kG} {d : Nat} {h : Nat → Option kC} {n : Nat} {q : Nat → Int} {F : Nat → Nat → Int} {Z : kCs} (md : rMD q F Z) (ok : kCok Z) {a : Int} (a0 : 1 ≤ a ∧ a ≤ 99)  : ∀ (f : Nat) (k : Nat) (z : Int), z = (k : Int) → z + f = q 16 → kE G mX10_growsAt d 0 0 2 [some (.ref (gB G + 97)), some (.int (jI a)), some (.int (jI z))] [] (kmh G h q F) n (kre (some (.int (jI (kgD F a f k)))) (kmh G h q F) n) := by
  have gd := md.1.2.2.2.2
  have g20 := gd.2.1
  intro f
  induction f with
  | zero =>
    intro k z g1 g2
    refine e_iload_n rfl dX10_growsAt_2 ?_
    refine e_aload_n rfl dX10_growsAt_3 ?_
    refine e_getf fdX10_137 dX10_growsAt_4 kmh_97 rfl ?_
    refine e_icmp_ge (tgt := 33) dX10_growsAt_7 (by decide) (by first | assumption | (unfold inI at *; omega)) (by first | assumption | (unfold inI at *; omega)) (fun c7 => ?_) (fun c7 => ?_)
    · refine e_iconst dX10_growsAt_33 ?_
      refine e_ireturn dX10_growsAt_34 rfl rfl ?_
      exact ⟨rfl, rfl, rfl⟩
    · exact absurd c7 (by omega)
  | succ f ih =>
    intro k z g1 g2
    subst g1
    have q8 := gd.2.2.1 k (by omega)
    refine e_iload_n rfl dX10_growsAt_2 ?_
    refine e_aload_n rfl dX10_growsAt_3 ?_
    refine e_getf fdX10_137 dX10_growsAt_4 kmh_97 rfl ?_
    refine e_icmp_ge (tgt := 33) dX10_growsAt_7 (by decide) (by first | assumption | (unfold inI at *; omega)) (by first | assumption | (unfold inI at *; omega)) (fun c7 => ?_) (fun c7 => ?_)
    · exact absurd c7 (by omega)
    · refine e_aload_n rfl dX10_growsAt_10 ?_
      refine e_getf fdX10_43 dX10_growsAt_11 kmh_97 rfl ?_
      refine e_iload_n rfl dX10_growsAt_14 ?_
      refine e_mld (by first | exact ka98 | exact ka99 | exact ka100 | exact ka101 | exact ka102 | exact ka103 | exact ka104 | exact ka105 | exact ka106 | exact ka107 | exact ka108 | exact ka109 | exact ka110 | exact ka111 | exact ka112 | exact ka113) dX10_growsAt_15 (by omega) (by omega) ?_
      rw [Int.toNat_natCast]
      refine e_iload_n rfl dX10_growsAt_16 ?_
      refine e_icmp_ne (tgt := 27) dX10_growsAt_17 (by decide) (by first | assumption | (unfold inI at *; omega)) (by first | assumption | (unfold inI at *; omega)) (fun c17 => ?_) (fun c17 => ?_)
      · refine e_iinc dX10_growsAt_27 rfl rfl ?_
        dsimp only [List.set]
        refine e_goto (tgt := 2) dX10_growsAt_30 (by decide) ?_
        refine kE.mono (ih (k + 1) _ (by omega) (by omega)) (fun r h' n' hq => ?_)
        obtain ⟨w1, w2, w3⟩ := hq
        refine ⟨?_, w2, w3⟩
        rw [w1]
        conv => rhs; unfold kgD
        rw [if_neg (by assumption)]
      · refine e_aload_n rfl dX10_growsAt_20 ?_
        refine e_getf fdX10_46 dX10_growsAt_21 kmh_97 rfl ?_
        refine e_iload_n rfl dX10_growsAt_24 ?_
        refine e_mld (by first | exact ka98 | exact ka99 | exact ka100 | exact ka101 | exact ka102 | exact ka103 | exact ka104 | exact ka105 | exact ka106 | exact ka107 | exact ka108 | exact ka109 | exact ka110 | exact ka111 | exact ka112 | exact ka113) dX10_growsAt_25 (by omega) (by omega) ?_
        rw [Int.toNat_natCast]
        refine e_ireturn dX10_growsAt_26 rfl rfl ?_
        exact ⟨by unfold kgD; rw [if_pos (by assumption)], rfl, rfl⟩
set_option maxHeartbeats 4000000 in
set_option maxRecDepth 100000 in
theorem j_growsAt {G : kG} {d : Nat} {h : Nat → Option kC} {n : Nat} {q : Nat → Int} {F : Nat → Nat → Int} {Z : kCs} (md : rMD q F Z) (ok : kCok Z) {a : Int} (a0 : 1 ≤ a ∧ a ≤ 99) : kCall G mX10_growsAt d 0 0 [.ref (gB G + 97), .int (jI a)] (kmh G h q F) n (kre (some (.int (jI (kgw (hG (cN Z)) a)))) (kmh G h q F) n) := by
  show kE G mX10_growsAt d 0 0 0 [some (.ref (gB G + 97)), some (.int (jI a)), none] [] (kmh G h q F) n _
  have gd := md.1.2.2.2.2
  refine e_iconst dX10_growsAt_0 ?_
  refine e_istore_n dX10_growsAt_1 rfl rfl ?_
  dsimp only [List.set]
  rw [← gd.2.2.2 a a0.1]
  exact j_growsAt_lp md ok a0 (q 16).toNat 0 0 (by omega) (by have := gd.2.1; omega)
set_option maxHeartbeats 4000000 in
set_option maxRecDepth 100000 in
theorem j_grownFrom_lp {G : kG} {d : Nat} {h : Nat → Option kC} {n : Nat} {q : Nat → Int} {F : Nat → Nat → Int} {Z : kCs} (md : rMD q F Z) (ok : kCok Z) {x : Int} (x0 : 1 ≤ x ∧ x ≤ 40)  : ∀ (f : Nat) (i : Nat) (z y : Int), z = x + (i : Int) → (i : Int) ≤ 40 → 23 - z ≤ f → y = ksum (fun j => kgw (hG (cN Z)) (x + j)) i → (i : Int) = 0 ∨ z ≤ 23 → kE G mX10_grownFrom (d + 1) 0 0 4 [some (.ref (gB G + 97)), some (.int (jI x)), some (.int (jI y)), some (.int (jI z))] [] (kmh G h q F) n (kre (some (.int (jI (kgf (hG (cN Z)) x)))) (kmh G h q F) n) := by
  intro f
  induction f with
  | zero =>
    intro i z y g1 g2 g3 g4 g5
    refine e_iload_n rfl dX10_grownFrom_4 ?_
    refine e_bipush (by decide) dX10_grownFrom_5 ?_
    refine e_icmp_ge (tgt := 24) dX10_grownFrom_7 (by decide) (by first | assumption | (unfold inI at *; omega)) (by first | assumption | (unfold inI at *; omega)) (fun c7 => ?_) (fun c7 => ?_)
    · refine e_iload_n rfl dX10_grownFrom_24 ?_
      refine e_ireturn dX10_grownFrom_25 rfl rfl ?_
      exact ⟨by rw [g4]; unfold kgf; rw [show (23 - x).toNat = i by omega], rfl, rfl⟩
    · exact absurd c7 (by omega)
  | succ f ih =>
    intro i z y g1 g2 g3 g4 g5
    refine e_iload_n rfl dX10_grownFrom_4 ?_
    refine e_bipush (by decide) dX10_grownFrom_5 ?_
    refine e_icmp_ge (tgt := 24) dX10_grownFrom_7 (by decide) (by first | assumption | (unfold inI at *; omega)) (by first | assumption | (unfold inI at *; omega)) (fun c7 => ?_) (fun c7 => ?_)
    · refine e_iload_n rfl dX10_grownFrom_24 ?_
      refine e_ireturn dX10_grownFrom_25 rfl rfl ?_
      exact ⟨by rw [g4]; unfold kgf; rw [show (23 - x).toNat = i by omega], rfl, rfl⟩
    · refine e_iload_n rfl dX10_grownFrom_10 ?_
      refine e_aload_n rfl dX10_grownFrom_11 ?_
      refine e_iload_n rfl dX10_grownFrom_12 ?_
      refine eV1 mtX10_growsAt miX10_growsAt lkX10_218 dX10_grownFrom_13 kmh_97 rfl rfl rfl (j_growsAt md ok (by omega)) ?_
      dsimp only [Option.toList, List.cons_append, List.nil_append]
      refine e_iadd dX10_grownFrom_16 ?_
      refine e_istore_n dX10_grownFrom_17 rfl rfl ?_
      dsimp only [List.set]
      refine e_iinc dX10_grownFrom_18 rfl rfl ?_
      dsimp only [List.set]
      refine e_goto (tgt := 4) dX10_grownFrom_21 (by decide) ?_
      exact ih (i + 1) _ _ (by omega) (by omega) (by omega) (by rw [g4, ksum_s, g1]) (by omega)
set_option maxHeartbeats 4000000 in
set_option maxRecDepth 100000 in
theorem j_grownFrom {G : kG} {d : Nat} {h : Nat → Option kC} {n : Nat} {q : Nat → Int} {F : Nat → Nat → Int} {Z : kCs} (md : rMD q F Z) (ok : kCok Z) {x : Int} (x0 : 1 ≤ x ∧ x ≤ 40) : kCall G mX10_grownFrom (d + 1) 0 0 [.ref (gB G + 97), .int (jI x)] (kmh G h q F) n (kre (some (.int (jI (kgf (hG (cN Z)) x)))) (kmh G h q F) n) := by
  show kE G mX10_grownFrom (d + 1) 0 0 0 [some (.ref (gB G + 97)), some (.int (jI x)), none, none] [] (kmh G h q F) n _
  refine e_iconst dX10_grownFrom_0 ?_
  refine e_istore_n dX10_grownFrom_1 rfl rfl ?_
  dsimp only [List.set]
  refine e_iload_n rfl dX10_grownFrom_2 ?_
  refine e_istore_n dX10_grownFrom_3 rfl rfl ?_
  dsimp only [List.set]
  exact j_grownFrom_lp md ok x0 60 0 _ _ (by omega) (by omega) (by omega) rfl (by omega)
set_option maxHeartbeats 4000000 in
set_option maxRecDepth 100000 in
theorem j_meanGrown {G : kG} {d : Nat} {h : Nat → Option kC} {n : Nat} {q : Nat → Int} {F : Nat → Nat → Int} {Z : kCs} (md : rMD q F Z) (ok : kCok Z) {b : Int} (hby : 0 ≤ b ∧ b ≤ 5)  : kCall G mX10_meanGrown (d + 2) 0 0 [.ref (gB G + 97), .int (jI b)] (kmh G h q F) n (kre (some (.int (jI (kmg (hG (cN Z)) (hW (cN Z) 4) (hE (cN Z) b.toNat 1))))) (kmh G h q F) n) := by
  show kE G mX10_meanGrown (d + 2) 0 0 0 [some (.ref (gB G + 97)), some (.int (jI b))] [] (kmh G h q F) n _
  obtain ⟨⟨y00, y01⟩, ⟨y10, y11⟩, ⟨y20, y21⟩⟩ := id (ok.1.2.1 b.toNat (by omega))
  refine e_bipush (by decide) dX10_meanGrown_0 ?_
  refine e_aload_n rfl dX10_meanGrown_2 ?_
  refine e_getf fdX10_22 dX10_meanGrown_3 kmh_97 rfl ?_
  refine e_iconst dX10_meanGrown_6 ?_
  refine e_mld (by first | exact ka98 | exact ka99 | exact ka100 | exact ka101 | exact ka102 | exact ka103 | exact ka104 | exact ka105 | exact ka106 | exact ka107 | exact ka108 | exact ka109 | exact ka110 | exact ka111 | exact ka112 | exact ka113) dX10_meanGrown_7 (by omega) (by omega) ?_
  rw [show (4 : Int).toNat = 4 from rfl, md_w md (by omega)]
  refine e_isub dX10_meanGrown_8 ?_
  refine e_aload_n rfl dX10_meanGrown_9 ?_
  refine e_aload_n rfl dX10_meanGrown_10 ?_
  refine e_getf fdX10_16 dX10_meanGrown_11 kmh_97 rfl ?_
  refine e_iload_n rfl dX10_meanGrown_14 ?_
  refine e_mld (by first | exact ka98 | exact ka99 | exact ka100 | exact ka101 | exact ka102 | exact ka103 | exact ka104 | exact ka105 | exact ka106 | exact ka107 | exact ka108 | exact ka109 | exact ka110 | exact ka111 | exact ka112 | exact ka113) dX10_meanGrown_15 (by omega) (by omega) ?_
  rw [(md_e md (by omega)).2.1]
  refine eV1 mtX10_grownFrom miX10_grownFrom lkX10_221 dX10_meanGrown_16 kmh_97 rfl rfl rfl (j_grownFrom md ok (by omega)) ?_
  dsimp only [Option.toList, List.cons_append, List.nil_append]
  refine e_imul dX10_meanGrown_19 ?_
  refine e_aload_n rfl dX10_meanGrown_20 ?_
  refine e_getf fdX10_22 dX10_meanGrown_21 kmh_97 rfl ?_
  refine e_iconst dX10_meanGrown_24 ?_
  refine e_mld (by first | exact ka98 | exact ka99 | exact ka100 | exact ka101 | exact ka102 | exact ka103 | exact ka104 | exact ka105 | exact ka106 | exact ka107 | exact ka108 | exact ka109 | exact ka110 | exact ka111 | exact ka112 | exact ka113) dX10_meanGrown_25 (by omega) (by omega) ?_
  rw [show (4 : Int).toNat = 4 from rfl, md_w md (by omega)]
  refine e_aload_n rfl dX10_meanGrown_26 ?_
  refine e_aload_n rfl dX10_meanGrown_27 ?_
  refine e_getf fdX10_16 dX10_meanGrown_28 kmh_97 rfl ?_
  refine e_iload_n rfl dX10_meanGrown_31 ?_
  refine e_mld (by first | exact ka98 | exact ka99 | exact ka100 | exact ka101 | exact ka102 | exact ka103 | exact ka104 | exact ka105 | exact ka106 | exact ka107 | exact ka108 | exact ka109 | exact ka110 | exact ka111 | exact ka112 | exact ka113) dX10_meanGrown_32 (by omega) (by omega) ?_
  rw [(md_e md (by omega)).2.1]
  refine e_iconst dX10_meanGrown_33 ?_
  refine e_isub dX10_meanGrown_34 ?_
  refine eV1 mtX10_grownFrom miX10_grownFrom lkX10_221 dX10_meanGrown_35 kmh_97 rfl rfl rfl (j_grownFrom md ok (by omega)) ?_
  dsimp only [Option.toList, List.cons_append, List.nil_append]
  refine e_imul dX10_meanGrown_38 ?_
  refine e_iadd dX10_meanGrown_39 ?_
  refine e_ireturn dX10_meanGrown_40 rfl rfl ?_
  exact ⟨rfl, rfl, rfl⟩
set_option maxHeartbeats 4000000 in
set_option maxRecDepth 100000 in
theorem j_grown {G : kG} {d : Nat} {h : Nat → Option kC} {n : Nat} {q : Nat → Int} {F : Nat → Nat → Int} {Z : kCs} (md : rMD q F Z) (ok : kCok Z)  {b : Int} (hb : inI b) {x : Int} (hx : inI x) {p : Int} (hp : inI p) : kCall G mX10_grown (d + 4) 0 0 [.ref (gB G + 97), .int (jI b), .int (jI x), .int (jI p)] (kmh G h q F) n (kQm G h n (.long (jL (a_grown Z b x p))) (Z)) := by
  show kE G mX10_grown (d + 4) 0 0 0 [some (.ref (gB G + 97)), some (.int (jI b)), some (.int (jI x)), some (.int (jI p))] [] (kmh G h q F) n _
  refine e_iload_n rfl dX10_grown_0 ?_
  refine eS1 mtX10_isBook msX10_isBook lkX10_76 dX10_grown_1 rfl rfl (j_isBook (by first | assumption | (unfold inI at *; omega))) ?_
  dsimp only [Option.toList, List.cons_append, List.nil_append]
  refine e_ifneP (tgt := 11) dX10_grown_4 (by decide) (fun c4 => ?_) (fun c4 => ?_)
  · refine e_iload_n rfl dX10_grown_11 ?_
    refine eS1 mtX10_isEnd msX10_isEnd lkX10_124 dX10_grown_12 rfl rfl (j_isEnd (by first | assumption | (unfold inI at *; omega))) ?_
    dsimp only [Option.toList, List.cons_append, List.nil_append]
    refine e_ifeqP (tgt := 25) dX10_grown_15 (by decide) (fun c15 => ?_) (fun c15 => ?_)
    · refine e_ldc2 (z := (-1000000000000000002)) kcX10_159 (by decide) dX10_grown_25 ?_
      refine e_lreturn dX10_grown_28 rfl ?_
      exact kQm_0 (by unfold a_grown; (repeat' split) <;> first | rfl | (exfalso; omega)) md
    · refine e_iload_n rfl dX10_grown_18 ?_
      refine eS1 mtX10_isEnd msX10_isEnd lkX10_124 dX10_grown_19 rfl rfl (j_isEnd (by first | assumption | (unfold inI at *; omega))) ?_
      dsimp only [Option.toList, List.cons_append, List.nil_append]
      refine e_ifneP (tgt := 29) dX10_grown_22 (by decide) (fun c22 => ?_) (fun c22 => ?_)
      · refine e_iload_n rfl dX10_grown_29 ?_
        refine e_if_ne (tgt := 52) dX10_grown_30 (by decide) (by first | assumption | (unfold inI at *; omega)) (fun c30 => ?_) (fun c30 => ?_)
        · obtain ⟨⟨y00, y01⟩, ⟨y10, y11⟩, ⟨y20, y21⟩⟩ := id (ok.1.2.1 b.toNat (by omega))
          obtain ⟨⟨w00, w01⟩, ⟨w10, w11⟩, ⟨w20, w21⟩, ⟨w30, w31⟩, ⟨w40, w41⟩⟩ := id ok.1.2.2.1
          refine e_aload_n rfl dX10_grown_52 ?_
          refine e_iload_n rfl dX10_grown_53 ?_
          refine eV1 mtX10_meanGrown miX10_meanGrown lkX10_224 dX10_grown_54 kmh_97 rfl rfl rfl (j_meanGrown md ok (by omega)) ?_
          dsimp only [Option.toList, List.cons_append, List.nil_append]
          have q8 := kmg_in ok.1.2.2.2.2 (a := hE (cN Z) b.toNat 1) (l := hW (cN Z) 4) (by omega) (by omega) (by omega)
          refine e_i2l (by first | assumption | (unfold inI at *; omega)) dX10_grown_57 ?_
          refine e_ldc2 (z := 10) kcX10_101 (by decide) dX10_grown_58 ?_
          refine e_iload_n rfl dX10_grown_61 ?_
          refine eS3 mtX10_lowest msX10_lowest lkX10_161 dX10_grown_62 rfl rfl (j_lowest (by omega) (by omega) (by omega) (by omega) (by omega) (by omega)) ?_
          dsimp only [Option.toList, List.cons_append, List.nil_append]
          refine e_lreturn dX10_grown_65 rfl ?_
          exact kQm_0 (by unfold a_grown; (repeat' split) <;> first | rfl | (exfalso; omega)) md
        · obtain ⟨⟨y00, y01⟩, ⟨y10, y11⟩, ⟨y20, y21⟩⟩ := id (ok.1.2.1 b.toNat (by omega))
          refine e_aload_n rfl dX10_grown_33 ?_
          refine e_aload_n rfl dX10_grown_34 ?_
          refine e_getf fdX10_16 dX10_grown_35 kmh_97 rfl ?_
          refine e_iload_n rfl dX10_grown_38 ?_
          refine e_mld (by first | exact ka98 | exact ka99 | exact ka100 | exact ka101 | exact ka102 | exact ka103 | exact ka104 | exact ka105 | exact ka106 | exact ka107 | exact ka108 | exact ka109 | exact ka110 | exact ka111 | exact ka112 | exact ka113) dX10_grown_39 (by omega) (by omega) ?_
          rw [(md_e md (by omega)).2.1]
          refine eV1 mtX10_grownFrom miX10_grownFrom lkX10_221 dX10_grown_40 kmh_97 rfl rfl rfl (j_grownFrom md ok (by omega)) ?_
          dsimp only [Option.toList, List.cons_append, List.nil_append]
          have q8 := kgf_in ok.1.2.2.2.2 (a := hE (cN Z) b.toNat 1) (by omega)
          refine e_i2l (by first | assumption | (unfold inI at *; omega)) dX10_grown_43 ?_
          refine e_lconst (z := 1) (by decide) dX10_grown_44 ?_
          refine e_iload_n rfl dX10_grown_45 ?_
          refine eS3 mtX10_lowest msX10_lowest lkX10_161 dX10_grown_46 rfl rfl (j_lowest (by omega) (by omega) (by omega) (by omega) (by omega) (by omega)) ?_
          dsimp only [Option.toList, List.cons_append, List.nil_append]
          refine e_goto (tgt := 65) dX10_grown_49 (by decide) ?_
          refine e_lreturn dX10_grown_65 rfl ?_
          exact kQm_0 (by unfold a_grown; (repeat' split) <;> first | rfl | (exfalso; omega)) md
      · refine e_ldc2 (z := (-1000000000000000002)) kcX10_159 (by decide) dX10_grown_25 ?_
        refine e_lreturn dX10_grown_28 rfl ?_
        exact kQm_0 (by unfold a_grown; (repeat' split) <;> first | rfl | (exfalso; omega)) md
  · refine e_ldc2 (z := (-1000000000000000001)) kcX10_216 (by decide) dX10_grown_7 ?_
    refine e_lreturn dX10_grown_10 rfl ?_
    exact kQm_0 (by unfold a_grown; (repeat' split) <;> first | rfl | (exfalso; omega)) md
theorem kfa_in (F : Nat → Nat → Int) (y a : Int) (s : Nat) : ∀ k : Nat, kfa F y a s k = 0 ∨ kfa F y a s k = 1
  | 0 => Or.inr rfl
  | k + 1 => by
    unfold kfa
    split
    · exact Or.inr rfl
    · exact Or.inl rfl
set_option maxHeartbeats 4000000 in
set_option maxRecDepth 100000 in
theorem j_line_in {G : kG} {d : Nat} {h : Nat → Option kC} {n : Nat} {q : Nat → Int} {F : Nat → Nat → Int} {Z : kCs} (md : rMD q F Z) (ok : kCok Z) {b : Int} (hby : 0 ≤ b ∧ b ≤ 5) {k : Nat} (hk : (k : Int) < q 9) {Post9 : kPo} (hc : ∀ (t9 : Int) (e5 e6 : Option Value), kE G mX10_lineOf d 0 0 152 [some (.ref (gB G + 97)), some (.int (jI b)), some (.int (jI k)), some (.int (jI (kcs F (hE (cN Z) b.toNat 0) (hE (cN Z) b.toNat 1) k))), some (.int (jI t9)), e5, e6] [] (kmh G h q F) n Post9)  : ∀ (f : Nat) (j : Nat) (t y : Int) (e5 e6 : Option Value), t = F 104 k + (j : Int) → t ≤ kmaxi (F 104 k) (F 104 (k + 1)) → kmaxi (F 104 k) (F 104 (k + 1)) - t ≤ f → y = (kfa F (hE (cN Z) b.toNat 0) (hE (cN Z) b.toNat 1) (F 104 k).toNat j) → kE G mX10_lineOf d 0 0 29 [some (.ref (gB G + 97)), some (.int (jI b)), some (.int (jI k)), some (.int (jI y)), some (.int (jI t)), e5, e6] [] (kmh G h q F) n (Post9) := by
  obtain ⟨⟨y00, y01⟩, ⟨y10, y11⟩, ⟨y20, y21⟩⟩ := id (ok.1.2.1 b.toNat (by omega))
  have rd := md.1.2.2.2.1
  have r1 := rd.2.2.2.2.1 k (by omega)
  have r2 := rd.2.2.2.2.1 (k + 1) (by omega)
  have r20 := rd.2.1
  have r21 := rd.2.2.1
  intro f
  induction f with
  | zero =>
    intro j t y e5 e6 g1 g2 g3 g4
    have q9 : t = kmaxi (F 104 k) (F 104 (k + 1)) ∧ F 104 (k + 1) ≤ t := by unfold kmaxi at *; (repeat' split at *) <;> omega
    have q8 : kmaxi (F 104 k) (F 104 (k + 1)) = F 104 k ∨ kmaxi (F 104 k) (F 104 (k + 1)) = F 104 (k + 1) := by unfold kmaxi; split <;> omega
    refine e_iload rfl dX10_lineOf_29 ?_
    refine e_aload_n rfl dX10_lineOf_31 ?_
    refine e_getf fdX10_28 dX10_lineOf_32 kmh_97 rfl ?_
    refine e_iload_n rfl dX10_lineOf_35 ?_
    refine e_iconst dX10_lineOf_36 ?_
    refine e_iadd dX10_lineOf_37 ?_
    refine e_mld (by first | exact ka98 | exact ka99 | exact ka100 | exact ka101 | exact ka102 | exact ka103 | exact ka104 | exact ka105 | exact ka106 | exact ka107 | exact ka108 | exact ka109 | exact ka110 | exact ka111 | exact ka112 | exact ka113) dX10_lineOf_38 (by omega) (by omega) ?_
    rw [show ((k : Int) + 1).toNat = k + 1 by omega]
    refine e_icmp_ge (tgt := 152) dX10_lineOf_39 (by decide) (by first | assumption | (unfold inI at *; omega)) (by first | assumption | (unfold inI at *; omega)) (fun c39 => ?_) (fun c39 => ?_)
    · have e9 : y = (kcs F (hE (cN Z) b.toNat 0) (hE (cN Z) b.toNat 1) k) := by rw [g4]; unfold kcs; rw [show (F 104 (k + 1)).toNat - (F 104 k).toNat = j by have := q9.1; unfold kmaxi at this; split at this <;> omega]
      rw [e9]
      exact hc _ _ _
    · exact absurd c39 (by omega)
  | succ f ih =>
    intro j t y e5 e6 g1 g2 g3 g4
    have q9 : (F 104 k ≤ F 104 (k + 1) ∧ kmaxi (F 104 k) (F 104 (k + 1)) = F 104 (k + 1)) ∨ (F 104 (k + 1) < F 104 k ∧ kmaxi (F 104 k) (F 104 (k + 1)) = F 104 k) := by unfold kmaxi; split <;> omega
    have q8 := kfa_in F (hE (cN Z) b.toNat 0) (hE (cN Z) b.toNat 1) (F 104 k).toNat j
    rw [← g4] at q8
    refine e_iload rfl dX10_lineOf_29 ?_
    refine e_aload_n rfl dX10_lineOf_31 ?_
    refine e_getf fdX10_28 dX10_lineOf_32 kmh_97 rfl ?_
    refine e_iload_n rfl dX10_lineOf_35 ?_
    refine e_iconst dX10_lineOf_36 ?_
    refine e_iadd dX10_lineOf_37 ?_
    refine e_mld (by first | exact ka98 | exact ka99 | exact ka100 | exact ka101 | exact ka102 | exact ka103 | exact ka104 | exact ka105 | exact ka106 | exact ka107 | exact ka108 | exact ka109 | exact ka110 | exact ka111 | exact ka112 | exact ka113) dX10_lineOf_38 (by omega) (by omega) ?_
    rw [show ((k : Int) + 1).toNat = k + 1 by omega]
    refine e_icmp_ge (tgt := 152) dX10_lineOf_39 (by decide) (by first | assumption | (unfold inI at *; omega)) (by first | assumption | (unfold inI at *; omega)) (fun c39 => ?_) (fun c39 => ?_)
    · have e9 : y = (kcs F (hE (cN Z) b.toNat 0) (hE (cN Z) b.toNat 1) k) := by rw [g4]; unfold kcs; rw [show (F 104 (k + 1)).toNat - (F 104 k).toNat = j by omega]
      rw [e9]
      exact hc _ _ _
    · have q7 := rd.2.2.2.2.2.2.1 ((F 104 k).toNat + j) (by omega)
      refine e_aload_n rfl dX10_lineOf_42 ?_
      refine e_getf fdX10_34 dX10_lineOf_43 kmh_97 rfl ?_
      refine e_iload rfl dX10_lineOf_46 ?_
      refine e_mld (by first | exact ka98 | exact ka99 | exact ka100 | exact ka101 | exact ka102 | exact ka103 | exact ka104 | exact ka105 | exact ka106 | exact ka107 | exact ka108 | exact ka109 | exact ka110 | exact ka111 | exact ka112 | exact ka113) dX10_lineOf_48 (by omega) (by omega) ?_
      rw [show t.toNat = (F 104 k).toNat + j by omega]
      refine e_bipush (by decide) dX10_lineOf_49 ?_
      refine e_icmp_ne (tgt := 63) dX10_lineOf_51 (by decide) (by first | assumption | (unfold inI at *; omega)) (by first | assumption | (unfold inI at *; omega)) (fun c51 => ?_) (fun c51 => ?_)
      · refine e_aload_n rfl dX10_lineOf_63 ?_
        refine e_getf fdX10_16 dX10_lineOf_64 kmh_97 rfl ?_
        refine e_iload_n rfl dX10_lineOf_67 ?_
        refine e_mld (by first | exact ka98 | exact ka99 | exact ka100 | exact ka101 | exact ka102 | exact ka103 | exact ka104 | exact ka105 | exact ka106 | exact ka107 | exact ka108 | exact ka109 | exact ka110 | exact ka111 | exact ka112 | exact ka113) dX10_lineOf_68 (by omega) (by omega) ?_
        rw [(md_e md (by omega)).2.1]
        refine e_istore dX10_lineOf_69 rfl rfl ?_
        dsimp only [List.set]
        refine e_aload_n rfl dX10_lineOf_71 ?_
        refine e_getf fdX10_37 dX10_lineOf_72 kmh_97 rfl ?_
        refine e_iload rfl dX10_lineOf_75 ?_
        refine e_mld (by first | exact ka98 | exact ka99 | exact ka100 | exact ka101 | exact ka102 | exact ka103 | exact ka104 | exact ka105 | exact ka106 | exact ka107 | exact ka108 | exact ka109 | exact ka110 | exact ka111 | exact ka112 | exact ka113) dX10_lineOf_77 (by omega) (by omega) ?_
        rw [show t.toNat = (F 104 k).toNat + j by omega]
        refine e_istore dX10_lineOf_78 rfl rfl ?_
        dsimp only [List.set]
        refine e_iload_n rfl dX10_lineOf_80 ?_
        refine e_if_eq (tgt := 144) dX10_lineOf_81 (by decide) (by first | assumption | (unfold inI at *; omega)) (fun c81 => ?_) (fun c81 => ?_)
        · refine e_iconst dX10_lineOf_144 ?_
          refine e_istore_n dX10_lineOf_145 rfl rfl ?_
          dsimp only [List.set]
          refine e_iinc dX10_lineOf_146 rfl rfl ?_
          dsimp only [List.set]
          refine e_goto (tgt := 29) dX10_lineOf_149 (by decide) ?_
          refine ih (j + 1) _ _ _ _ (by omega) (by omega) (by omega) ?_
          have q2 : kft F (hE (cN Z) b.toNat 0) (hE (cN Z) b.toNat 1) ((F 104 k).toNat + j) = kho (if F 106 ((F 104 k).toNat + j) = 121 then (hE (cN Z) b.toNat 0) else (hE (cN Z) b.toNat 1)) (F 107 ((F 104 k).toNat + j)) (F 108 ((F 104 k).toNat + j)) := rfl
          first | rw [if_pos c51] at q2 | rw [if_neg c51] at q2
          show _ = (if kfa F (hE (cN Z) b.toNat 0) (hE (cN Z) b.toNat 1) (F 104 k).toNat j = 1 ∧ kft F (hE (cN Z) b.toNat 0) (hE (cN Z) b.toNat 1) ((F 104 k).toNat + j) = 1 then 1 else 0)
          unfold kho at q2
          (repeat' split at q2) <;> (split <;> omega)
        · refine e_iload rfl dX10_lineOf_84 ?_
          refine e_bipush (by decide) dX10_lineOf_86 ?_
          refine e_icmp_ne (tgt := 106) dX10_lineOf_88 (by decide) (by first | assumption | (unfold inI at *; omega)) (by first | assumption | (unfold inI at *; omega)) (fun c88 => ?_) (fun c88 => ?_)
          · refine e_iload rfl dX10_lineOf_106 ?_
            refine e_bipush (by decide) dX10_lineOf_108 ?_
            refine e_icmp_ne (tgt := 128) dX10_lineOf_110 (by decide) (by first | assumption | (unfold inI at *; omega)) (by first | assumption | (unfold inI at *; omega)) (fun c110 => ?_) (fun c110 => ?_)
            · refine e_iload rfl dX10_lineOf_128 ?_
              refine e_aload_n rfl dX10_lineOf_130 ?_
              refine e_getf fdX10_40 dX10_lineOf_131 kmh_97 rfl ?_
              refine e_iload rfl dX10_lineOf_134 ?_
              refine e_mld (by first | exact ka98 | exact ka99 | exact ka100 | exact ka101 | exact ka102 | exact ka103 | exact ka104 | exact ka105 | exact ka106 | exact ka107 | exact ka108 | exact ka109 | exact ka110 | exact ka111 | exact ka112 | exact ka113) dX10_lineOf_136 (by omega) (by omega) ?_
              rw [show t.toNat = (F 104 k).toNat + j by omega]
              refine e_icmp_ne (tgt := 144) dX10_lineOf_137 (by decide) (by first | assumption | (unfold inI at *; omega)) (by first | assumption | (unfold inI at *; omega)) (fun c137 => ?_) (fun c137 => ?_)
              · refine e_iconst dX10_lineOf_144 ?_
                refine e_istore_n dX10_lineOf_145 rfl rfl ?_
                dsimp only [List.set]
                refine e_iinc dX10_lineOf_146 rfl rfl ?_
                dsimp only [List.set]
                refine e_goto (tgt := 29) dX10_lineOf_149 (by decide) ?_
                refine ih (j + 1) _ _ _ _ (by omega) (by omega) (by omega) ?_
                have q2 : kft F (hE (cN Z) b.toNat 0) (hE (cN Z) b.toNat 1) ((F 104 k).toNat + j) = kho (if F 106 ((F 104 k).toNat + j) = 121 then (hE (cN Z) b.toNat 0) else (hE (cN Z) b.toNat 1)) (F 107 ((F 104 k).toNat + j)) (F 108 ((F 104 k).toNat + j)) := rfl
                first | rw [if_pos c51] at q2 | rw [if_neg c51] at q2
                show _ = (if kfa F (hE (cN Z) b.toNat 0) (hE (cN Z) b.toNat 1) (F 104 k).toNat j = 1 ∧ kft F (hE (cN Z) b.toNat 0) (hE (cN Z) b.toNat 1) ((F 104 k).toNat + j) = 1 then 1 else 0)
                unfold kho at q2
                (repeat' split at q2) <;> (split <;> omega)
              · refine e_iconst dX10_lineOf_140 ?_
                refine e_goto (tgt := 145) dX10_lineOf_141 (by decide) ?_
                refine e_istore_n dX10_lineOf_145 rfl rfl ?_
                dsimp only [List.set]
                refine e_iinc dX10_lineOf_146 rfl rfl ?_
                dsimp only [List.set]
                refine e_goto (tgt := 29) dX10_lineOf_149 (by decide) ?_
                refine ih (j + 1) _ _ _ _ (by omega) (by omega) (by omega) ?_
                have q2 : kft F (hE (cN Z) b.toNat 0) (hE (cN Z) b.toNat 1) ((F 104 k).toNat + j) = kho (if F 106 ((F 104 k).toNat + j) = 121 then (hE (cN Z) b.toNat 0) else (hE (cN Z) b.toNat 1)) (F 107 ((F 104 k).toNat + j)) (F 108 ((F 104 k).toNat + j)) := rfl
                first | rw [if_pos c51] at q2 | rw [if_neg c51] at q2
                show _ = (if kfa F (hE (cN Z) b.toNat 0) (hE (cN Z) b.toNat 1) (F 104 k).toNat j = 1 ∧ kft F (hE (cN Z) b.toNat 0) (hE (cN Z) b.toNat 1) ((F 104 k).toNat + j) = 1 then 1 else 0)
                unfold kho at q2
                (repeat' split at q2) <;> (split <;> omega)
            · refine e_iload rfl dX10_lineOf_113 ?_
              refine e_aload_n rfl dX10_lineOf_115 ?_
              refine e_getf fdX10_40 dX10_lineOf_116 kmh_97 rfl ?_
              refine e_iload rfl dX10_lineOf_119 ?_
              refine e_mld (by first | exact ka98 | exact ka99 | exact ka100 | exact ka101 | exact ka102 | exact ka103 | exact ka104 | exact ka105 | exact ka106 | exact ka107 | exact ka108 | exact ka109 | exact ka110 | exact ka111 | exact ka112 | exact ka113) dX10_lineOf_121 (by omega) (by omega) ?_
              rw [show t.toNat = (F 104 k).toNat + j by omega]
              refine e_icmp_le (tgt := 144) dX10_lineOf_122 (by decide) (by first | assumption | (unfold inI at *; omega)) (by first | assumption | (unfold inI at *; omega)) (fun c122 => ?_) (fun c122 => ?_)
              · refine e_iconst dX10_lineOf_144 ?_
                refine e_istore_n dX10_lineOf_145 rfl rfl ?_
                dsimp only [List.set]
                refine e_iinc dX10_lineOf_146 rfl rfl ?_
                dsimp only [List.set]
                refine e_goto (tgt := 29) dX10_lineOf_149 (by decide) ?_
                refine ih (j + 1) _ _ _ _ (by omega) (by omega) (by omega) ?_
                have q2 : kft F (hE (cN Z) b.toNat 0) (hE (cN Z) b.toNat 1) ((F 104 k).toNat + j) = kho (if F 106 ((F 104 k).toNat + j) = 121 then (hE (cN Z) b.toNat 0) else (hE (cN Z) b.toNat 1)) (F 107 ((F 104 k).toNat + j)) (F 108 ((F 104 k).toNat + j)) := rfl
                first | rw [if_pos c51] at q2 | rw [if_neg c51] at q2
                show _ = (if kfa F (hE (cN Z) b.toNat 0) (hE (cN Z) b.toNat 1) (F 104 k).toNat j = 1 ∧ kft F (hE (cN Z) b.toNat 0) (hE (cN Z) b.toNat 1) ((F 104 k).toNat + j) = 1 then 1 else 0)
                unfold kho at q2
                (repeat' split at q2) <;> (split <;> omega)
              · refine e_goto (tgt := 140) dX10_lineOf_125 (by decide) ?_
                refine e_iconst dX10_lineOf_140 ?_
                refine e_goto (tgt := 145) dX10_lineOf_141 (by decide) ?_
                refine e_istore_n dX10_lineOf_145 rfl rfl ?_
                dsimp only [List.set]
                refine e_iinc dX10_lineOf_146 rfl rfl ?_
                dsimp only [List.set]
                refine e_goto (tgt := 29) dX10_lineOf_149 (by decide) ?_
                refine ih (j + 1) _ _ _ _ (by omega) (by omega) (by omega) ?_
                have q2 : kft F (hE (cN Z) b.toNat 0) (hE (cN Z) b.toNat 1) ((F 104 k).toNat + j) = kho (if F 106 ((F 104 k).toNat + j) = 121 then (hE (cN Z) b.toNat 0) else (hE (cN Z) b.toNat 1)) (F 107 ((F 104 k).toNat + j)) (F 108 ((F 104 k).toNat + j)) := rfl
                first | rw [if_pos c51] at q2 | rw [if_neg c51] at q2
                show _ = (if kfa F (hE (cN Z) b.toNat 0) (hE (cN Z) b.toNat 1) (F 104 k).toNat j = 1 ∧ kft F (hE (cN Z) b.toNat 0) (hE (cN Z) b.toNat 1) ((F 104 k).toNat + j) = 1 then 1 else 0)
                unfold kho at q2
                (repeat' split at q2) <;> (split <;> omega)
          · refine e_iload rfl dX10_lineOf_91 ?_
            refine e_aload_n rfl dX10_lineOf_93 ?_
            refine e_getf fdX10_40 dX10_lineOf_94 kmh_97 rfl ?_
            refine e_iload rfl dX10_lineOf_97 ?_
            refine e_mld (by first | exact ka98 | exact ka99 | exact ka100 | exact ka101 | exact ka102 | exact ka103 | exact ka104 | exact ka105 | exact ka106 | exact ka107 | exact ka108 | exact ka109 | exact ka110 | exact ka111 | exact ka112 | exact ka113) dX10_lineOf_99 (by omega) (by omega) ?_
            rw [show t.toNat = (F 104 k).toNat + j by omega]
            refine e_icmp_ge (tgt := 144) dX10_lineOf_100 (by decide) (by first | assumption | (unfold inI at *; omega)) (by first | assumption | (unfold inI at *; omega)) (fun c100 => ?_) (fun c100 => ?_)
            · refine e_iconst dX10_lineOf_144 ?_
              refine e_istore_n dX10_lineOf_145 rfl rfl ?_
              dsimp only [List.set]
              refine e_iinc dX10_lineOf_146 rfl rfl ?_
              dsimp only [List.set]
              refine e_goto (tgt := 29) dX10_lineOf_149 (by decide) ?_
              refine ih (j + 1) _ _ _ _ (by omega) (by omega) (by omega) ?_
              have q2 : kft F (hE (cN Z) b.toNat 0) (hE (cN Z) b.toNat 1) ((F 104 k).toNat + j) = kho (if F 106 ((F 104 k).toNat + j) = 121 then (hE (cN Z) b.toNat 0) else (hE (cN Z) b.toNat 1)) (F 107 ((F 104 k).toNat + j)) (F 108 ((F 104 k).toNat + j)) := rfl
              first | rw [if_pos c51] at q2 | rw [if_neg c51] at q2
              show _ = (if kfa F (hE (cN Z) b.toNat 0) (hE (cN Z) b.toNat 1) (F 104 k).toNat j = 1 ∧ kft F (hE (cN Z) b.toNat 0) (hE (cN Z) b.toNat 1) ((F 104 k).toNat + j) = 1 then 1 else 0)
              unfold kho at q2
              (repeat' split at q2) <;> (split <;> omega)
            · refine e_goto (tgt := 140) dX10_lineOf_103 (by decide) ?_
              refine e_iconst dX10_lineOf_140 ?_
              refine e_goto (tgt := 145) dX10_lineOf_141 (by decide) ?_
              refine e_istore_n dX10_lineOf_145 rfl rfl ?_
              dsimp only [List.set]
              refine e_iinc dX10_lineOf_146 rfl rfl ?_
              dsimp only [List.set]
              refine e_goto (tgt := 29) dX10_lineOf_149 (by decide) ?_
              refine ih (j + 1) _ _ _ _ (by omega) (by omega) (by omega) ?_
              have q2 : kft F (hE (cN Z) b.toNat 0) (hE (cN Z) b.toNat 1) ((F 104 k).toNat + j) = kho (if F 106 ((F 104 k).toNat + j) = 121 then (hE (cN Z) b.toNat 0) else (hE (cN Z) b.toNat 1)) (F 107 ((F 104 k).toNat + j)) (F 108 ((F 104 k).toNat + j)) := rfl
              first | rw [if_pos c51] at q2 | rw [if_neg c51] at q2
              show _ = (if kfa F (hE (cN Z) b.toNat 0) (hE (cN Z) b.toNat 1) (F 104 k).toNat j = 1 ∧ kft F (hE (cN Z) b.toNat 0) (hE (cN Z) b.toNat 1) ((F 104 k).toNat + j) = 1 then 1 else 0)
              unfold kho at q2
              (repeat' split at q2) <;> (split <;> omega)
      · refine e_aload_n rfl dX10_lineOf_54 ?_
        refine e_getf fdX10_13 dX10_lineOf_55 kmh_97 rfl ?_
        refine e_iload_n rfl dX10_lineOf_58 ?_
        refine e_mld (by first | exact ka98 | exact ka99 | exact ka100 | exact ka101 | exact ka102 | exact ka103 | exact ka104 | exact ka105 | exact ka106 | exact ka107 | exact ka108 | exact ka109 | exact ka110 | exact ka111 | exact ka112 | exact ka113) dX10_lineOf_59 (by omega) (by omega) ?_
        rw [(md_e md (by omega)).1]
        refine e_goto (tgt := 69) dX10_lineOf_60 (by decide) ?_
        refine e_istore dX10_lineOf_69 rfl rfl ?_
        dsimp only [List.set]
        refine e_aload_n rfl dX10_lineOf_71 ?_
        refine e_getf fdX10_37 dX10_lineOf_72 kmh_97 rfl ?_
        refine e_iload rfl dX10_lineOf_75 ?_
        refine e_mld (by first | exact ka98 | exact ka99 | exact ka100 | exact ka101 | exact ka102 | exact ka103 | exact ka104 | exact ka105 | exact ka106 | exact ka107 | exact ka108 | exact ka109 | exact ka110 | exact ka111 | exact ka112 | exact ka113) dX10_lineOf_77 (by omega) (by omega) ?_
        rw [show t.toNat = (F 104 k).toNat + j by omega]
        refine e_istore dX10_lineOf_78 rfl rfl ?_
        dsimp only [List.set]
        refine e_iload_n rfl dX10_lineOf_80 ?_
        refine e_if_eq (tgt := 144) dX10_lineOf_81 (by decide) (by first | assumption | (unfold inI at *; omega)) (fun c81 => ?_) (fun c81 => ?_)
        · refine e_iconst dX10_lineOf_144 ?_
          refine e_istore_n dX10_lineOf_145 rfl rfl ?_
          dsimp only [List.set]
          refine e_iinc dX10_lineOf_146 rfl rfl ?_
          dsimp only [List.set]
          refine e_goto (tgt := 29) dX10_lineOf_149 (by decide) ?_
          refine ih (j + 1) _ _ _ _ (by omega) (by omega) (by omega) ?_
          have q2 : kft F (hE (cN Z) b.toNat 0) (hE (cN Z) b.toNat 1) ((F 104 k).toNat + j) = kho (if F 106 ((F 104 k).toNat + j) = 121 then (hE (cN Z) b.toNat 0) else (hE (cN Z) b.toNat 1)) (F 107 ((F 104 k).toNat + j)) (F 108 ((F 104 k).toNat + j)) := rfl
          first | rw [if_pos c51] at q2 | rw [if_neg c51] at q2
          show _ = (if kfa F (hE (cN Z) b.toNat 0) (hE (cN Z) b.toNat 1) (F 104 k).toNat j = 1 ∧ kft F (hE (cN Z) b.toNat 0) (hE (cN Z) b.toNat 1) ((F 104 k).toNat + j) = 1 then 1 else 0)
          unfold kho at q2
          (repeat' split at q2) <;> (split <;> omega)
        · refine e_iload rfl dX10_lineOf_84 ?_
          refine e_bipush (by decide) dX10_lineOf_86 ?_
          refine e_icmp_ne (tgt := 106) dX10_lineOf_88 (by decide) (by first | assumption | (unfold inI at *; omega)) (by first | assumption | (unfold inI at *; omega)) (fun c88 => ?_) (fun c88 => ?_)
          · refine e_iload rfl dX10_lineOf_106 ?_
            refine e_bipush (by decide) dX10_lineOf_108 ?_
            refine e_icmp_ne (tgt := 128) dX10_lineOf_110 (by decide) (by first | assumption | (unfold inI at *; omega)) (by first | assumption | (unfold inI at *; omega)) (fun c110 => ?_) (fun c110 => ?_)
            · refine e_iload rfl dX10_lineOf_128 ?_
              refine e_aload_n rfl dX10_lineOf_130 ?_
              refine e_getf fdX10_40 dX10_lineOf_131 kmh_97 rfl ?_
              refine e_iload rfl dX10_lineOf_134 ?_
              refine e_mld (by first | exact ka98 | exact ka99 | exact ka100 | exact ka101 | exact ka102 | exact ka103 | exact ka104 | exact ka105 | exact ka106 | exact ka107 | exact ka108 | exact ka109 | exact ka110 | exact ka111 | exact ka112 | exact ka113) dX10_lineOf_136 (by omega) (by omega) ?_
              rw [show t.toNat = (F 104 k).toNat + j by omega]
              refine e_icmp_ne (tgt := 144) dX10_lineOf_137 (by decide) (by first | assumption | (unfold inI at *; omega)) (by first | assumption | (unfold inI at *; omega)) (fun c137 => ?_) (fun c137 => ?_)
              · refine e_iconst dX10_lineOf_144 ?_
                refine e_istore_n dX10_lineOf_145 rfl rfl ?_
                dsimp only [List.set]
                refine e_iinc dX10_lineOf_146 rfl rfl ?_
                dsimp only [List.set]
                refine e_goto (tgt := 29) dX10_lineOf_149 (by decide) ?_
                refine ih (j + 1) _ _ _ _ (by omega) (by omega) (by omega) ?_
                have q2 : kft F (hE (cN Z) b.toNat 0) (hE (cN Z) b.toNat 1) ((F 104 k).toNat + j) = kho (if F 106 ((F 104 k).toNat + j) = 121 then (hE (cN Z) b.toNat 0) else (hE (cN Z) b.toNat 1)) (F 107 ((F 104 k).toNat + j)) (F 108 ((F 104 k).toNat + j)) := rfl
                first | rw [if_pos c51] at q2 | rw [if_neg c51] at q2
                show _ = (if kfa F (hE (cN Z) b.toNat 0) (hE (cN Z) b.toNat 1) (F 104 k).toNat j = 1 ∧ kft F (hE (cN Z) b.toNat 0) (hE (cN Z) b.toNat 1) ((F 104 k).toNat + j) = 1 then 1 else 0)
                unfold kho at q2
                (repeat' split at q2) <;> (split <;> omega)
              · refine e_iconst dX10_lineOf_140 ?_
                refine e_goto (tgt := 145) dX10_lineOf_141 (by decide) ?_
                refine e_istore_n dX10_lineOf_145 rfl rfl ?_
                dsimp only [List.set]
                refine e_iinc dX10_lineOf_146 rfl rfl ?_
                dsimp only [List.set]
                refine e_goto (tgt := 29) dX10_lineOf_149 (by decide) ?_
                refine ih (j + 1) _ _ _ _ (by omega) (by omega) (by omega) ?_
                have q2 : kft F (hE (cN Z) b.toNat 0) (hE (cN Z) b.toNat 1) ((F 104 k).toNat + j) = kho (if F 106 ((F 104 k).toNat + j) = 121 then (hE (cN Z) b.toNat 0) else (hE (cN Z) b.toNat 1)) (F 107 ((F 104 k).toNat + j)) (F 108 ((F 104 k).toNat + j)) := rfl
                first | rw [if_pos c51] at q2 | rw [if_neg c51] at q2
                show _ = (if kfa F (hE (cN Z) b.toNat 0) (hE (cN Z) b.toNat 1) (F 104 k).toNat j = 1 ∧ kft F (hE (cN Z) b.toNat 0) (hE (cN Z) b.toNat 1) ((F 104 k).toNat + j) = 1 then 1 else 0)
                unfold kho at q2
                (repeat' split at q2) <;> (split <;> omega)
            · refine e_iload rfl dX10_lineOf_113 ?_
              refine e_aload_n rfl dX10_lineOf_115 ?_
              refine e_getf fdX10_40 dX10_lineOf_116 kmh_97 rfl ?_
              refine e_iload rfl dX10_lineOf_119 ?_
              refine e_mld (by first | exact ka98 | exact ka99 | exact ka100 | exact ka101 | exact ka102 | exact ka103 | exact ka104 | exact ka105 | exact ka106 | exact ka107 | exact ka108 | exact ka109 | exact ka110 | exact ka111 | exact ka112 | exact ka113) dX10_lineOf_121 (by omega) (by omega) ?_
              rw [show t.toNat = (F 104 k).toNat + j by omega]
              refine e_icmp_le (tgt := 144) dX10_lineOf_122 (by decide) (by first | assumption | (unfold inI at *; omega)) (by first | assumption | (unfold inI at *; omega)) (fun c122 => ?_) (fun c122 => ?_)
              · refine e_iconst dX10_lineOf_144 ?_
                refine e_istore_n dX10_lineOf_145 rfl rfl ?_
                dsimp only [List.set]
                refine e_iinc dX10_lineOf_146 rfl rfl ?_
                dsimp only [List.set]
                refine e_goto (tgt := 29) dX10_lineOf_149 (by decide) ?_
                refine ih (j + 1) _ _ _ _ (by omega) (by omega) (by omega) ?_
                have q2 : kft F (hE (cN Z) b.toNat 0) (hE (cN Z) b.toNat 1) ((F 104 k).toNat + j) = kho (if F 106 ((F 104 k).toNat + j) = 121 then (hE (cN Z) b.toNat 0) else (hE (cN Z) b.toNat 1)) (F 107 ((F 104 k).toNat + j)) (F 108 ((F 104 k).toNat + j)) := rfl
                first | rw [if_pos c51] at q2 | rw [if_neg c51] at q2
                show _ = (if kfa F (hE (cN Z) b.toNat 0) (hE (cN Z) b.toNat 1) (F 104 k).toNat j = 1 ∧ kft F (hE (cN Z) b.toNat 0) (hE (cN Z) b.toNat 1) ((F 104 k).toNat + j) = 1 then 1 else 0)
                unfold kho at q2
                (repeat' split at q2) <;> (split <;> omega)
              · refine e_goto (tgt := 140) dX10_lineOf_125 (by decide) ?_
                refine e_iconst dX10_lineOf_140 ?_
                refine e_goto (tgt := 145) dX10_lineOf_141 (by decide) ?_
                refine e_istore_n dX10_lineOf_145 rfl rfl ?_
                dsimp only [List.set]
                refine e_iinc dX10_lineOf_146 rfl rfl ?_
                dsimp only [List.set]
                refine e_goto (tgt := 29) dX10_lineOf_149 (by decide) ?_
                refine ih (j + 1) _ _ _ _ (by omega) (by omega) (by omega) ?_
                have q2 : kft F (hE (cN Z) b.toNat 0) (hE (cN Z) b.toNat 1) ((F 104 k).toNat + j) = kho (if F 106 ((F 104 k).toNat + j) = 121 then (hE (cN Z) b.toNat 0) else (hE (cN Z) b.toNat 1)) (F 107 ((F 104 k).toNat + j)) (F 108 ((F 104 k).toNat + j)) := rfl
                first | rw [if_pos c51] at q2 | rw [if_neg c51] at q2
                show _ = (if kfa F (hE (cN Z) b.toNat 0) (hE (cN Z) b.toNat 1) (F 104 k).toNat j = 1 ∧ kft F (hE (cN Z) b.toNat 0) (hE (cN Z) b.toNat 1) ((F 104 k).toNat + j) = 1 then 1 else 0)
                unfold kho at q2
                (repeat' split at q2) <;> (split <;> omega)
          · refine e_iload rfl dX10_lineOf_91 ?_
            refine e_aload_n rfl dX10_lineOf_93 ?_
            refine e_getf fdX10_40 dX10_lineOf_94 kmh_97 rfl ?_
            refine e_iload rfl dX10_lineOf_97 ?_
            refine e_mld (by first | exact ka98 | exact ka99 | exact ka100 | exact ka101 | exact ka102 | exact ka103 | exact ka104 | exact ka105 | exact ka106 | exact ka107 | exact ka108 | exact ka109 | exact ka110 | exact ka111 | exact ka112 | exact ka113) dX10_lineOf_99 (by omega) (by omega) ?_
            rw [show t.toNat = (F 104 k).toNat + j by omega]
            refine e_icmp_ge (tgt := 144) dX10_lineOf_100 (by decide) (by first | assumption | (unfold inI at *; omega)) (by first | assumption | (unfold inI at *; omega)) (fun c100 => ?_) (fun c100 => ?_)
            · refine e_iconst dX10_lineOf_144 ?_
              refine e_istore_n dX10_lineOf_145 rfl rfl ?_
              dsimp only [List.set]
              refine e_iinc dX10_lineOf_146 rfl rfl ?_
              dsimp only [List.set]
              refine e_goto (tgt := 29) dX10_lineOf_149 (by decide) ?_
              refine ih (j + 1) _ _ _ _ (by omega) (by omega) (by omega) ?_
              have q2 : kft F (hE (cN Z) b.toNat 0) (hE (cN Z) b.toNat 1) ((F 104 k).toNat + j) = kho (if F 106 ((F 104 k).toNat + j) = 121 then (hE (cN Z) b.toNat 0) else (hE (cN Z) b.toNat 1)) (F 107 ((F 104 k).toNat + j)) (F 108 ((F 104 k).toNat + j)) := rfl
              first | rw [if_pos c51] at q2 | rw [if_neg c51] at q2
              show _ = (if kfa F (hE (cN Z) b.toNat 0) (hE (cN Z) b.toNat 1) (F 104 k).toNat j = 1 ∧ kft F (hE (cN Z) b.toNat 0) (hE (cN Z) b.toNat 1) ((F 104 k).toNat + j) = 1 then 1 else 0)
              unfold kho at q2
              (repeat' split at q2) <;> (split <;> omega)
            · refine e_goto (tgt := 140) dX10_lineOf_103 (by decide) ?_
              refine e_iconst dX10_lineOf_140 ?_
              refine e_goto (tgt := 145) dX10_lineOf_141 (by decide) ?_
              refine e_istore_n dX10_lineOf_145 rfl rfl ?_
              dsimp only [List.set]
              refine e_iinc dX10_lineOf_146 rfl rfl ?_
              dsimp only [List.set]
              refine e_goto (tgt := 29) dX10_lineOf_149 (by decide) ?_
              refine ih (j + 1) _ _ _ _ (by omega) (by omega) (by omega) ?_
              have q2 : kft F (hE (cN Z) b.toNat 0) (hE (cN Z) b.toNat 1) ((F 104 k).toNat + j) = kho (if F 106 ((F 104 k).toNat + j) = 121 then (hE (cN Z) b.toNat 0) else (hE (cN Z) b.toNat 1)) (F 107 ((F 104 k).toNat + j)) (F 108 ((F 104 k).toNat + j)) := rfl
              first | rw [if_pos c51] at q2 | rw [if_neg c51] at q2
              show _ = (if kfa F (hE (cN Z) b.toNat 0) (hE (cN Z) b.toNat 1) (F 104 k).toNat j = 1 ∧ kft F (hE (cN Z) b.toNat 0) (hE (cN Z) b.toNat 1) ((F 104 k).toNat + j) = 1 then 1 else 0)
              unfold kho at q2
              (repeat' split at q2) <;> (split <;> omega)
set_option maxHeartbeats 4000000 in
set_option maxRecDepth 100000 in
theorem j_line_lp {G : kG} {d : Nat} {h : Nat → Option kC} {n : Nat} {q : Nat → Int} {F : Nat → Nat → Int} {Z : kCs} (md : rMD q F Z) (ok : kCok Z) {b : Int} (hby : 0 ≤ b ∧ b ≤ 5)  : ∀ (f : Nat) (k : Nat) (z : Int) (e3 e4 e5 e6 : Option Value), z = (k : Int) → z + f = q 9 → kE G mX10_lineOf d 0 0 2 [some (.ref (gB G + 97)), some (.int (jI b)), some (.int (jI z)), e3, e4, e5, e6] [] (kmh G h q F) n (kre (some (.int (jI (if hE (cN Z) b.toNat 2 = 0 then kmini 63 (klD F (hE (cN Z) b.toNat 0) (hE (cN Z) b.toNat 1) f k) else 0)))) (kmh G h q F) n) := by
  obtain ⟨⟨y00, y01⟩, ⟨y10, y11⟩, ⟨y20, y21⟩⟩ := id (ok.1.2.1 b.toNat (by omega))
  have rd := md.1.2.2.2.1
  have r20 := rd.2.1
  have r21 := rd.2.2.1
  intro f
  induction f with
  | zero =>
    intro k z e3 e4 e5 e6 g1 g2
    refine e_iload_n rfl dX10_lineOf_2 ?_
    refine e_aload_n rfl dX10_lineOf_3 ?_
    refine e_getf fdX10_131 dX10_lineOf_4 kmh_97 rfl ?_
    refine e_icmp_ge (tgt := 185) dX10_lineOf_7 (by decide) (by first | assumption | (unfold inI at *; omega)) (by first | assumption | (unfold inI at *; omega)) (fun c7 => ?_) (fun c7 => ?_)
    · refine e_iconst dX10_lineOf_185 ?_
      refine e_ireturn dX10_lineOf_186 rfl rfl ?_
      refine ⟨?_, rfl, rfl⟩
      unfold klD kmini
      (repeat' split) <;> first | rfl | (exfalso; omega)
    · exact absurd c7 (by omega)
  | succ f ih =>
    intro k z e3 e4 e5 e6 g1 g2
    subst g1
    have r8 := rd.2.2.2.2.2.1 k (by omega)
    have r1 := rd.2.2.2.2.1 k (by omega)
    have r2 := rd.2.2.2.2.1 (k + 1) (by omega)
    have r5 := kfa_in F (hE (cN Z) b.toNat 0) (hE (cN Z) b.toNat 1) (F 104 k).toNat ((F 104 (k + 1)).toNat - (F 104 k).toNat)
    have r6 : (kcs F (hE (cN Z) b.toNat 0) (hE (cN Z) b.toNat 1) k) = 0 ∨ (kcs F (hE (cN Z) b.toNat 0) (hE (cN Z) b.toNat 1) k) = 1 := r5
    refine e_iload_n rfl dX10_lineOf_2 ?_
    refine e_aload_n rfl dX10_lineOf_3 ?_
    refine e_getf fdX10_131 dX10_lineOf_4 kmh_97 rfl ?_
    refine e_icmp_ge (tgt := 185) dX10_lineOf_7 (by decide) (by first | assumption | (unfold inI at *; omega)) (by first | assumption | (unfold inI at *; omega)) (fun c7 => ?_) (fun c7 => ?_)
    · exact absurd c7 (by omega)
    · refine e_aload_n rfl dX10_lineOf_10 ?_
      refine e_getf fdX10_19 dX10_lineOf_11 kmh_97 rfl ?_
      refine e_iload_n rfl dX10_lineOf_14 ?_
      refine e_mld (by first | exact ka98 | exact ka99 | exact ka100 | exact ka101 | exact ka102 | exact ka103 | exact ka104 | exact ka105 | exact ka106 | exact ka107 | exact ka108 | exact ka109 | exact ka110 | exact ka111 | exact ka112 | exact ka113) dX10_lineOf_15 (by omega) (by omega) ?_
      rw [(md_e md (by omega)).2.2]
      refine e_if_ne (tgt := 185) dX10_lineOf_16 (by decide) (by first | assumption | (unfold inI at *; omega)) (fun c16 => ?_) (fun c16 => ?_)
      · refine e_iconst dX10_lineOf_185 ?_
        refine e_ireturn dX10_lineOf_186 rfl rfl ?_
        exact ⟨by rw [if_neg (by assumption)], rfl, rfl⟩
      · refine e_iconst dX10_lineOf_19 ?_
        refine e_istore_n dX10_lineOf_20 rfl rfl ?_
        dsimp only [List.set]
        refine e_aload_n rfl dX10_lineOf_21 ?_
        refine e_getf fdX10_28 dX10_lineOf_22 kmh_97 rfl ?_
        refine e_iload_n rfl dX10_lineOf_25 ?_
        refine e_mld (by first | exact ka98 | exact ka99 | exact ka100 | exact ka101 | exact ka102 | exact ka103 | exact ka104 | exact ka105 | exact ka106 | exact ka107 | exact ka108 | exact ka109 | exact ka110 | exact ka111 | exact ka112 | exact ka113) dX10_lineOf_26 (by omega) (by omega) ?_
        rw [Int.toNat_natCast]
        refine e_istore dX10_lineOf_27 rfl rfl ?_
        dsimp only [List.set]
        refine j_line_in md ok hby (k := k) (by omega) (fun t9 e5 e6 => ?_) 100 0 _ _ _ _ (by omega) (by unfold kmaxi; split <;> omega) (by unfold kmaxi; split <;> omega) rfl
        refine e_iload_n rfl dX10_lineOf_152 ?_
        refine e_if_eq (tgt := 179) dX10_lineOf_153 (by decide) (by have := kfa_in F (hE (cN Z) b.toNat 0) (hE (cN Z) b.toNat 1) (F 104 k).toNat ((F 104 (k + 1)).toNat - (F 104 k).toNat); unfold kcs inI; omega) (fun c153 => ?_) (fun c153 => ?_)
        · refine e_iinc dX10_lineOf_179 rfl rfl ?_
          dsimp only [List.set]
          refine e_goto (tgt := 2) dX10_lineOf_182 (by decide) ?_
          refine kE.mono (ih (k + 1) _ _ _ _ _ (by omega) (by omega)) (fun r h' n' hq => ?_)
          obtain ⟨w1, w2, w3⟩ := hq
          refine ⟨?_, w2, w3⟩
          rw [w1]
          conv => rhs; unfold klD
          rw [if_neg (show ¬ (kcs F (hE (cN Z) b.toNat 0) (hE (cN Z) b.toNat 1) k) = 1 by omega)]
        · refine e_aload_n rfl dX10_lineOf_156 ?_
          refine e_getf fdX10_31 dX10_lineOf_157 kmh_97 rfl ?_
          refine e_iload_n rfl dX10_lineOf_160 ?_
          refine e_mld (by first | exact ka98 | exact ka99 | exact ka100 | exact ka101 | exact ka102 | exact ka103 | exact ka104 | exact ka105 | exact ka106 | exact ka107 | exact ka108 | exact ka109 | exact ka110 | exact ka111 | exact ka112 | exact ka113) dX10_lineOf_161 (by omega) (by omega) ?_
          rw [Int.toNat_natCast]
          refine e_bipush (by decide) dX10_lineOf_162 ?_
          refine e_icmp_le (tgt := 172) dX10_lineOf_164 (by decide) (by first | assumption | (unfold inI at *; omega)) (by first | assumption | (unfold inI at *; omega)) (fun c164 => ?_) (fun c164 => ?_)
          · refine e_aload_n rfl dX10_lineOf_172 ?_
            refine e_getf fdX10_31 dX10_lineOf_173 kmh_97 rfl ?_
            refine e_iload_n rfl dX10_lineOf_176 ?_
            refine e_mld (by first | exact ka98 | exact ka99 | exact ka100 | exact ka101 | exact ka102 | exact ka103 | exact ka104 | exact ka105 | exact ka106 | exact ka107 | exact ka108 | exact ka109 | exact ka110 | exact ka111 | exact ka112 | exact ka113) dX10_lineOf_177 (by omega) (by omega) ?_
            rw [Int.toNat_natCast]
            refine e_ireturn dX10_lineOf_178 rfl rfl ?_
            refine ⟨?_, rfl, rfl⟩
            rw [if_pos (by assumption)]
            unfold klD
            rw [if_pos (by omega)]
            congr 3
            unfold kmini
            split <;> omega
          · refine e_bipush (by decide) dX10_lineOf_167 ?_
            refine e_goto (tgt := 178) dX10_lineOf_169 (by decide) ?_
            refine e_ireturn dX10_lineOf_178 rfl rfl ?_
            refine ⟨?_, rfl, rfl⟩
            rw [if_pos (by assumption)]
            unfold klD
            rw [if_pos (by omega)]
            congr 3
            unfold kmini
            split <;> omega
set_option maxHeartbeats 4000000 in
set_option maxRecDepth 100000 in
theorem j_lineOf {G : kG} {d : Nat} {h : Nat → Option kC} {n : Nat} {q : Nat → Int} {F : Nat → Nat → Int} {Z : kCs} (md : rMD q F Z) (ok : kCok Z) {b : Int} (hby : 0 ≤ b ∧ b ≤ 5)  : kCall G mX10_lineOf d 0 0 [.ref (gB G + 97), .int (jI b)] (kmh G h q F) n (kre (some (.int (jI (kln (hE (cN Z) b.toNat) (hR (cN Z)))))) (kmh G h q F) n) := by
  show kE G mX10_lineOf d 0 0 0 [some (.ref (gB G + 97)), some (.int (jI b)), none, none, none, none, none] [] (kmh G h q F) n _
  have rd := md.1.2.2.2.1
  refine e_iconst dX10_lineOf_0 ?_
  refine e_istore_n dX10_lineOf_1 rfl rfl ?_
  dsimp only [List.set]
  unfold kln
  rw [← rd.2.2.2.2.2.2.2]
  exact j_line_lp md ok hby (q 9).toNat 0 0 _ _ _ _ (by omega) (by have := rd.2.1; omega)
set_option maxHeartbeats 4000000 in
set_option maxRecDepth 100000 in
theorem j_line {G : kG} {d : Nat} {h : Nat → Option kC} {n : Nat} {q : Nat → Int} {F : Nat → Nat → Int} {Z : kCs} (md : rMD q F Z) (ok : kCok Z)  {b : Int} (hb : inI b) : kCall G mX10_line (d + 4) 0 0 [.ref (gB G + 97), .int (jI b)] (kmh G h q F) n (kQm G h n (.int (jI (a_line Z b))) (Z)) := by
  show kE G mX10_line (d + 4) 0 0 0 [some (.ref (gB G + 97)), some (.int (jI b))] [] (kmh G h q F) n _
  refine e_iload_n rfl dX10_line_0 ?_
  refine eS1 mtX10_isBook msX10_isBook lkX10_76 dX10_line_1 rfl rfl (j_isBook (by first | assumption | (unfold inI at *; omega))) ?_
  dsimp only [Option.toList, List.cons_append, List.nil_append]
  refine e_ifeqP (tgt := 15) dX10_line_4 (by decide) (fun c4 => ?_) (fun c4 => ?_)
  · refine e_iconst dX10_line_15 ?_
    refine e_ireturn dX10_line_16 rfl rfl ?_
    exact kQm_0 (by unfold a_line; first | (rw [if_pos (by omega)]; done) | rw [if_neg (by omega)]) md
  · refine e_aload_n rfl dX10_line_7 ?_
    refine e_iload_n rfl dX10_line_8 ?_
    refine eV1 mtX10_lineOf miX10_lineOf lkX10_146 dX10_line_9 kmh_97 rfl rfl rfl (j_lineOf md ok (by omega)) ?_
    dsimp only [Option.toList, List.cons_append, List.nil_append]
    refine e_goto (tgt := 16) dX10_line_12 (by decide) ?_
    refine e_ireturn dX10_line_16 rfl rfl ?_
    exact kQm_0 (by unfold a_line; first | (rw [if_pos (by omega)]; done) | rw [if_neg (by omega)]) md
