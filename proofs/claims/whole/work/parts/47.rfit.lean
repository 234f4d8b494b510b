/-! THE REFERENCE: FIT -/
def kset5 (q : Nat → Int) (t : Int × Int × Int × Int × Int) : Nat → Int := fun j => if j = 18 then t.1 else if j = 19 then t.2.1 else if j = 20 then t.2.2.1 else if j = 21 then t.2.2.2.1 else if j = 22 then t.2.2.2.2 else q j
theorem ks_18 {q : Nat → Int} {t : Int × Int × Int × Int × Int} : kset5 q t 18 = t.1 := rfl
theorem ks_19 {q : Nat → Int} {t : Int × Int × Int × Int × Int} : kset5 q t 19 = t.2.1 := rfl
theorem ks_20 {q : Nat → Int} {t : Int × Int × Int × Int × Int} : kset5 q t 20 = t.2.2.1 := rfl
theorem ks_21 {q : Nat → Int} {t : Int × Int × Int × Int × Int} : kset5 q t 21 = t.2.2.2.1 := rfl
theorem ks_22 {q : Nat → Int} {t : Int × Int × Int × Int × Int} : kset5 q t 22 = t.2.2.2.2 := rfl
theorem ks_u3 {q : Nat → Int} {t : Int × Int × Int × Int × Int} {x y z : Int} : up (up (up (kset5 q t) 18 x) 19 y) 20 z = kset5 q (x, y, z, t.2.2.2) := by
  funext j
  unfold up kset5
  by_cases e1 : j = 18
  · subst e1; rfl
  · by_cases e2 : j = 19
    · subst e2; rfl
    · by_cases e3 : j = 20
      · subst e3; rfl
      · simp only [e1, e2, e3, if_false]
theorem ks_n {q : Nat → Int} {z : Int} : up q 20 z = kset5 q (q 18, q 19, z, q 21, q 22) := by
  funext j
  unfold up kset5
  by_cases e1 : j = 18
  · subst e1; rfl
  · by_cases e2 : j = 19
    · subst e2; rfl
    · by_cases e3 : j = 20
      · subst e3; rfl
      · by_cases e4 : j = 21
        · subst e4; rfl
        · by_cases e5 : j = 22
          · subst e5; rfl
          · simp only [e1, e2, e3, e4, e5, if_false]
theorem ks_u21 {q : Nat → Int} {t : Int × Int × Int × Int × Int} {z : Int} : up (kset5 q t) 21 z = kset5 q (t.1, t.2.1, t.2.2.1, z, t.2.2.2.2) := by
  funext j
  unfold up kset5
  by_cases e1 : j = 21
  · subst e1; rfl
  · simp only [e1, if_false]
theorem ks_u22 {q : Nat → Int} {t : Int × Int × Int × Int × Int} {z : Int} : up (kset5 q t) 22 z = kset5 q (t.1, t.2.1, t.2.2.1, t.2.2.2.1, z) := by
  funext j
  unfold up kset5
  by_cases e1 : j = 22
  · subst e1; rfl
  · simp only [e1, if_false]
theorem rMD_5 {q : Nat → Int} {F : Nat → Nat → Int} {Z : kCs} (md : rMD q F Z) (t : Int × Int × Int × Int × Int) : rMD (kset5 q t) F Z := rMD_q md rfl rfl rfl rfl
set_option maxHeartbeats 4000000 in
set_option maxRecDepth 100000 in
theorem j_keepBest {G : kG} {d : Nat} {h : Nat → Option kC} {n : Nat} {q : Nat → Int} {F : Nat → Nat → Int} {t : Int × Int × Int × Int × Int} (hq : t.2.2.1 = -6 ∨ 0 ≤ t.2.2.1) (hi : inI t.2.2.1) {x m so : Int} (hs : so = -5 ∨ 0 ≤ so) (hsi : inI so) : kCall G mX10_keepBest d 0 0 [.ref (gB G + 97), .int (jI x), .int (jI m), .int (jI so)] (kmh G h (kset5 q t) F) n (kre none (kmh G h (kset5 q (kof t x m so)) F) n) := by
  show kE G mX10_keepBest d 0 0 0 [some (.ref (gB G + 97)), some (.int (jI x)), some (.int (jI m)), some (.int (jI so))] [] (kmh G h (kset5 q t) F) n _
  refine e_iload_n rfl dX10_keepBest_0 ?_
  refine e_if_lt (tgt := 34) dX10_keepBest_1 (by decide) (by first | assumption | (unfold inI at *; omega)) (fun c1 => ?_) (fun c1 => ?_)
  · refine e_return dX10_keepBest_34 rfl ?_
    refine ⟨rfl, ?_, rfl⟩
    unfold kof
    first | (rw [if_pos (by omega), ks_u3]; done) | (rw [if_neg (by omega)])
  · refine e_aload_n rfl dX10_keepBest_4 ?_
    refine e_getf fdX10_179 dX10_keepBest_5 kmh_97 rfl ?_
    rw [ks_20]
    refine e_if_lt (tgt := 19) dX10_keepBest_8 (by decide) (by first | assumption | (unfold inI at *; omega)) (fun c8 => ?_) (fun c8 => ?_)
    · refine e_aload_n rfl dX10_keepBest_19 ?_
      refine e_iload_n rfl dX10_keepBest_20 ?_
      refine e_mput pfX10_182 dX10_keepBest_21 kml_18 rfl rfl rfl ?_
      refine e_aload_n rfl dX10_keepBest_24 ?_
      refine e_iload_n rfl dX10_keepBest_25 ?_
      refine e_mput pfX10_185 dX10_keepBest_26 kml_19 rfl rfl rfl ?_
      refine e_aload_n rfl dX10_keepBest_29 ?_
      refine e_iload_n rfl dX10_keepBest_30 ?_
      refine e_mput pfX10_179 dX10_keepBest_31 kml_20 rfl rfl rfl ?_
      refine e_return dX10_keepBest_34 rfl ?_
      refine ⟨rfl, ?_, rfl⟩
      unfold kof
      first | (rw [if_pos (by omega), ks_u3]; done) | (rw [if_neg (by omega)])
    · refine e_iload_n rfl dX10_keepBest_11 ?_
      refine e_aload_n rfl dX10_keepBest_12 ?_
      refine e_getf fdX10_179 dX10_keepBest_13 kmh_97 rfl ?_
      rw [ks_20]
      refine e_icmp_ge (tgt := 34) dX10_keepBest_16 (by decide) (by first | assumption | (unfold inI at *; omega)) (by first | assumption | (unfold inI at *; omega)) (fun c16 => ?_) (fun c16 => ?_)
      · refine e_return dX10_keepBest_34 rfl ?_
        refine ⟨rfl, ?_, rfl⟩
        unfold kof
        first | (rw [if_pos (by omega), ks_u3]; done) | (rw [if_neg (by omega)])
      · refine e_aload_n rfl dX10_keepBest_19 ?_
        refine e_iload_n rfl dX10_keepBest_20 ?_
        refine e_mput pfX10_182 dX10_keepBest_21 kml_18 rfl rfl rfl ?_
        refine e_aload_n rfl dX10_keepBest_24 ?_
        refine e_iload_n rfl dX10_keepBest_25 ?_
        refine e_mput pfX10_185 dX10_keepBest_26 kml_19 rfl rfl rfl ?_
        refine e_aload_n rfl dX10_keepBest_29 ?_
        refine e_iload_n rfl dX10_keepBest_30 ?_
        refine e_mput pfX10_179 dX10_keepBest_31 kml_20 rfl rfl rfl ?_
        refine e_return dX10_keepBest_34 rfl ?_
        refine ⟨rfl, ?_, rfl⟩
        unfold kof
        first | (rw [if_pos (by omega), ks_u3]; done) | (rw [if_neg (by omega)])
set_option maxHeartbeats 4000000 in
set_option maxRecDepth 100000 in
theorem j_fit_lp {G : kG} {d : Nat} {h : Nat → Option kC} {n : Nat} {q : Nat → Int} {F : Nat → Nat → Int} {Z : kCs} (md : rMD q F Z) (ok : kCok Z) {b : Int} (hby : 0 ≤ b ∧ b ≤ 5) {w : Int} (w0 : 1 ≤ w ∧ w ≤ 8) (hch : ∀ k : Nat, (k : Int) ≤ 2 * w → F 111 k = kch w k) {fl : Int × Int}  : ∀ (f : Nat) (i : Nat) (z : Int) (t : Int × Int × Int × Int × Int), z = (i : Int) → i ≤ 64 → 64 - (i : Int) ≤ f → kJm (hM (cN Z) b.toNat) w (kln (hE (cN Z) b.toNat) (hR (cN Z))) (hW (cN Z) 0) fl i t → kE G mX10_findFit (d + 3) 0 0 27 [some (.ref (gB G + 97)), some (.int (jI b)), some (.int (jI w)), some (.int (jI (ksum (hM (cN Z) b.toNat) 64))), some (.int (jI (kln (hE (cN Z) b.toNat) (hR (cN Z))))), some (.int (jI z))] [] (kmh G h (kset5 q t) F) n (fun r h' n' => ∃ t' : Int × Int × Int × Int × Int, r = none ∧ h' = kmh G h (kset5 q t') F ∧ n' = n ∧ kJm (hM (cN Z) b.toNat) w (kln (hE (cN Z) b.toNat) (hR (cN Z))) (hW (cN Z) 0) fl 64 t') := by
  have za := ok.1.1 b.toNat (by omega)
  have zA := kA_sum za
  obtain ⟨⟨k0, k1⟩, -⟩ := id ok.1.2.2.1
  obtain ⟨w1, w8⟩ := id w0
  have tl := kln_in (E := hE (cN Z) b.toNat) ok.1.2.2.2.1
  intro f
  induction f with
  | zero =>
    intro i z t g1 g2 g3 g4
    refine e_iload rfl dX10_findFit_27 ?_
    refine e_bipush (by decide) dX10_findFit_29 ?_
    refine e_icmp_ge (tgt := 59) dX10_findFit_31 (by decide) (by first | assumption | (unfold inI at *; omega)) (by first | assumption | (unfold inI at *; omega)) (fun c31 => ?_) (fun c31 => ?_)
    · refine e_return dX10_findFit_59 rfl ?_
      exact ⟨t, rfl, rfl, rfl, by rw [← show i = 64 by omega]; exact g4⟩
    · exact absurd c31 (by omega)
  | succ f ih =>
    intro i z t g1 g2 g3 g4
    subst g1
    have q8 := kmf_in za (m := (i : Int)) (l := (kln (hE (cN Z) b.toNat) (hR (cN Z)))) (k := (hW (cN Z) 0)) w1 w8 k0 k1
    have q7 : (t.2.2.1 = -6 ∨ 0 ≤ t.2.2.1) ∧ inI t.2.2.1 := by
      have z0 := g4
      unfold kJm at z0
      have z1 := kmf_in za (m := ((kbm (kso (hM (cN Z) b.toNat) w (kln (hE (cN Z) b.toNat) (hR (cN Z))) (hW (cN Z) 0)) i).toNat : Int)) (l := (kln (hE (cN Z) b.toNat) (hR (cN Z)))) (k := (hW (cN Z) 0)) w1 w8 k0 k1
      have z2 : (kso (hM (cN Z) b.toNat) w (kln (hE (cN Z) b.toNat) (hR (cN Z))) (hW (cN Z) 0)) (kbm (kso (hM (cN Z) b.toNat) w (kln (hE (cN Z) b.toNat) (hR (cN Z))) (hW (cN Z) 0)) i).toNat = kmf (hM (cN Z) b.toNat) ((kbm (kso (hM (cN Z) b.toNat) w (kln (hE (cN Z) b.toNat) (hR (cN Z))) (hW (cN Z) 0)) i).toNat : Int) w (kln (hE (cN Z) b.toNat) (hR (cN Z))) (hW (cN Z) 0) := rfl
      have z3 := kbm_ok (kso (hM (cN Z) b.toNat) w (kln (hE (cN Z) b.toNat) (hR (cN Z))) (hW (cN Z) 0)) i
      unfold inI
      omega
    refine e_iload rfl dX10_findFit_27 ?_
    refine e_bipush (by decide) dX10_findFit_29 ?_
    refine e_icmp_ge (tgt := 59) dX10_findFit_31 (by decide) (by first | assumption | (unfold inI at *; omega)) (by first | assumption | (unfold inI at *; omega)) (fun c31 => ?_) (fun c31 => ?_)
    · refine e_return dX10_findFit_59 rfl ?_
      exact ⟨t, rfl, rfl, rfl, by rw [← show i = 64 by omega]; exact g4⟩
    · refine e_aload_n rfl dX10_findFit_34 ?_
      refine e_iload rfl dX10_findFit_35 ?_
      refine e_iload rfl dX10_findFit_37 ?_
      refine e_aload_n rfl dX10_findFit_39 ?_
      refine e_iload_n rfl dX10_findFit_40 ?_
      refine e_iload_n rfl dX10_findFit_41 ?_
      refine e_iload rfl dX10_findFit_42 ?_
      refine e_iload_n rfl dX10_findFit_44 ?_
      refine e_iload rfl dX10_findFit_45 ?_
      refine eV5 mtX10_misfitOf miX10_misfitOf lkX10_175 dX10_findFit_47 kmh_97 rfl rfl rfl (j_misfitOf (rMD_5 md t) ok hby (by omega) w0 (by omega) hch) ?_
      dsimp only [Option.toList, List.cons_append, List.nil_append]
      refine eV3 mtX10_keepBest miX10_keepBest lkX10_188 dX10_findFit_50 kmh_97 rfl rfl rfl (j_keepBest q7.1 q7.2 (by omega) (by unfold inI; omega)) ?_
      dsimp only [Option.toList, List.cons_append, List.nil_append]
      refine e_iinc dX10_findFit_53 rfl rfl ?_
      dsimp only [List.set]
      refine e_goto (tgt := 27) dX10_findFit_56 (by decide) ?_
      exact ih (i + 1) _ _ (by omega) (by omega) (by omega) (kof_J za w1 w8 k0 k1 g4)
set_option maxHeartbeats 4000000 in
set_option maxRecDepth 100000 in
theorem j_findFit {G : kG} {d : Nat} {h : Nat → Option kC} {n : Nat} {q : Nat → Int} {F : Nat → Nat → Int} {Z : kCs} (md : rMD q F Z) (ok : kCok Z) {b : Int} (hby : 0 ≤ b ∧ b ≤ 5) {w : Int} (w0 : 1 ≤ w ∧ w ≤ 8)  : kCall G mX10_findFit (d + 3) 0 0 [.ref (gB G + 97), .int (jI b), .int (jI w)] (kmh G h q F) n (kre none (kmh G h (kset5 q ((kln (hE (cN Z) b.toNat) (hR (cN Z))), kbm (kso (hM (cN Z) b.toNat) w (kln (hE (cN Z) b.toNat) (hR (cN Z))) (hW (cN Z) 0)) 64, (kso (hM (cN Z) b.toNat) w (kln (hE (cN Z) b.toNat) (hR (cN Z))) (hW (cN Z) 0)) (kbm (kso (hM (cN Z) b.toNat) w (kln (hE (cN Z) b.toNat) (hR (cN Z))) (hW (cN Z) 0)) 64).toNat, q 21, q 22)) (kF1 F w)) n) := by
  show kE G mX10_findFit (d + 3) 0 0 0 [some (.ref (gB G + 97)), some (.int (jI b)), some (.int (jI w)), none, none, none] [] (kmh G h q F) n _
  have za := ok.1.1 b.toNat (by omega)
  have zA := kA_sum za
  obtain ⟨⟨k0, k1⟩, -⟩ := id ok.1.2.2.1
  obtain ⟨w1, w8⟩ := id w0
  have tl := kln_in (E := hE (cN Z) b.toNat) ok.1.2.2.2.1
  have md1 : rMD q (kF1 F w) Z := rMD_F md (fun j h1 h2 => kF1_n h1)
  refine e_aload_n rfl dX10_findFit_0 ?_
  refine e_iload_n rfl dX10_findFit_1 ?_
  refine eV1 mtX10_findChosen miX10_findChosen lkX10_168 dX10_findFit_2 kmh_97 rfl rfl rfl (j_findChosen (by omega)) ?_
  dsimp only [Option.toList, List.cons_append, List.nil_append]
  refine e_aload_n rfl dX10_findFit_5 ?_
  refine e_iload_n rfl dX10_findFit_6 ?_
  refine eV1 mtX10_all miX10_all lkX10_172 dX10_findFit_7 kmh_97 rfl rfl rfl (j_all md1 ok hby) ?_
  dsimp only [Option.toList, List.cons_append, List.nil_append]
  refine e_istore_n dX10_findFit_10 rfl rfl ?_
  dsimp only [List.set]
  refine e_aload_n rfl dX10_findFit_11 ?_
  refine e_iload_n rfl dX10_findFit_12 ?_
  refine eV1 mtX10_lineOf miX10_lineOf lkX10_146 dX10_findFit_13 kmh_97 rfl rfl rfl (j_lineOf md1 ok hby) ?_
  dsimp only [Option.toList, List.cons_append, List.nil_append]
  refine e_istore dX10_findFit_16 rfl rfl ?_
  dsimp only [List.set]
  refine e_aload_n rfl dX10_findFit_18 ?_
  refine e_bipush (by decide) dX10_findFit_19 ?_
  refine e_mput pfX10_179 dX10_findFit_21 kml_20 rfl rfl rfl ?_
  rw [ks_n]
  refine e_iconst dX10_findFit_24 ?_
  refine e_istore dX10_findFit_25 rfl rfl ?_
  dsimp only [List.set]
  refine kE.mono (j_fit_lp md1 ok hby w0 kF1_c (fl := (q 21, q 22)) 100 0 0 _ (by omega) (by omega) (by omega) ⟨Or.inl ⟨rfl, rfl⟩, rfl⟩) (fun r h' n' hq => ?_)
  obtain ⟨⟨y1, y2, y3, y4⟩, z1, z2, z3, z4, z5⟩ := hq
  have z6 := kbm_min (kso (hM (cN Z) b.toNat) w (kln (hE (cN Z) b.toNat) (hR (cN Z))) (hW (cN Z) 0)) (show 63 < 64 by omega) (kso_last za w1 w8 tl.2 k0 k1)
  refine ⟨z1, ?_, z3⟩
  rcases z4 with z4 | ⟨-, a1, a2, a3⟩
  · exact absurd z4.1 z6.1
  · dsimp only at a1 a2 a3 z5
    rw [z2, a1, a2, a3, z5]
set_option maxHeartbeats 4000000 in
set_option maxRecDepth 100000 in
theorem j_fit {G : kG} {d : Nat} {h : Nat → Option kC} {n : Nat} {q : Nat → Int} {F : Nat → Nat → Int} {Z : kCs} (md : rMD q F Z) (ok : kCok Z)  {b : Int} (hb : inI b) {w : Int} (hw : inI w) {x : Int} (hx : inI x) : kCall G mX10_fit (d + 4) 0 0 [.ref (gB G + 97), .int (jI b), .int (jI w), .int (jI x)] (kmh G h q F) n (kQm G h n (.int (jI (a_fit Z b w x))) (Z)) := by
  show kE G mX10_fit (d + 4) 0 0 0 [some (.ref (gB G + 97)), some (.int (jI b)), some (.int (jI w)), some (.int (jI x))] [] (kmh G h q F) n _
  refine e_iload_n rfl dX10_fit_0 ?_
  refine eS1 mtX10_isBook msX10_isBook lkX10_76 dX10_fit_1 rfl rfl (j_isBook (by first | assumption | (unfold inI at *; omega))) ?_
  dsimp only [Option.toList, List.cons_append, List.nil_append]
  refine e_ifneP (tgt := 9) dX10_fit_4 (by decide) (fun c4 => ?_) (fun c4 => ?_)
  · refine e_iload_n rfl dX10_fit_9 ?_
    refine eS1 mtX10_isWidth msX10_isWidth lkX10_152 dX10_fit_10 rfl rfl (j_isWidth (by first | assumption | (unfold inI at *; omega))) ?_
    dsimp only [Option.toList, List.cons_append, List.nil_append]
    refine e_ifeqP (tgt := 23) dX10_fit_13 (by decide) (fun c13 => ?_) (fun c13 => ?_)
    · refine e_bipush (by decide) dX10_fit_23 ?_
      refine e_ireturn dX10_fit_25 rfl rfl ?_
      exact kQm_0 (by unfold a_fit; (repeat' split) <;> first | rfl | (exfalso; omega)) md
    · refine e_iload_n rfl dX10_fit_16 ?_
      refine eS1 mtX10_isEnd msX10_isEnd lkX10_124 dX10_fit_17 rfl rfl (j_isEnd (by first | assumption | (unfold inI at *; omega))) ?_
      dsimp only [Option.toList, List.cons_append, List.nil_append]
      refine e_ifneP (tgt := 26) dX10_fit_20 (by decide) (fun c20 => ?_) (fun c20 => ?_)
      · refine e_aload_n rfl dX10_fit_26 ?_
        refine e_iload_n rfl dX10_fit_27 ?_
        refine e_iload_n rfl dX10_fit_28 ?_
        refine eV2 mtX10_findFit miX10_findFit lkX10_192 dX10_fit_29 kmh_97 rfl rfl rfl (j_findFit md ok (by omega) (by omega)) ?_
        dsimp only [Option.toList, List.cons_append, List.nil_append]
        refine e_iload_n rfl dX10_fit_32 ?_
        refine e_if_ne (tgt := 43) dX10_fit_33 (by decide) (by first | assumption | (unfold inI at *; omega)) (fun c33 => ?_) (fun c33 => ?_)
        · refine e_aload_n rfl dX10_fit_43 ?_
          refine e_getf fdX10_179 dX10_fit_44 kmh_97 rfl ?_
          refine e_ireturn dX10_fit_47 rfl rfl ?_
          exact ⟨by unfold a_fit; rw [if_neg (by omega), if_pos (by omega)]; first | (rw [if_pos (by assumption)]; rfl) | (rw [if_neg (by assumption)]; rfl), rfl, _, _, rfl, (rMD_5 (rMD_F md (fun j h1 h2 => kF1_n h1)) _)⟩
        · refine e_aload_n rfl dX10_fit_36 ?_
          refine e_getf fdX10_185 dX10_fit_37 kmh_97 rfl ?_
          refine e_goto (tgt := 47) dX10_fit_40 (by decide) ?_
          refine e_ireturn dX10_fit_47 rfl rfl ?_
          exact ⟨by unfold a_fit; rw [if_neg (by omega), if_pos (by omega)]; first | (rw [if_pos (by assumption)]; rfl) | (rw [if_neg (by assumption)]; rfl), rfl, _, _, rfl, (rMD_5 (rMD_F md (fun j h1 h2 => kF1_n h1)) _)⟩
      · refine e_bipush (by decide) dX10_fit_23 ?_
        refine e_ireturn dX10_fit_25 rfl rfl ?_
        exact kQm_0 (by unfold a_fit; (repeat' split) <;> first | rfl | (exfalso; omega)) md
  · refine e_iconst dX10_fit_7 ?_
    refine e_ireturn dX10_fit_8 rfl rfl ?_
    exact kQm_0 (by unfold a_fit; (repeat' split) <;> first | rfl | (exfalso; omega)) md
set_option maxHeartbeats 4000000 in
set_option maxRecDepth 100000 in
theorem j_right {G : kG} {d : Nat} {h : Nat → Option kC} {n : Nat} {q : Nat → Int} {F : Nat → Nat → Int} {Z : kCs} (md : rMD q F Z) (ok : kCok Z)  {b : Int} (hb : inI b) {w : Int} (hw : inI w) {p : Int} (hp : inI p) : kCall G mX10_right (d + 4) 0 0 [.ref (gB G + 97), .int (jI b), .int (jI w), .int (jI p)] (kmh G h q F) n (kQm G h n (.long (jL (a_right Z b w p))) (Z)) := by
  show kE G mX10_right (d + 4) 0 0 0 [some (.ref (gB G + 97)), some (.int (jI b)), some (.int (jI w)), some (.int (jI p))] [] (kmh G h q F) n _
  refine e_iload_n rfl dX10_right_0 ?_
  refine eS1 mtX10_isBook msX10_isBook lkX10_76 dX10_right_1 rfl rfl (j_isBook (by first | assumption | (unfold inI at *; omega))) ?_
  dsimp only [Option.toList, List.cons_append, List.nil_append]
  refine e_ifneP (tgt := 11) dX10_right_4 (by decide) (fun c4 => ?_) (fun c4 => ?_)
  · refine e_iload_n rfl dX10_right_11 ?_
    refine eS1 mtX10_isWidth msX10_isWidth lkX10_152 dX10_right_12 rfl rfl (j_isWidth (by first | assumption | (unfold inI at *; omega))) ?_
    dsimp only [Option.toList, List.cons_append, List.nil_append]
    refine e_ifeqP (tgt := 25) dX10_right_15 (by decide) (fun c15 => ?_) (fun c15 => ?_)
    · refine e_ldc2 (z := (-1000000000000000002)) kcX10_159 (by decide) dX10_right_25 ?_
      refine e_lreturn dX10_right_28 rfl ?_
      exact kQm_0 (by unfold a_right; (repeat' split) <;> first | rfl | (exfalso; omega)) md
    · refine e_iload_n rfl dX10_right_18 ?_
      refine eS1 mtX10_isEnd msX10_isEnd lkX10_124 dX10_right_19 rfl rfl (j_isEnd (by first | assumption | (unfold inI at *; omega))) ?_
      dsimp only [Option.toList, List.cons_append, List.nil_append]
      refine e_ifneP (tgt := 29) dX10_right_22 (by decide) (fun c22 => ?_) (fun c22 => ?_)
      · obtain ⟨⟨y00, y01⟩, ⟨y10, y11⟩, ⟨y20, y21⟩⟩ := id (ok.1.2.1 b.toNat (by omega))
        obtain ⟨⟨w00, w01⟩, ⟨w10, w11⟩, ⟨w20, w21⟩, ⟨w30, w31⟩, ⟨w40, w41⟩⟩ := id ok.1.2.2.1
        refine e_aload_n rfl dX10_right_29 ?_
        refine e_iload_n rfl dX10_right_30 ?_
        refine e_iload_n rfl dX10_right_31 ?_
        refine eV2 mtX10_findFit miX10_findFit lkX10_192 dX10_right_32 kmh_97 rfl rfl rfl (j_findFit md ok (by omega) (by omega)) ?_
        dsimp only [Option.toList, List.cons_append, List.nil_append]
        refine e_ldc2 (z := 10) kcX10_101 (by decide) dX10_right_35 ?_
        refine e_aload_n rfl dX10_right_38 ?_
        refine e_getf fdX10_185 dX10_right_39 kmh_97 rfl ?_
        rw [ks_19]
        try dsimp only
        have q7 := kbm_in (kso (hM (cN Z) b.toNat) w (kln (hE (cN Z) b.toNat) (hR (cN Z))) (hW (cN Z) 0)) 64
        refine e_i2l (by first | assumption | (unfold inI at *; omega)) dX10_right_42 ?_
        refine e_lmul dX10_right_43 ?_
        refine e_aload_n rfl dX10_right_44 ?_
        refine e_iload_n rfl dX10_right_45 ?_
        refine eV1 mtX10_meanGrown miX10_meanGrown lkX10_224 dX10_right_46 kmh_97 rfl rfl rfl (j_meanGrown (rMD_5 (rMD_F md (fun j h1 h2 => kF1_n h1)) _) ok (by omega)) ?_
        dsimp only [Option.toList, List.cons_append, List.nil_append]
        have q8 := kmg_in ok.1.2.2.2.2 (a := hE (cN Z) b.toNat 1) (l := hW (cN Z) 4) (by omega) (by omega) (by omega)
        refine e_i2l (by first | assumption | (unfold inI at *; omega)) dX10_right_49 ?_
        refine e_ladd dX10_right_50 ?_
        refine e_ldc2 (z := 10) kcX10_101 (by decide) dX10_right_51 ?_
        refine e_iload_n rfl dX10_right_54 ?_
        refine eS3 mtX10_lowest msX10_lowest lkX10_161 dX10_right_55 rfl rfl (j_lowest (by omega) (by omega) (by omega) (by omega) (by omega) (by omega)) ?_
        dsimp only [Option.toList, List.cons_append, List.nil_append]
        refine e_lreturn dX10_right_58 rfl ?_
        exact ⟨by unfold a_right; rw [if_neg (by omega), if_neg (by omega)], rfl, _, _, rfl, (rMD_5 (rMD_F md (fun j h1 h2 => kF1_n h1)) _)⟩
      · refine e_ldc2 (z := (-1000000000000000002)) kcX10_159 (by decide) dX10_right_25 ?_
        refine e_lreturn dX10_right_28 rfl ?_
        exact kQm_0 (by unfold a_right; (repeat' split) <;> first | rfl | (exfalso; omega)) md
  · refine e_ldc2 (z := (-1000000000000000001)) kcX10_216 (by decide) dX10_right_7 ?_
    refine e_lreturn dX10_right_10 rfl ?_
    exact kQm_0 (by unfold a_right; (repeat' split) <;> first | rfl | (exfalso; omega)) md
set_option maxHeartbeats 4000000 in
set_option maxRecDepth 100000 in
theorem j_beside {G : kG} {d : Nat} {h : Nat → Option kC} {n : Nat} {q : Nat → Int} {F : Nat → Nat → Int} {Z : kCs} (md : rMD q F Z) (ok : kCok Z)  {b : Int} (hb : inI b) {c : Int} (hc : inI c) {w : Int} (hw : inI w) {p : Int} (hp : inI p) : kCall G mX10_beside (d + 4) 0 0 [.ref (gB G + 97), .int (jI b), .int (jI c), .int (jI w), .int (jI p)] (kmh G h q F) n (kQm G h n (.long (jL (a_beside Z b c w p))) (Z)) := by
  show kE G mX10_beside (d + 4) 0 0 0 [some (.ref (gB G + 97)), some (.int (jI b)), some (.int (jI c)), some (.int (jI w)), some (.int (jI p)), none, none] [] (kmh G h q F) n _
  refine e_iload_n rfl dX10_beside_0 ?_
  refine eS1 mtX10_isBook msX10_isBook lkX10_76 dX10_beside_1 rfl rfl (j_isBook (by first | assumption | (unfold inI at *; omega))) ?_
  dsimp only [Option.toList, List.cons_append, List.nil_append]
  refine e_ifeqP (tgt := 14) dX10_beside_4 (by decide) (fun c4 => ?_) (fun c4 => ?_)
  · refine e_ldc2 (z := (-1000000000000000001)) kcX10_216 (by decide) dX10_beside_14 ?_
    refine e_lreturn dX10_beside_17 rfl ?_
    exact kQm_0 (by unfold a_beside; first | (rw [if_pos (by omega)]; done) | (rw [if_neg (by omega), if_pos (by omega)]; done) | (rw [if_neg (by omega), if_neg (by omega), if_pos (by omega)]; done)) md
  · refine e_iload_n rfl dX10_beside_7 ?_
    refine eS1 mtX10_isBook msX10_isBook lkX10_76 dX10_beside_8 rfl rfl (j_isBook (by first | assumption | (unfold inI at *; omega))) ?_
    dsimp only [Option.toList, List.cons_append, List.nil_append]
    refine e_ifneP (tgt := 18) dX10_beside_11 (by decide) (fun c11 => ?_) (fun c11 => ?_)
    · refine e_iload_n rfl dX10_beside_18 ?_
      refine eS1 mtX10_isWidth msX10_isWidth lkX10_152 dX10_beside_19 rfl rfl (j_isWidth (by first | assumption | (unfold inI at *; omega))) ?_
      dsimp only [Option.toList, List.cons_append, List.nil_append]
      refine e_ifeqP (tgt := 33) dX10_beside_22 (by decide) (fun c22 => ?_) (fun c22 => ?_)
      · refine e_ldc2 (z := (-1000000000000000002)) kcX10_159 (by decide) dX10_beside_33 ?_
        refine e_lreturn dX10_beside_36 rfl ?_
        exact kQm_0 (by unfold a_beside; first | (rw [if_pos (by omega)]; done) | (rw [if_neg (by omega), if_pos (by omega)]; done) | (rw [if_neg (by omega), if_neg (by omega), if_pos (by omega)]; done)) md
      · refine e_iload rfl dX10_beside_25 ?_
        refine eS1 mtX10_isEnd msX10_isEnd lkX10_124 dX10_beside_27 rfl rfl (j_isEnd (by first | assumption | (unfold inI at *; omega))) ?_
        dsimp only [Option.toList, List.cons_append, List.nil_append]
        refine e_ifneP (tgt := 37) dX10_beside_30 (by decide) (fun c30 => ?_) (fun c30 => ?_)
        · refine e_aload_n rfl dX10_beside_37 ?_
          refine e_iload_n rfl dX10_beside_38 ?_
          refine eV1 mtX10_all miX10_all lkX10_172 dX10_beside_39 kmh_97 rfl rfl rfl (j_all md ok (by omega)) ?_
          dsimp only [Option.toList, List.cons_append, List.nil_append]
          have zA := kA_sum (ok.1.1 b.toNat (by omega))
          refine e_i2l (by first | assumption | (unfold inI at *; omega)) dX10_beside_42 ?_
          refine e_lstore dX10_beside_43 rfl rfl ?_
          dsimp only [List.set]
          obtain ⟨⟨y00, y01⟩, ⟨y10, y11⟩, ⟨y20, y21⟩⟩ := id (ok.1.2.1 b.toNat (by omega))
          have zA := kA_sum (ok.1.1 b.toNat (by omega))
          refine e_aload_n rfl dX10_beside_45 ?_
          refine e_getf fdX10_19 dX10_beside_46 kmh_97 rfl ?_
          refine e_iload_n rfl dX10_beside_49 ?_
          refine e_mld (by first | exact ka98 | exact ka99 | exact ka100 | exact ka101 | exact ka102 | exact ka103 | exact ka104 | exact ka105 | exact ka106 | exact ka107 | exact ka108 | exact ka109 | exact ka110 | exact ka111 | exact ka112 | exact ka113) dX10_beside_50 (by omega) (by omega) ?_
          rw [(md_e md (by omega)).2.2]
          refine e_iconst dX10_beside_51 ?_
          refine e_icmp_ne (tgt := 62) dX10_beside_52 (by decide) (by first | assumption | (unfold inI at *; omega)) (by first | assumption | (unfold inI at *; omega)) (fun c52 => ?_) (fun c52 => ?_)
          · refine e_ldc2 (z := (-1000000000000000003)) kcX10_271 (by decide) dX10_beside_62 ?_
            refine e_lreturn dX10_beside_65 rfl ?_
            exact kQm_0 (by unfold a_beside; first | (rw [if_pos (by omega)]; done) | (rw [if_neg (by omega), if_pos (by omega)]; done) | (rw [if_neg (by omega), if_neg (by omega), if_pos (by omega)]; done)) md
          · refine e_lload rfl dX10_beside_55 ?_
            refine e_lconst (z := 0) (by decide) dX10_beside_57 ?_
            refine e_lcmp_ne (tgt := 66) dX10_beside_58 dX10_beside_59 (by decide) (by first | assumption | (unfold inL at *; omega)) (by first | assumption | (unfold inL at *; omega)) (fun c58 => ?_) (fun c58 => ?_)
            · refine e_aload_n rfl dX10_beside_66 ?_
              refine e_iload_n rfl dX10_beside_67 ?_
              refine e_iload_n rfl dX10_beside_68 ?_
              refine eV2 mtX10_findFit miX10_findFit lkX10_192 dX10_beside_69 kmh_97 rfl rfl rfl (j_findFit md ok (by omega) (by omega)) ?_
              dsimp only [Option.toList, List.cons_append, List.nil_append]
              refine e_aload_n rfl dX10_beside_72 ?_
              refine e_iload_n rfl dX10_beside_73 ?_
              refine eV1 mtX10_sumOf miX10_sumOf lkX10_264 dX10_beside_74 kmh_97 rfl rfl rfl (j_sumOf (rMD_5 (rMD_F md (fun j h1 h2 => kF1_n h1)) _) ok (by omega)) ?_
              dsimp only [Option.toList, List.cons_append, List.nil_append]
              have q8 := ksm_in (ok.1.1 b.toNat (by omega)) 0
              refine e_aload_n rfl dX10_beside_77 ?_
              refine e_getf fdX10_185 dX10_beside_78 kmh_97 rfl ?_
              rw [ks_19]
              try dsimp only
              have q7 := kbm_in (kso (hM (cN Z) c.toNat) w (kln (hE (cN Z) c.toNat) (hR (cN Z))) (hW (cN Z) 0)) 64
              have q6 := kmul_in (x := (kbm (kso (hM (cN Z) c.toNat) w (kln (hE (cN Z) c.toNat) (hR (cN Z))) (hW (cN Z) 0)) 64)) (y := ksum (hM (cN Z) b.toNat) 64) (c := 63936) (by omega) (by omega) (by omega) (by omega)
              refine e_i2l (by first | assumption | (unfold inI at *; omega)) dX10_beside_81 ?_
              refine e_lload rfl dX10_beside_82 ?_
              refine e_lmul dX10_beside_84 ?_
              refine e_lsub dX10_beside_85 ?_
              refine e_lload rfl dX10_beside_86 ?_
              refine e_iload rfl dX10_beside_88 ?_
              refine eS3 mtX10_lowest msX10_lowest lkX10_161 dX10_beside_90 rfl rfl (j_lowest (by omega) (by omega) (by omega) (by omega) (by omega) (by omega)) ?_
              dsimp only [Option.toList, List.cons_append, List.nil_append]
              refine e_lreturn dX10_beside_93 rfl ?_
              exact ⟨by unfold a_beside; rw [if_neg (by omega), if_neg (by omega), if_neg (by omega)], rfl, _, _, rfl, (rMD_5 (rMD_F md (fun j h1 h2 => kF1_n h1)) _)⟩
            · refine e_ldc2 (z := (-1000000000000000003)) kcX10_271 (by decide) dX10_beside_62 ?_
              refine e_lreturn dX10_beside_65 rfl ?_
              exact kQm_0 (by unfold a_beside; first | (rw [if_pos (by omega)]; done) | (rw [if_neg (by omega), if_pos (by omega)]; done) | (rw [if_neg (by omega), if_neg (by omega), if_pos (by omega)]; done)) md
        · refine e_ldc2 (z := (-1000000000000000002)) kcX10_159 (by decide) dX10_beside_33 ?_
          refine e_lreturn dX10_beside_36 rfl ?_
          exact kQm_0 (by unfold a_beside; first | (rw [if_pos (by omega)]; done) | (rw [if_neg (by omega), if_pos (by omega)]; done) | (rw [if_neg (by omega), if_neg (by omega), if_pos (by omega)]; done)) md
    · refine e_ldc2 (z := (-1000000000000000001)) kcX10_216 (by decide) dX10_beside_14 ?_
      refine e_lreturn dX10_beside_17 rfl ?_
      exact kQm_0 (by unfold a_beside; first | (rw [if_pos (by omega)]; done) | (rw [if_neg (by omega), if_pos (by omega)]; done) | (rw [if_neg (by omega), if_neg (by omega), if_pos (by omega)]; done)) md
