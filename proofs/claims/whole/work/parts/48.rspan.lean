/-! THE REFERENCE: SPAN, FOUND -/
def kJs (so : Nat → Int) (t : Int) (i : Nat) (sl sh : Int) : Prop := (ksp so t i = -1 ∧ ksq so t i = -1 ∧ sl = -6) ∨ (0 ≤ ksp so t i ∧ sl = ksp so t i ∧ sh = ksq so t i)
theorem kJs_y {so : Nat → Int} {t : Int} {i : Nat} {sl sh : Int} (h : kJs so t i sl sh) (hy : so i ≠ -5 ∧ so i ≤ t) : kJs so t (i + 1) (if sl < 0 then (i : Int) else sl) i := by
  have e1 : ksp so t (i + 1) = if 0 ≤ ksp so t i then ksp so t i else if so i ≠ -5 ∧ so i ≤ t then (i : Int) else -1 := rfl
  have e2 : ksq so t (i + 1) = if so i ≠ -5 ∧ so i ≤ t then (i : Int) else ksq so t i := rfl
  rw [if_pos hy] at e1 e2
  right
  rcases h with ⟨h1, h2, h3⟩ | ⟨h1, h2, h3⟩
  · rw [if_neg (by omega)] at e1
    rw [if_pos (by omega), e1, e2]
    exact ⟨by omega, rfl, rfl⟩
  · rw [if_pos h1] at e1
    rw [if_neg (by omega), e1, e2]
    exact ⟨h1, h2, rfl⟩
theorem kJs_n {so : Nat → Int} {t : Int} {i : Nat} {sl sh : Int} (h : kJs so t i sl sh) (hn : ¬ (so i ≠ -5 ∧ so i ≤ t)) : kJs so t (i + 1) sl sh := by
  have e1 : ksp so t (i + 1) = if 0 ≤ ksp so t i then ksp so t i else if so i ≠ -5 ∧ so i ≤ t then (i : Int) else -1 := rfl
  have e2 : ksq so t (i + 1) = if so i ≠ -5 ∧ so i ≤ t then (i : Int) else ksq so t i := rfl
  rw [if_neg hn] at e1 e2
  unfold kJs
  rw [e2]
  rcases h with ⟨h1, h2, h3⟩ | ⟨h1, h2, h3⟩
  · rw [if_neg (by omega)] at e1
    rw [e1]
    exact Or.inl ⟨rfl, h2, h3⟩
  · rw [if_pos h1] at e1
    rw [e1]
    exact Or.inr ⟨h1, h2, h3⟩
set_option maxHeartbeats 4000000 in
set_option maxRecDepth 100000 in
theorem j_span_lp {G : kG} {d : Nat} {h : Nat → Option kC} {n : Nat} {q : Nat → Int} {F : Nat → Nat → Int} {Z : kCs} (md : rMD q F Z) (ok : kCok Z) {b : Int} (hby : 0 ≤ b ∧ b ≤ 5) {w : Int} (w0 : 1 ≤ w ∧ w ≤ 8) {x : Int} (x0 : 0 ≤ x ∧ x ≤ 999) (hch : ∀ k : Nat, (k : Int) ≤ 2 * w → F 111 k = kch w k) {so : Nat → Int} (hso : ∀ m : Nat, kmf (hM (cN Z) b.toNat) m w (kln (hE (cN Z) b.toNat) (hR (cN Z))) (hW (cN Z) 0) = so m) {mi ms : Int} (hms : 0 ≤ ms ∧ ms ≤ 4200000)  : ∀ (f : Nat) (i : Nat) (z sl sh : Int) (e7 : Option Value), z = (i : Int) → i ≤ 64 → 64 - (i : Int) ≤ f → kJs so (ms + x) i sl sh → (sl = -6 ∨ (0 ≤ sl ∧ sl ≤ 64)) → kE G mX10_findSpan (d + 3) 0 0 29 [some (.ref (gB G + 97)), some (.int (jI b)), some (.int (jI w)), some (.int (jI x)), some (.int (jI (ksum (hM (cN Z) b.toNat) 64))), some (.int (jI (kln (hE (cN Z) b.toNat) (hR (cN Z))))), some (.int (jI z)), e7] [] (kmh G h (kset5 q ((kln (hE (cN Z) b.toNat) (hR (cN Z))), mi, ms, sl, sh)) F) n (fun r h' n' => ∃ sl' sh' : Int, r = none ∧ h' = kmh G h (kset5 q ((kln (hE (cN Z) b.toNat) (hR (cN Z))), mi, ms, sl', sh')) F ∧ n' = n ∧ kJs so (ms + x) 64 sl' sh') := by
  have za := ok.1.1 b.toNat (by omega)
  have zA := kA_sum za
  obtain ⟨⟨k0, k1⟩, -⟩ := id ok.1.2.2.1
  obtain ⟨w1, w8⟩ := id w0
  have tl := kln_in (E := hE (cN Z) b.toNat) ok.1.2.2.2.1
  intro f
  induction f with
  | zero =>
    intro i z sl sh e7 g1 g2 g3 g4 g5
    refine e_iload rfl dX10_findSpan_29 ?_
    refine e_bipush (by decide) dX10_findSpan_31 ?_
    refine e_icmp_ge (tgt := 98) dX10_findSpan_33 (by decide) (by first | assumption | (unfold inI at *; omega)) (by first | assumption | (unfold inI at *; omega)) (fun c33 => ?_) (fun c33 => ?_)
    · refine e_return dX10_findSpan_98 rfl ?_
      exact ⟨sl, sh, rfl, rfl, rfl, by rw [← show i = 64 by omega]; exact g4⟩
    · exact absurd c33 (by omega)
  | succ f ih =>
    intro i z sl sh e7 g1 g2 g3 g4 g5
    subst g1
    have q8 := kmf_in za (m := (i : Int)) (l := (kln (hE (cN Z) b.toNat) (hR (cN Z)))) (k := (hW (cN Z) 0)) w1 w8 k0 k1
    rw [hso i] at q8
    refine e_iload rfl dX10_findSpan_29 ?_
    refine e_bipush (by decide) dX10_findSpan_31 ?_
    refine e_icmp_ge (tgt := 98) dX10_findSpan_33 (by decide) (by first | assumption | (unfold inI at *; omega)) (by first | assumption | (unfold inI at *; omega)) (fun c33 => ?_) (fun c33 => ?_)
    · refine e_return dX10_findSpan_98 rfl ?_
      exact ⟨sl, sh, rfl, rfl, rfl, by rw [← show i = 64 by omega]; exact g4⟩
    · refine e_aload_n rfl dX10_findSpan_36 ?_
      refine e_iload_n rfl dX10_findSpan_37 ?_
      refine e_iload rfl dX10_findSpan_38 ?_
      refine e_iload rfl dX10_findSpan_40 ?_
      refine e_iload_n rfl dX10_findSpan_42 ?_
      refine e_iload rfl dX10_findSpan_43 ?_
      refine eV5 mtX10_misfitOf miX10_misfitOf lkX10_175 dX10_findSpan_45 kmh_97 rfl rfl rfl (j_misfitOf (rMD_5 md _) ok hby (by omega) w0 (by omega) hch) ?_
      dsimp only [Option.toList, List.cons_append, List.nil_append]
      rw [hso i]
      refine e_istore dX10_findSpan_48 rfl rfl ?_
      dsimp only [List.set]
      refine e_iload rfl dX10_findSpan_50 ?_
      refine e_if_lt (tgt := 92) dX10_findSpan_52 (by decide) (by first | assumption | (unfold inI at *; omega)) (fun c52 => ?_) (fun c52 => ?_)
      · refine e_iinc dX10_findSpan_92 rfl rfl ?_
        dsimp only [List.set]
        refine e_goto (tgt := 29) dX10_findSpan_95 (by decide) ?_
        first
        | (have q5 := kJs_y g4 (show so i ≠ -5 ∧ so i ≤ ms + x by omega); first | (rw [if_pos (by omega)] at q5; exact ih (i + 1) _ _ _ _ (by omega) (by omega) (by omega) q5 (by omega)) | (rw [if_neg (by omega)] at q5; exact ih (i + 1) _ _ _ _ (by omega) (by omega) (by omega) q5 (by omega)))
        | exact ih (i + 1) _ _ _ _ (by omega) (by omega) (by omega) (kJs_n g4 (by omega)) (by omega)
      · refine e_iload rfl dX10_findSpan_55 ?_
        refine e_aload_n rfl dX10_findSpan_57 ?_
        refine e_getf fdX10_179 dX10_findSpan_58 kmh_97 rfl ?_
        rw [ks_20]
        dsimp only
        refine e_iload_n rfl dX10_findSpan_61 ?_
        refine e_iadd dX10_findSpan_62 ?_
        refine e_icmp_gt (tgt := 92) dX10_findSpan_63 (by decide) (by first | assumption | (unfold inI at *; omega)) (by first | assumption | (unfold inI at *; omega)) (fun c63 => ?_) (fun c63 => ?_)
        · refine e_iinc dX10_findSpan_92 rfl rfl ?_
          dsimp only [List.set]
          refine e_goto (tgt := 29) dX10_findSpan_95 (by decide) ?_
          first
          | (have q5 := kJs_y g4 (show so i ≠ -5 ∧ so i ≤ ms + x by omega); first | (rw [if_pos (by omega)] at q5; exact ih (i + 1) _ _ _ _ (by omega) (by omega) (by omega) q5 (by omega)) | (rw [if_neg (by omega)] at q5; exact ih (i + 1) _ _ _ _ (by omega) (by omega) (by omega) q5 (by omega)))
          | exact ih (i + 1) _ _ _ _ (by omega) (by omega) (by omega) (kJs_n g4 (by omega)) (by omega)
        · refine e_aload_n rfl dX10_findSpan_66 ?_
          refine e_aload_n rfl dX10_findSpan_67 ?_
          refine e_getf fdX10_196 dX10_findSpan_68 kmh_97 rfl ?_
          rw [ks_21]
          dsimp only
          refine e_if_ge (tgt := 79) dX10_findSpan_71 (by decide) (by first | assumption | (unfold inI at *; omega)) (fun c71 => ?_) (fun c71 => ?_)
          · refine e_aload_n rfl dX10_findSpan_79 ?_
            refine e_getf fdX10_196 dX10_findSpan_80 kmh_97 rfl ?_
            rw [ks_21]
            dsimp only
            refine e_mput pfX10_196 dX10_findSpan_83 kml_21 rfl rfl rfl ?_
            rw [ks_u21]
            dsimp only
            refine e_aload_n rfl dX10_findSpan_86 ?_
            refine e_iload rfl dX10_findSpan_87 ?_
            refine e_mput pfX10_199 dX10_findSpan_89 kml_22 rfl rfl rfl ?_
            rw [ks_u22]
            dsimp only
            refine e_iinc dX10_findSpan_92 rfl rfl ?_
            dsimp only [List.set]
            refine e_goto (tgt := 29) dX10_findSpan_95 (by decide) ?_
            first
            | (have q5 := kJs_y g4 (show so i ≠ -5 ∧ so i ≤ ms + x by omega); first | (rw [if_pos (by omega)] at q5; exact ih (i + 1) _ _ _ _ (by omega) (by omega) (by omega) q5 (by omega)) | (rw [if_neg (by omega)] at q5; exact ih (i + 1) _ _ _ _ (by omega) (by omega) (by omega) q5 (by omega)))
            | exact ih (i + 1) _ _ _ _ (by omega) (by omega) (by omega) (kJs_n g4 (by omega)) (by omega)
          · refine e_iload rfl dX10_findSpan_74 ?_
            refine e_goto (tgt := 83) dX10_findSpan_76 (by decide) ?_
            refine e_mput pfX10_196 dX10_findSpan_83 kml_21 rfl rfl rfl ?_
            rw [ks_u21]
            dsimp only
            refine e_aload_n rfl dX10_findSpan_86 ?_
            refine e_iload rfl dX10_findSpan_87 ?_
            refine e_mput pfX10_199 dX10_findSpan_89 kml_22 rfl rfl rfl ?_
            rw [ks_u22]
            dsimp only
            refine e_iinc dX10_findSpan_92 rfl rfl ?_
            dsimp only [List.set]
            refine e_goto (tgt := 29) dX10_findSpan_95 (by decide) ?_
            first
            | (have q5 := kJs_y g4 (show so i ≠ -5 ∧ so i ≤ ms + x by omega); first | (rw [if_pos (by omega)] at q5; exact ih (i + 1) _ _ _ _ (by omega) (by omega) (by omega) q5 (by omega)) | (rw [if_neg (by omega)] at q5; exact ih (i + 1) _ _ _ _ (by omega) (by omega) (by omega) q5 (by omega)))
            | exact ih (i + 1) _ _ _ _ (by omega) (by omega) (by omega) (kJs_n g4 (by omega)) (by omega)
set_option maxHeartbeats 4000000 in
set_option maxRecDepth 100000 in
theorem j_findSpan {G : kG} {d : Nat} {h : Nat → Option kC} {n : Nat} {q : Nat → Int} {F : Nat → Nat → Int} {Z : kCs} (md : rMD q F Z) (ok : kCok Z) {b : Int} (hby : 0 ≤ b ∧ b ≤ 5) {w : Int} (w0 : 1 ≤ w ∧ w ≤ 8) {x : Int} (x0 : 0 ≤ x ∧ x ≤ 999)  : kCall G mX10_findSpan (d + 4) 0 0 [.ref (gB G + 97), .int (jI b), .int (jI w), .int (jI x)] (kmh G h q F) n (kre none (kmh G h (kset5 q ((kln (hE (cN Z) b.toNat) (hR (cN Z))), (kbm (kso (hM (cN Z) b.toNat) w (kln (hE (cN Z) b.toNat) (hR (cN Z))) (hW (cN Z) 0)) 64), ((kso (hM (cN Z) b.toNat) w (kln (hE (cN Z) b.toNat) (hR (cN Z))) (hW (cN Z) 0)) (kbm (kso (hM (cN Z) b.toNat) w (kln (hE (cN Z) b.toNat) (hR (cN Z))) (hW (cN Z) 0)) 64).toNat), ksp (kso (hM (cN Z) b.toNat) w (kln (hE (cN Z) b.toNat) (hR (cN Z))) (hW (cN Z) 0)) (((kso (hM (cN Z) b.toNat) w (kln (hE (cN Z) b.toNat) (hR (cN Z))) (hW (cN Z) 0)) (kbm (kso (hM (cN Z) b.toNat) w (kln (hE (cN Z) b.toNat) (hR (cN Z))) (hW (cN Z) 0)) 64).toNat) + x) 64, ksq (kso (hM (cN Z) b.toNat) w (kln (hE (cN Z) b.toNat) (hR (cN Z))) (hW (cN Z) 0)) (((kso (hM (cN Z) b.toNat) w (kln (hE (cN Z) b.toNat) (hR (cN Z))) (hW (cN Z) 0)) (kbm (kso (hM (cN Z) b.toNat) w (kln (hE (cN Z) b.toNat) (hR (cN Z))) (hW (cN Z) 0)) 64).toNat) + x) 64)) (kF1 F w)) n) := by
  show kE G mX10_findSpan (d + 4) 0 0 0 [some (.ref (gB G + 97)), some (.int (jI b)), some (.int (jI w)), some (.int (jI x)), none, none, none, none] [] (kmh G h q F) n _
  have za := ok.1.1 b.toNat (by omega)
  have zA := kA_sum za
  obtain ⟨⟨k0, k1⟩, -⟩ := id ok.1.2.2.1
  obtain ⟨w1, w8⟩ := id w0
  have tl := kln_in (E := hE (cN Z) b.toNat) ok.1.2.2.2.1
  have md1 : rMD q (kF1 F w) Z := rMD_F md (fun j h1 h2 => kF1_n h1)
  refine e_aload_n rfl dX10_findSpan_0 ?_
  refine e_iload_n rfl dX10_findSpan_1 ?_
  refine e_iload_n rfl dX10_findSpan_2 ?_
  refine eV2 mtX10_findFit miX10_findFit lkX10_192 dX10_findSpan_3 kmh_97 rfl rfl rfl (j_findFit md ok hby w0) ?_
  dsimp only [Option.toList, List.cons_append, List.nil_append]
  refine e_aload_n rfl dX10_findSpan_6 ?_
  refine e_iload_n rfl dX10_findSpan_7 ?_
  refine eV1 mtX10_all miX10_all lkX10_172 dX10_findSpan_8 kmh_97 rfl rfl rfl (j_all (rMD_5 md1 _) ok hby) ?_
  dsimp only [Option.toList, List.cons_append, List.nil_append]
  refine e_istore dX10_findSpan_11 rfl rfl ?_
  dsimp only [List.set]
  refine e_aload_n rfl dX10_findSpan_13 ?_
  refine e_iload_n rfl dX10_findSpan_14 ?_
  refine eV1 mtX10_lineOf miX10_lineOf lkX10_146 dX10_findSpan_15 kmh_97 rfl rfl rfl (j_lineOf (rMD_5 md1 _) ok hby) ?_
  dsimp only [Option.toList, List.cons_append, List.nil_append]
  refine e_istore dX10_findSpan_18 rfl rfl ?_
  dsimp only [List.set]
  refine e_aload_n rfl dX10_findSpan_20 ?_
  refine e_bipush (by decide) dX10_findSpan_21 ?_
  refine e_mput pfX10_196 dX10_findSpan_23 kml_21 rfl rfl rfl ?_
  rw [ks_u21]
  dsimp only
  refine e_iconst dX10_findSpan_26 ?_
  refine e_istore dX10_findSpan_27 rfl rfl ?_
  dsimp only [List.set]
  have z6 := kbm_min (kso (hM (cN Z) b.toNat) w (kln (hE (cN Z) b.toNat) (hR (cN Z))) (hW (cN Z) 0)) (show 63 < 64 by omega) (kso_last za w1 w8 tl.2 k0 k1)
  have z7 := kbm_in (kso (hM (cN Z) b.toNat) w (kln (hE (cN Z) b.toNat) (hR (cN Z))) (hW (cN Z) 0)) 64
  have z5 : 0 ≤ ((kso (hM (cN Z) b.toNat) w (kln (hE (cN Z) b.toNat) (hR (cN Z))) (hW (cN Z) 0)) (kbm (kso (hM (cN Z) b.toNat) w (kln (hE (cN Z) b.toNat) (hR (cN Z))) (hW (cN Z) 0)) 64).toNat) ∧ ((kso (hM (cN Z) b.toNat) w (kln (hE (cN Z) b.toNat) (hR (cN Z))) (hW (cN Z) 0)) (kbm (kso (hM (cN Z) b.toNat) w (kln (hE (cN Z) b.toNat) (hR (cN Z))) (hW (cN Z) 0)) 64).toNat) ≤ 4200000 := by
    rcases kmf_in za (m := ((kbm (kso (hM (cN Z) b.toNat) w (kln (hE (cN Z) b.toNat) (hR (cN Z))) (hW (cN Z) 0)) 64).toNat : Int)) (l := (kln (hE (cN Z) b.toNat) (hR (cN Z)))) (k := (hW (cN Z) 0)) w1 w8 k0 k1 with y | y
    · rcases kbm_ok (kso (hM (cN Z) b.toNat) w (kln (hE (cN Z) b.toNat) (hR (cN Z))) (hW (cN Z) 0)) 64 with x | x
      · exact absurd x z6.1
      · exact absurd y x
    · exact y
  refine kE.mono (j_span_lp (d := d + 1) md1 ok hby w0 x0 kF1_c (so := (kso (hM (cN Z) b.toNat) w (kln (hE (cN Z) b.toNat) (hR (cN Z))) (hW (cN Z) 0))) (fun m => rfl) z5 100 0 0 _ _ _ (by omega) (by omega) (by omega) (Or.inl ⟨rfl, rfl, rfl⟩) (Or.inl rfl)) (fun r h' n' hq => ?_)
  obtain ⟨y1, y2, z1, z2, z3, z4⟩ := hq
  have z9 := ksp_le (so := (kso (hM (cN Z) b.toNat) w (kln (hE (cN Z) b.toNat) (hR (cN Z))) (hW (cN Z) 0))) (t := ((kso (hM (cN Z) b.toNat) w (kln (hE (cN Z) b.toNat) (hR (cN Z))) (hW (cN Z) 0)) (kbm (kso (hM (cN Z) b.toNat) w (kln (hE (cN Z) b.toNat) (hR (cN Z))) (hW (cN Z) 0)) 64).toNat) + x) (j := (kbm (kso (hM (cN Z) b.toNat) w (kln (hE (cN Z) b.toNat) (hR (cN Z))) (hW (cN Z) 0)) 64).toNat) ⟨by omega, by omega⟩ (show (kbm (kso (hM (cN Z) b.toNat) w (kln (hE (cN Z) b.toNat) (hR (cN Z))) (hW (cN Z) 0)) 64).toNat < 64 by omega)
  rcases z4 with z4 | z4
  · exact absurd z4.1 (by have := z9.1; omega)
  · exact ⟨z1, by rw [z2, z4.2.1, z4.2.2], z3⟩
set_option maxHeartbeats 4000000 in
set_option maxRecDepth 100000 in
theorem j_span {G : kG} {d : Nat} {h : Nat → Option kC} {n : Nat} {q : Nat → Int} {F : Nat → Nat → Int} {Z : kCs} (md : rMD q F Z) (ok : kCok Z)  {b : Int} (hb : inI b) {w : Int} (hw : inI w) {x : Int} (hx : inI x) {e : Int} (he : inI e) : kCall G mX10_span (d + 5) 0 0 [.ref (gB G + 97), .int (jI b), .int (jI w), .int (jI x), .int (jI e)] (kmh G h q F) n (kQm G h n (.int (jI (a_span Z b w x e))) (Z)) := by
  show kE G mX10_span (d + 5) 0 0 0 [some (.ref (gB G + 97)), some (.int (jI b)), some (.int (jI w)), some (.int (jI x)), some (.int (jI e))] [] (kmh G h q F) n _
  refine e_iload_n rfl dX10_span_0 ?_
  refine eS1 mtX10_isBook msX10_isBook lkX10_76 dX10_span_1 rfl rfl (j_isBook (by first | assumption | (unfold inI at *; omega))) ?_
  dsimp only [Option.toList, List.cons_append, List.nil_append]
  refine e_ifneP (tgt := 9) dX10_span_4 (by decide) (fun c4 => ?_) (fun c4 => ?_)
  · refine e_iload_n rfl dX10_span_9 ?_
    refine eS1 mtX10_isWidth msX10_isWidth lkX10_152 dX10_span_10 rfl rfl (j_isWidth (by first | assumption | (unfold inI at *; omega))) ?_
    dsimp only [Option.toList, List.cons_append, List.nil_append]
    refine e_ifeqP (tgt := 36) dX10_span_13 (by decide) (fun c13 => ?_) (fun c13 => ?_)
    · refine e_bipush (by decide) dX10_span_36 ?_
      refine e_ireturn dX10_span_38 rfl rfl ?_
      exact kQm_0 (by unfold a_span; (repeat' split) <;> first | rfl | (exfalso; omega)) md
    · refine e_iload_n rfl dX10_span_16 ?_
      refine e_i2l (by first | assumption | (unfold inI at *; omega)) dX10_span_17 ?_
      refine e_lconst (z := 0) (by decide) dX10_span_18 ?_
      refine e_ldc2 (z := 999) kcX10_83 (by decide) dX10_span_19 ?_
      refine eS3 mtX10_in msX10_in lkX10_64 dX10_span_22 rfl rfl (j_in (by first | assumption | exact inL_of (by assumption) | (unfold inL; omega) | (unfold inI at *; unfold inL; omega)) (by first | assumption | exact inL_of (by assumption) | (unfold inL; omega) | (unfold inI at *; unfold inL; omega)) (by first | assumption | exact inL_of (by assumption) | (unfold inL; omega) | (unfold inI at *; unfold inL; omega))) ?_
      dsimp only [Option.toList, List.cons_append, List.nil_append]
      refine e_ifeqP (tgt := 36) dX10_span_25 (by decide) (fun c25 => ?_) (fun c25 => ?_)
      · refine e_bipush (by decide) dX10_span_36 ?_
        refine e_ireturn dX10_span_38 rfl rfl ?_
        exact kQm_0 (by unfold a_span; (repeat' split) <;> first | rfl | (exfalso; omega)) md
      · refine e_iload rfl dX10_span_28 ?_
        refine eS1 mtX10_isEnd msX10_isEnd lkX10_124 dX10_span_30 rfl rfl (j_isEnd (by first | assumption | (unfold inI at *; omega))) ?_
        dsimp only [Option.toList, List.cons_append, List.nil_append]
        refine e_ifneP (tgt := 39) dX10_span_33 (by decide) (fun c33 => ?_) (fun c33 => ?_)
        · refine e_aload_n rfl dX10_span_39 ?_
          refine e_iload_n rfl dX10_span_40 ?_
          refine e_iload_n rfl dX10_span_41 ?_
          refine e_iload_n rfl dX10_span_42 ?_
          refine eV3 mtX10_findSpan miX10_findSpan lkX10_202 dX10_span_43 kmh_97 rfl rfl rfl (j_findSpan md ok (by omega) (by omega) (by omega)) ?_
          dsimp only [Option.toList, List.cons_append, List.nil_append]
          refine e_iload rfl dX10_span_46 ?_
          refine e_if_ne (tgt := 58) dX10_span_48 (by decide) (by first | assumption | (unfold inI at *; omega)) (fun c48 => ?_) (fun c48 => ?_)
          · refine e_aload_n rfl dX10_span_58 ?_
            refine e_getf fdX10_199 dX10_span_59 kmh_97 rfl ?_
            refine e_ireturn dX10_span_62 rfl rfl ?_
            exact ⟨by unfold a_span; rw [if_neg (by omega), if_pos (by omega)]; first | (rw [if_pos (by assumption)]; rfl) | (rw [if_neg (by assumption)]; rfl), rfl, _, _, rfl, (rMD_5 (rMD_F md (fun j h1 h2 => kF1_n h1)) _)⟩
          · refine e_aload_n rfl dX10_span_51 ?_
            refine e_getf fdX10_196 dX10_span_52 kmh_97 rfl ?_
            refine e_goto (tgt := 62) dX10_span_55 (by decide) ?_
            refine e_ireturn dX10_span_62 rfl rfl ?_
            exact ⟨by unfold a_span; rw [if_neg (by omega), if_pos (by omega)]; first | (rw [if_pos (by assumption)]; rfl) | (rw [if_neg (by assumption)]; rfl), rfl, _, _, rfl, (rMD_5 (rMD_F md (fun j h1 h2 => kF1_n h1)) _)⟩
        · refine e_bipush (by decide) dX10_span_36 ?_
          refine e_ireturn dX10_span_38 rfl rfl ?_
          exact kQm_0 (by unfold a_span; (repeat' split) <;> first | rfl | (exfalso; omega)) md
  · refine e_iconst dX10_span_7 ?_
    refine e_ireturn dX10_span_8 rfl rfl ?_
    exact kQm_0 (by unfold a_span; (repeat' split) <;> first | rfl | (exfalso; omega)) md
set_option maxHeartbeats 4000000 in
set_option maxRecDepth 100000 in
theorem j_shorter {G : kG} {d : Nat} {h : Nat → Option kC} {n : Nat} {q : Nat → Int} {F : Nat → Nat → Int} {Z : kCs} (md : rMD q F Z) (ok : kCok Z)  {b : Int} (hb : inI b) {c : Int} (hc : inI c) {w : Int} (hw : inI w) {x : Int} (hx : inI x) : kCall G mX10_shorter (d + 5) 0 0 [.ref (gB G + 97), .int (jI b), .int (jI c), .int (jI w), .int (jI x)] (kmh G h q F) n (kQm G h n (.int (jI (a_shorter Z b c w x))) (Z)) := by
  show kE G mX10_shorter (d + 5) 0 0 0 [some (.ref (gB G + 97)), some (.int (jI b)), some (.int (jI c)), some (.int (jI w)), some (.int (jI x)), none] [] (kmh G h q F) n _
  refine e_iload_n rfl dX10_shorter_0 ?_
  refine eS1 mtX10_isBook msX10_isBook lkX10_76 dX10_shorter_1 rfl rfl (j_isBook (by first | assumption | (unfold inI at *; omega))) ?_
  dsimp only [Option.toList, List.cons_append, List.nil_append]
  refine e_ifeqP (tgt := 14) dX10_shorter_4 (by decide) (fun c4 => ?_) (fun c4 => ?_)
  · refine e_iconst dX10_shorter_14 ?_
    refine e_ireturn dX10_shorter_15 rfl rfl ?_
    exact kQm_0 (by unfold a_shorter; first | (rw [if_pos (by omega)]; done) | (rw [if_neg (by omega), if_pos (by omega)]; done)) md
  · refine e_iload_n rfl dX10_shorter_7 ?_
    refine eS1 mtX10_isBook msX10_isBook lkX10_76 dX10_shorter_8 rfl rfl (j_isBook (by first | assumption | (unfold inI at *; omega))) ?_
    dsimp only [Option.toList, List.cons_append, List.nil_append]
    refine e_ifneP (tgt := 16) dX10_shorter_11 (by decide) (fun c11 => ?_) (fun c11 => ?_)
    · refine e_iload_n rfl dX10_shorter_16 ?_
      refine eS1 mtX10_isWidth msX10_isWidth lkX10_152 dX10_shorter_17 rfl rfl (j_isWidth (by first | assumption | (unfold inI at *; omega))) ?_
      dsimp only [Option.toList, List.cons_append, List.nil_append]
      refine e_ifeqP (tgt := 36) dX10_shorter_20 (by decide) (fun c20 => ?_) (fun c20 => ?_)
      · refine e_bipush (by decide) dX10_shorter_36 ?_
        refine e_ireturn dX10_shorter_38 rfl rfl ?_
        exact kQm_0 (by unfold a_shorter; first | (rw [if_pos (by omega)]; done) | (rw [if_neg (by omega), if_pos (by omega)]; done)) md
      · refine e_iload rfl dX10_shorter_23 ?_
        refine e_i2l (by first | assumption | (unfold inI at *; omega)) dX10_shorter_25 ?_
        refine e_lconst (z := 0) (by decide) dX10_shorter_26 ?_
        refine e_ldc2 (z := 999) kcX10_83 (by decide) dX10_shorter_27 ?_
        refine eS3 mtX10_in msX10_in lkX10_64 dX10_shorter_30 rfl rfl (j_in (by first | assumption | exact inL_of (by assumption) | (unfold inL; omega) | (unfold inI at *; unfold inL; omega)) (by first | assumption | exact inL_of (by assumption) | (unfold inL; omega) | (unfold inI at *; unfold inL; omega)) (by first | assumption | exact inL_of (by assumption) | (unfold inL; omega) | (unfold inI at *; unfold inL; omega))) ?_
        dsimp only [Option.toList, List.cons_append, List.nil_append]
        refine e_ifneP (tgt := 39) dX10_shorter_33 (by decide) (fun c33 => ?_) (fun c33 => ?_)
        · refine e_aload_n rfl dX10_shorter_39 ?_
          refine e_iload_n rfl dX10_shorter_40 ?_
          refine e_iload_n rfl dX10_shorter_41 ?_
          refine e_iload rfl dX10_shorter_42 ?_
          refine eV3 mtX10_findSpan miX10_findSpan lkX10_202 dX10_shorter_44 kmh_97 rfl rfl rfl (j_findSpan md ok (by omega) (by omega) (by omega)) ?_
          dsimp only [Option.toList, List.cons_append, List.nil_append]
          have q7 := ksp_in (kso (hM (cN Z) b.toNat) w (kln (hE (cN Z) b.toNat) (hR (cN Z))) (hW (cN Z) 0)) (((kso (hM (cN Z) b.toNat) w (kln (hE (cN Z) b.toNat) (hR (cN Z))) (hW (cN Z) 0)) (kbm (kso (hM (cN Z) b.toNat) w (kln (hE (cN Z) b.toNat) (hR (cN Z))) (hW (cN Z) 0)) 64).toNat) + x) 64
          generalize hA1 : ksp (kso (hM (cN Z) b.toNat) w (kln (hE (cN Z) b.toNat) (hR (cN Z))) (hW (cN Z) 0)) (((kso (hM (cN Z) b.toNat) w (kln (hE (cN Z) b.toNat) (hR (cN Z))) (hW (cN Z) 0)) (kbm (kso (hM (cN Z) b.toNat) w (kln (hE (cN Z) b.toNat) (hR (cN Z))) (hW (cN Z) 0)) 64).toNat) + x) 64 = A1 at q7 ⊢
          refine e_aload_n rfl dX10_shorter_47 ?_
          refine e_getf fdX10_196 dX10_shorter_48 kmh_97 rfl ?_
          rw [ks_21]
          try dsimp only
          refine e_istore dX10_shorter_51 rfl rfl ?_
          dsimp only [List.set]
          refine e_aload_n rfl dX10_shorter_53 ?_
          refine e_iload_n rfl dX10_shorter_54 ?_
          refine e_iload_n rfl dX10_shorter_55 ?_
          refine e_iload rfl dX10_shorter_56 ?_
          refine eV3 mtX10_findSpan miX10_findSpan lkX10_202 dX10_shorter_58 kmh_97 rfl rfl rfl (j_findSpan (rMD_5 (rMD_F md (fun j h1 h2 => kF1_n h1)) _) ok (by omega) (by omega) (by omega)) ?_
          dsimp only [Option.toList, List.cons_append, List.nil_append]
          have q6 := ksp_in (kso (hM (cN Z) c.toNat) w (kln (hE (cN Z) c.toNat) (hR (cN Z))) (hW (cN Z) 0)) (((kso (hM (cN Z) c.toNat) w (kln (hE (cN Z) c.toNat) (hR (cN Z))) (hW (cN Z) 0)) (kbm (kso (hM (cN Z) c.toNat) w (kln (hE (cN Z) c.toNat) (hR (cN Z))) (hW (cN Z) 0)) 64).toNat) + x) 64
          generalize hA4 : ksp (kso (hM (cN Z) c.toNat) w (kln (hE (cN Z) c.toNat) (hR (cN Z))) (hW (cN Z) 0)) (((kso (hM (cN Z) c.toNat) w (kln (hE (cN Z) c.toNat) (hR (cN Z))) (hW (cN Z) 0)) (kbm (kso (hM (cN Z) c.toNat) w (kln (hE (cN Z) c.toNat) (hR (cN Z))) (hW (cN Z) 0)) 64).toNat) + x) 64 = A4 at q6 ⊢
          have q5 := ksq_in (kso (hM (cN Z) c.toNat) w (kln (hE (cN Z) c.toNat) (hR (cN Z))) (hW (cN Z) 0)) (((kso (hM (cN Z) c.toNat) w (kln (hE (cN Z) c.toNat) (hR (cN Z))) (hW (cN Z) 0)) (kbm (kso (hM (cN Z) c.toNat) w (kln (hE (cN Z) c.toNat) (hR (cN Z))) (hW (cN Z) 0)) 64).toNat) + x) 64
          generalize hA5 : ksq (kso (hM (cN Z) c.toNat) w (kln (hE (cN Z) c.toNat) (hR (cN Z))) (hW (cN Z) 0)) (((kso (hM (cN Z) c.toNat) w (kln (hE (cN Z) c.toNat) (hR (cN Z))) (hW (cN Z) 0)) (kbm (kso (hM (cN Z) c.toNat) w (kln (hE (cN Z) c.toNat) (hR (cN Z))) (hW (cN Z) 0)) 64).toNat) + x) 64 = A5 at q5 ⊢
          refine e_aload_n rfl dX10_shorter_61 ?_
          refine e_getf fdX10_199 dX10_shorter_62 kmh_97 rfl ?_
          rw [ks_22]
          try dsimp only
          refine e_iload rfl dX10_shorter_65 ?_
          refine e_icmp_ge (tgt := 74) dX10_shorter_67 (by decide) (by first | assumption | (unfold inI at *; omega)) (by first | assumption | (unfold inI at *; omega)) (fun c67 => ?_) (fun c67 => ?_)
          · refine e_aload_n rfl dX10_shorter_74 ?_
            refine e_getf fdX10_196 dX10_shorter_75 kmh_97 rfl ?_
            rw [ks_21]
            try dsimp only
            refine e_iload rfl dX10_shorter_78 ?_
            refine e_icmp_lt (tgt := 87) dX10_shorter_80 (by decide) (by first | assumption | (unfold inI at *; omega)) (by first | assumption | (unfold inI at *; omega)) (fun c80 => ?_) (fun c80 => ?_)
            · refine e_iconst dX10_shorter_87 ?_
              refine e_ireturn dX10_shorter_88 rfl rfl ?_
              refine ⟨?_, rfl, _, _, rfl, rMD_5 (rMD_F (rMD_5 (rMD_F md (fun j h1 h2 => kF1_n h1)) _) (fun j h1 h2 => kF1_n h1)) _⟩
              unfold a_shorter
              rw [hA1, hA4, hA5, if_neg (by omega), if_neg (by omega)]
              (repeat' split) <;> first | rfl | (exfalso; omega)
            · refine e_iconst dX10_shorter_83 ?_
              refine e_goto (tgt := 88) dX10_shorter_84 (by decide) ?_
              refine e_ireturn dX10_shorter_88 rfl rfl ?_
              refine ⟨?_, rfl, _, _, rfl, rMD_5 (rMD_F (rMD_5 (rMD_F md (fun j h1 h2 => kF1_n h1)) _) (fun j h1 h2 => kF1_n h1)) _⟩
              unfold a_shorter
              rw [hA1, hA4, hA5, if_neg (by omega), if_neg (by omega)]
              (repeat' split) <;> first | rfl | (exfalso; omega)
          · refine e_iconst dX10_shorter_70 ?_
            refine e_goto (tgt := 88) dX10_shorter_71 (by decide) ?_
            refine e_ireturn dX10_shorter_88 rfl rfl ?_
            refine ⟨?_, rfl, _, _, rfl, rMD_5 (rMD_F (rMD_5 (rMD_F md (fun j h1 h2 => kF1_n h1)) _) (fun j h1 h2 => kF1_n h1)) _⟩
            unfold a_shorter
            rw [hA1, hA4, hA5, if_neg (by omega), if_neg (by omega)]
            (repeat' split) <;> first | rfl | (exfalso; omega)
        · refine e_bipush (by decide) dX10_shorter_36 ?_
          refine e_ireturn dX10_shorter_38 rfl rfl ?_
          exact kQm_0 (by unfold a_shorter; first | (rw [if_pos (by omega)]; done) | (rw [if_neg (by omega), if_pos (by omega)]; done)) md
    · refine e_iconst dX10_shorter_14 ?_
      refine e_ireturn dX10_shorter_15 rfl rfl ?_
      exact kQm_0 (by unfold a_shorter; first | (rw [if_pos (by omega)]; done) | (rw [if_neg (by omega), if_pos (by omega)]; done)) md
def kJ3 (A : Nat → Int) (w k : Int) (fl : Int × Int) (i : Nat) (q : Int × Int × Int × Int × Int) : Prop := ((kbm (ks2 A w k) i = -1 ∧ q.2.2.1 = -6) ∨ (0 ≤ kbm (ks2 A w k) i ∧ q.1 = kbm (ks2 A w k) i / 64 ∧ q.2.1 = kbm (ks2 A w k) i % 64 ∧ q.2.2.1 = ks2 A w k (kbm (ks2 A w k) i).toNat)) ∧ q.2.2.2 = fl
theorem kof_J3 {A : Nat → Int} {w k : Int} {a m : Nat} {q : Int × Int × Int × Int × Int} {fl : Int × Int} (hA : kAok A) (w1 : 1 ≤ w) (w8 : w ≤ 8) (k0 : 0 ≤ k) (k1 : k ≤ 9) (hm : m < 64) (h : kJ3 A w k fl (64 * a + m) q) : kJ3 A w k fl (64 * a + m + 1) (kof q a m (kmf A m w a k)) := by
  have h0 : kmf A m w a k = ks2 A w k (64 * a + m) := (ks2_at hm).symm
  rw [h0]
  have h2 := ks2_in hA w1 w8 k0 k1 (64 * a + m)
  have h3 : kbm (ks2 A w k) (64 * a + m) = -1 ∨ 0 ≤ ks2 A w k (kbm (ks2 A w k) (64 * a + m)).toNat := by
    by_cases e : 0 ≤ kbm (ks2 A w k) (64 * a + m)
    · exact Or.inr (ks2_best hA w1 w8 k0 k1 e).1
    · have := kbm_in (ks2 A w k) (64 * a + m)
      exact Or.inl (by omega)
  unfold kJ3 at h ⊢
  by_cases e : ks2 A w k (64 * a + m) = -5
  · rw [kbm_skip (Or.inl e), show kof q a m (ks2 A w k (64 * a + m)) = q from if_neg (fun z => z.1 e)]
    exact h
  · by_cases e3 : kbm (ks2 A w k) (64 * a + m) = -1 ∨ ks2 A w k (64 * a + m) < ks2 A w k (kbm (ks2 A w k) (64 * a + m)).toNat
    · have e1 : kbm (ks2 A w k) (64 * a + m + 1) = ((64 * a + m : Nat) : Int) := by
        show (if _ then _ else _) = _
        rw [if_neg e, if_pos e3]
      have e2 : kof q a m (ks2 A w k (64 * a + m)) = ((a : Int), (m : Int), ks2 A w k (64 * a + m), q.2.2.2.1, q.2.2.2.2) := if_pos ⟨e, by omega⟩
      rw [e1, e2]
      refine ⟨Or.inr ⟨by omega, ?_, ?_, by rw [Int.toNat_natCast]⟩, h.2⟩
      · show (a : Int) = _
        omega
      · show (m : Int) = _
        omega
    · have e1 : kbm (ks2 A w k) (64 * a + m + 1) = kbm (ks2 A w k) (64 * a + m) := by
        show (if _ then _ else _) = _
        rw [if_neg e, if_neg e3]
      have e2 : kof q a m (ks2 A w k (64 * a + m)) = q := if_neg (fun z => by omega)
      rw [e1, e2]
      exact h
set_option maxHeartbeats 4000000 in
set_option maxRecDepth 100000 in
theorem j_fl_in {G : kG} {d : Nat} {h : Nat → Option kC} {n : Nat} {q : Nat → Int} {F : Nat → Nat → Int} {Z : kCs} (md : rMD q F Z) (ok : kCok Z) {b : Int} (hby : 0 ≤ b ∧ b ≤ 5) {w : Int} (w0 : 1 ≤ w ∧ w ≤ 8) (hch : ∀ k : Nat, (k : Int) ≤ 2 * w → F 111 k = kch w k) {fl : Int × Int} {a : Nat} (ha : a < 64) (hc : ∀ t : Int × Int × Int × Int × Int, kJ3 (hM (cN Z) b.toNat) w (hW (cN Z) 0) fl (64 * a + 64) t → kE G mX10_findLine (d + 3) 0 0 62 [some (.ref (gB G + 97)), some (.int (jI b)), some (.int (jI w)), some (.int (jI (ksum (hM (cN Z) b.toNat) 64))), some (.int (jI a)), some (.int (jI 64))] [] (kmh G h (kset5 q t) F) n (fun r h' n' => ∃ t' : Int × Int × Int × Int × Int, r = none ∧ h' = kmh G h (kset5 q t') F ∧ n' = n ∧ kJ3 (hM (cN Z) b.toNat) w (hW (cN Z) 0) fl (4096) t'))  : ∀ (f : Nat) (x : Nat) (z : Int) (t : Int × Int × Int × Int × Int), z = (x : Int) → x ≤ 64 → 64 - (x : Int) ≤ f → kJ3 (hM (cN Z) b.toNat) w (hW (cN Z) 0) fl (64 * a + x) t → kE G mX10_findLine (d + 3) 0 0 30 [some (.ref (gB G + 97)), some (.int (jI b)), some (.int (jI w)), some (.int (jI (ksum (hM (cN Z) b.toNat) 64))), some (.int (jI a)), some (.int (jI z))] [] (kmh G h (kset5 q t) F) n (fun r h' n' => ∃ t' : Int × Int × Int × Int × Int, r = none ∧ h' = kmh G h (kset5 q t') F ∧ n' = n ∧ kJ3 (hM (cN Z) b.toNat) w (hW (cN Z) 0) fl (4096) t') := by
  have za := ok.1.1 b.toNat (by omega)
  have zA := kA_sum za
  obtain ⟨⟨k0, k1⟩, -⟩ := id ok.1.2.2.1
  obtain ⟨w1, w8⟩ := id w0
  have tl := kln_in (E := hE (cN Z) b.toNat) ok.1.2.2.2.1
  intro f
  induction f with
  | zero =>
    intro x z t g1 g2 g3 g4
    refine e_iload rfl dX10_findLine_30 ?_
    refine e_bipush (by decide) dX10_findLine_32 ?_
    refine e_icmp_ge (tgt := 62) dX10_findLine_34 (by decide) (by first | assumption | (unfold inI at *; omega)) (by first | assumption | (unfold inI at *; omega)) (fun c34 => ?_) (fun c34 => ?_)
    · have e9 : x = 64 := by omega
      subst e9
      subst g1
      exact hc t g4
    · exact absurd c34 (by omega)
  | succ f ih =>
    intro x z t g1 g2 g3 g4
    have q8 := kmf_in za (m := (x : Int)) (l := (a : Int)) (k := (hW (cN Z) 0)) w1 w8 k0 k1
    have q7 : (t.2.2.1 = -6 ∨ 0 ≤ t.2.2.1) ∧ inI t.2.2.1 := by
      have z0 := g4
      unfold kJ3 at z0
      rcases z0.1 with z1 | z1
      · unfold inI
        omega
      · have z2 := ks2_best za w1 w8 k0 k1 z1.1
        unfold inI
        omega
    refine e_iload rfl dX10_findLine_30 ?_
    refine e_bipush (by decide) dX10_findLine_32 ?_
    refine e_icmp_ge (tgt := 62) dX10_findLine_34 (by decide) (by unfold inI; omega) (by unfold inI; omega) (fun c34 => ?_) (fun c34 => ?_)
    · have e9 : x = 64 := by omega
      subst e9
      subst g1
      exact hc t g4
    · subst g1
      refine e_aload_n rfl dX10_findLine_37 ?_
      refine e_iload rfl dX10_findLine_38 ?_
      refine e_iload rfl dX10_findLine_40 ?_
      refine e_aload_n rfl dX10_findLine_42 ?_
      refine e_iload_n rfl dX10_findLine_43 ?_
      refine e_iload_n rfl dX10_findLine_44 ?_
      refine e_iload rfl dX10_findLine_45 ?_
      refine e_iload_n rfl dX10_findLine_47 ?_
      refine e_iload rfl dX10_findLine_48 ?_
      refine eV5 mtX10_misfitOf miX10_misfitOf lkX10_175 dX10_findLine_50 kmh_97 rfl rfl rfl (j_misfitOf (rMD_5 md t) ok hby (by omega) w0 (by omega) hch) ?_
      dsimp only [Option.toList, List.cons_append, List.nil_append]
      refine eV3 mtX10_keepBest miX10_keepBest lkX10_188 dX10_findLine_53 kmh_97 rfl rfl rfl (j_keepBest q7.1 q7.2 (by omega) (by unfold inI; omega)) ?_
      dsimp only [Option.toList, List.cons_append, List.nil_append]
      refine e_iinc dX10_findLine_56 rfl rfl ?_
      dsimp only [List.set]
      refine e_goto (tgt := 30) dX10_findLine_59 (by decide) ?_
      exact ih (x + 1) _ _ (by omega) (by omega) (by omega) (kof_J3 za w1 w8 k0 k1 (by omega) g4)
set_option maxHeartbeats 4000000 in
set_option maxRecDepth 100000 in
theorem j_fl_out {G : kG} {d : Nat} {h : Nat → Option kC} {n : Nat} {q : Nat → Int} {F : Nat → Nat → Int} {Z : kCs} (md : rMD q F Z) (ok : kCok Z) {b : Int} (hby : 0 ≤ b ∧ b ≤ 5) {w : Int} (w0 : 1 ≤ w ∧ w ≤ 8) (hch : ∀ k : Nat, (k : Int) ≤ 2 * w → F 111 k = kch w k) {fl : Int × Int}  : ∀ (f : Nat) (a : Nat) (z : Int) (t : Int × Int × Int × Int × Int) (e5 : Option Value), z = (a : Int) → a ≤ 64 → 64 - (a : Int) ≤ f → kJ3 (hM (cN Z) b.toNat) w (hW (cN Z) 0) fl (64 * a) t → kE G mX10_findLine (d + 3) 0 0 20 [some (.ref (gB G + 97)), some (.int (jI b)), some (.int (jI w)), some (.int (jI (ksum (hM (cN Z) b.toNat) 64))), some (.int (jI z)), e5] [] (kmh G h (kset5 q t) F) n (fun r h' n' => ∃ t' : Int × Int × Int × Int × Int, r = none ∧ h' = kmh G h (kset5 q t') F ∧ n' = n ∧ kJ3 (hM (cN Z) b.toNat) w (hW (cN Z) 0) fl (4096) t') := by
  have za := ok.1.1 b.toNat (by omega)
  have zA := kA_sum za
  obtain ⟨⟨k0, k1⟩, -⟩ := id ok.1.2.2.1
  obtain ⟨w1, w8⟩ := id w0
  have tl := kln_in (E := hE (cN Z) b.toNat) ok.1.2.2.2.1
  intro f
  induction f with
  | zero =>
    intro a z t e5 g1 g2 g3 g4
    refine e_iload rfl dX10_findLine_20 ?_
    refine e_bipush (by decide) dX10_findLine_22 ?_
    refine e_icmp_ge (tgt := 68) dX10_findLine_24 (by decide) (by first | assumption | (unfold inI at *; omega)) (by first | assumption | (unfold inI at *; omega)) (fun c24 => ?_) (fun c24 => ?_)
    · refine e_return dX10_findLine_68 rfl ?_
      exact ⟨t, rfl, rfl, rfl, by rw [show (4096 : Nat) = 64 * a by omega]; exact g4⟩
    · exact absurd c24 (by omega)
  | succ f ih =>
    intro a z t e5 g1 g2 g3 g4
    subst g1
    refine e_iload rfl dX10_findLine_20 ?_
    refine e_bipush (by decide) dX10_findLine_22 ?_
    refine e_icmp_ge (tgt := 68) dX10_findLine_24 (by decide) (by first | assumption | (unfold inI at *; omega)) (by first | assumption | (unfold inI at *; omega)) (fun c24 => ?_) (fun c24 => ?_)
    · refine e_return dX10_findLine_68 rfl ?_
      exact ⟨t, rfl, rfl, rfl, by rw [show (4096 : Nat) = 64 * a by omega]; exact g4⟩
    · refine e_iconst dX10_findLine_27 ?_
      refine e_istore dX10_findLine_28 rfl rfl ?_
      dsimp only [List.set]
      refine j_fl_in md ok hby w0 hch (a := a) (by omega) (fun t9 hj => ?_) 100 0 0 t (by omega) (by omega) (by omega) g4
      refine e_iinc dX10_findLine_62 rfl rfl ?_
      dsimp only [List.set]
      refine e_goto (tgt := 20) dX10_findLine_65 (by decide) ?_
      exact ih (a + 1) _ _ _ (by omega) (by omega) (by omega) (by rw [show 64 * (a + 1) = 64 * a + 64 by omega]; exact hj)
set_option maxHeartbeats 4000000 in
set_option maxRecDepth 100000 in
theorem j_findLine {G : kG} {d : Nat} {h : Nat → Option kC} {n : Nat} {q : Nat → Int} {F : Nat → Nat → Int} {Z : kCs} (md : rMD q F Z) (ok : kCok Z) {b : Int} (hby : 0 ≤ b ∧ b ≤ 5) {w : Int} (w0 : 1 ≤ w ∧ w ≤ 8)  : kCall G mX10_findLine (d + 3) 0 0 [.ref (gB G + 97), .int (jI b), .int (jI w)] (kmh G h q F) n (kre none (kmh G h (kset5 q (kbm (ks2 (hM (cN Z) b.toNat) w (hW (cN Z) 0)) 4096 / 64, kbm (ks2 (hM (cN Z) b.toNat) w (hW (cN Z) 0)) 4096 % 64, (ks2 (hM (cN Z) b.toNat) w (hW (cN Z) 0)) (kbm (ks2 (hM (cN Z) b.toNat) w (hW (cN Z) 0)) 4096).toNat, q 21, q 22)) (kF1 F w)) n) := by
  show kE G mX10_findLine (d + 3) 0 0 0 [some (.ref (gB G + 97)), some (.int (jI b)), some (.int (jI w)), none, none, none] [] (kmh G h q F) n _
  have za := ok.1.1 b.toNat (by omega)
  have zA := kA_sum za
  obtain ⟨⟨k0, k1⟩, -⟩ := id ok.1.2.2.1
  obtain ⟨w1, w8⟩ := id w0
  have tl := kln_in (E := hE (cN Z) b.toNat) ok.1.2.2.2.1
  have md1 : rMD q (kF1 F w) Z := rMD_F md (fun j h1 h2 => kF1_n h1)
  refine e_aload_n rfl dX10_findLine_0 ?_
  refine e_iload_n rfl dX10_findLine_1 ?_
  refine eV1 mtX10_findChosen miX10_findChosen lkX10_168 dX10_findLine_2 kmh_97 rfl rfl rfl (j_findChosen (by omega)) ?_
  dsimp only [Option.toList, List.cons_append, List.nil_append]
  refine e_aload_n rfl dX10_findLine_5 ?_
  refine e_iload_n rfl dX10_findLine_6 ?_
  refine eV1 mtX10_all miX10_all lkX10_172 dX10_findLine_7 kmh_97 rfl rfl rfl (j_all md1 ok hby) ?_
  dsimp only [Option.toList, List.cons_append, List.nil_append]
  refine e_istore_n dX10_findLine_10 rfl rfl ?_
  dsimp only [List.set]
  refine e_aload_n rfl dX10_findLine_11 ?_
  refine e_bipush (by decide) dX10_findLine_12 ?_
  refine e_mput pfX10_179 dX10_findLine_14 kml_20 rfl rfl rfl ?_
  rw [ks_n]
  refine e_iconst dX10_findLine_17 ?_
  refine e_istore dX10_findLine_18 rfl rfl ?_
  dsimp only [List.set]
  refine kE.mono (j_fl_out md1 ok hby w0 kF1_c (fl := (q 21, q 22)) 100 0 0 _ _ (by omega) (by omega) (by omega) ⟨Or.inl ⟨rfl, rfl⟩, rfl⟩) (fun r h' n' hq => ?_)
  obtain ⟨⟨y1, y2, y3, y4⟩, z1, z2, z3, z4, z5⟩ := hq
  have z8 := kso_last za (w := w) (l := 0) (k := (hW (cN Z) 0)) w1 w8 (by omega) k0 k1
  have z6 := kbm_min (ks2 (hM (cN Z) b.toNat) w (hW (cN Z) 0)) (show 63 < 4096 by omega) (by rw [ks2_0 (by omega)]; exact z8)
  refine ⟨z1, ?_, z3⟩
  rcases z4 with z4 | ⟨-, a1, a2, a3⟩
  · exact absurd z4.1 z6.1
  · dsimp only at a1 a2 a3 z5
    rw [z2, a1, a2, a3, z5]
set_option maxHeartbeats 4000000 in
set_option maxRecDepth 100000 in
theorem j_found {G : kG} {d : Nat} {h : Nat → Option kC} {n : Nat} {q : Nat → Int} {F : Nat → Nat → Int} {Z : kCs} (md : rMD q F Z) (ok : kCok Z)  {b : Int} (hb : inI b) {w : Int} (hw : inI w) {x : Int} (hx : inI x) : kCall G mX10_found (d + 4) 0 0 [.ref (gB G + 97), .int (jI b), .int (jI w), .int (jI x)] (kmh G h q F) n (kQm G h n (.int (jI (a_found Z b w x))) (Z)) := by
  show kE G mX10_found (d + 4) 0 0 0 [some (.ref (gB G + 97)), some (.int (jI b)), some (.int (jI w)), some (.int (jI x))] [] (kmh G h q F) n _
  refine e_iload_n rfl dX10_found_0 ?_
  refine eS1 mtX10_isBook msX10_isBook lkX10_76 dX10_found_1 rfl rfl (j_isBook (by first | assumption | (unfold inI at *; omega))) ?_
  dsimp only [Option.toList, List.cons_append, List.nil_append]
  refine e_ifneP (tgt := 9) dX10_found_4 (by decide) (fun c4 => ?_) (fun c4 => ?_)
  · refine e_iload_n rfl dX10_found_9 ?_
    refine eS1 mtX10_isWidth msX10_isWidth lkX10_152 dX10_found_10 rfl rfl (j_isWidth (by first | assumption | (unfold inI at *; omega))) ?_
    dsimp only [Option.toList, List.cons_append, List.nil_append]
    refine e_ifeqP (tgt := 28) dX10_found_13 (by decide) (fun c13 => ?_) (fun c13 => ?_)
    · refine e_bipush (by decide) dX10_found_28 ?_
      refine e_ireturn dX10_found_30 rfl rfl ?_
      exact kQm_0 (by unfold a_found; first | (rw [if_pos (by omega)]; done) | (rw [if_neg (by omega), if_neg (by omega)]; done)) md
    · refine e_iload_n rfl dX10_found_16 ?_
      refine e_i2l (by first | assumption | (unfold inI at *; omega)) dX10_found_17 ?_
      refine e_lconst (z := 0) (by decide) dX10_found_18 ?_
      refine e_ldc2 (z := 2) kcX10_89 (by decide) dX10_found_19 ?_
      refine eS3 mtX10_in msX10_in lkX10_64 dX10_found_22 rfl rfl (j_in (by first | assumption | exact inL_of (by assumption) | (unfold inL; omega) | (unfold inI at *; unfold inL; omega)) (by first | assumption | exact inL_of (by assumption) | (unfold inL; omega) | (unfold inI at *; unfold inL; omega)) (by first | assumption | exact inL_of (by assumption) | (unfold inL; omega) | (unfold inI at *; unfold inL; omega))) ?_
      dsimp only [Option.toList, List.cons_append, List.nil_append]
      refine e_ifneP (tgt := 31) dX10_found_25 (by decide) (fun c25 => ?_) (fun c25 => ?_)
      · refine e_aload_n rfl dX10_found_31 ?_
        refine e_iload_n rfl dX10_found_32 ?_
        refine e_iload_n rfl dX10_found_33 ?_
        refine eV2 mtX10_findLine miX10_findLine lkX10_205 dX10_found_34 kmh_97 rfl rfl rfl (j_findLine md ok (by omega) (by omega)) ?_
        dsimp only [Option.toList, List.cons_append, List.nil_append]
        refine e_iload_n rfl dX10_found_37 ?_
        refine e_if_ne (tgt := 48) dX10_found_38 (by decide) (by first | assumption | (unfold inI at *; omega)) (fun c38 => ?_) (fun c38 => ?_)
        · refine e_iload_n rfl dX10_found_48 ?_
          refine e_iconst dX10_found_49 ?_
          refine e_icmp_ne (tgt := 60) dX10_found_50 (by decide) (by first | assumption | (unfold inI at *; omega)) (by first | assumption | (unfold inI at *; omega)) (fun c50 => ?_) (fun c50 => ?_)
          · refine e_aload_n rfl dX10_found_60 ?_
            refine e_getf fdX10_179 dX10_found_61 kmh_97 rfl ?_
            refine e_ireturn dX10_found_64 rfl rfl ?_
            exact ⟨by unfold a_found; rw [if_neg (by omega), if_pos (by omega)]; first | (rw [if_pos (by assumption)]; rfl) | (rw [if_neg (by assumption), if_pos (by assumption)]; rfl) | (rw [if_neg (by assumption), if_neg (by assumption)]; rfl), rfl, _, _, rfl, (rMD_5 (rMD_F md (fun j h1 h2 => kF1_n h1)) _)⟩
          · refine e_aload_n rfl dX10_found_53 ?_
            refine e_getf fdX10_185 dX10_found_54 kmh_97 rfl ?_
            refine e_goto (tgt := 64) dX10_found_57 (by decide) ?_
            refine e_ireturn dX10_found_64 rfl rfl ?_
            exact ⟨by unfold a_found; rw [if_neg (by omega), if_pos (by omega)]; first | (rw [if_pos (by assumption)]; rfl) | (rw [if_neg (by assumption), if_pos (by assumption)]; rfl) | (rw [if_neg (by assumption), if_neg (by assumption)]; rfl), rfl, _, _, rfl, (rMD_5 (rMD_F md (fun j h1 h2 => kF1_n h1)) _)⟩
        · refine e_aload_n rfl dX10_found_41 ?_
          refine e_getf fdX10_182 dX10_found_42 kmh_97 rfl ?_
          refine e_goto (tgt := 64) dX10_found_45 (by decide) ?_
          refine e_ireturn dX10_found_64 rfl rfl ?_
          exact ⟨by unfold a_found; rw [if_neg (by omega), if_pos (by omega)]; first | (rw [if_pos (by assumption)]; rfl) | (rw [if_neg (by assumption), if_pos (by assumption)]; rfl) | (rw [if_neg (by assumption), if_neg (by assumption)]; rfl), rfl, _, _, rfl, (rMD_5 (rMD_F md (fun j h1 h2 => kF1_n h1)) _)⟩
      · refine e_bipush (by decide) dX10_found_28 ?_
        refine e_ireturn dX10_found_30 rfl rfl ?_
        exact kQm_0 (by unfold a_found; first | (rw [if_pos (by omega)]; done) | (rw [if_neg (by omega), if_neg (by omega)]; done)) md
  · refine e_iconst dX10_found_7 ?_
    refine e_ireturn dX10_found_8 rfl rfl ?_
    exact kQm_0 (by unfold a_found; first | (rw [if_pos (by omega)]; done) | (rw [if_neg (by omega), if_neg (by omega)]; done)) md
