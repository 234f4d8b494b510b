/-! THE REFERENCE: MAKE, OFF, BEST -/
set_option maxHeartbeats 4000000 in
set_option maxRecDepth 100000 in
theorem j_make_lp {G : kG} {d : Nat} {h : Nat → Option kC} {n : Nat} {q : Nat → Int} {F : Nat → Nat → Int} {Z : kCs} (md : rMD q F Z) (ok : kCok Z) {b : Int} (hby : 0 ≤ b ∧ b ≤ 5) {u m w x : Int} (u0 : 0 ≤ u ∧ u ≤ 65536) (m0 : 0 ≤ m ∧ m ≤ 63) (w0 : 1 ≤ w ∧ w ≤ 8) (x0 : 0 ≤ x ∧ x ≤ 200)  : ∀ (f : Nat) (i : Nat) (z t : Int) (e9 e10 : Option Value), z = (i : Int) → (i : Int) ≤ x → x - (i : Int) ≤ f → t = ksum (kmk (hW (cN Z)) (kln (hE (cN Z) b.toNat) (hR (cN Z))) m w u i).1 64 → kE G mX10_makeIn (d + 2) 0 0 52 [some (.ref (gB G + 97)), some (.int (jI b)), some (.int (jI u)), some (.int (jI m)), some (.int (jI w)), some (.int (jI x)), some (.int (jI (kln (hE (cN Z) b.toNat) (hR (cN Z))))), some (.int (jI t)), some (.int (jI z)), e9, e10] [] (kmh G h (up q 27 (kmk (hW (cN Z)) (kln (hE (cN Z) b.toNat) (hR (cN Z))) m w u i).2) (up2 (kF1 F w) 98 (kput9 (F 98) b.toNat (kmk (hW (cN Z)) (kln (hE (cN Z) b.toNat) (hR (cN Z))) m w u i).1))) n (kre (some (.int (jI (ksum (kmk (hW (cN Z)) (kln (hE (cN Z) b.toNat) (hR (cN Z))) m w u x.toNat).1 64)))) (kmh G h (up q 27 (kmk (hW (cN Z)) (kln (hE (cN Z) b.toNat) (hR (cN Z))) m w u x.toNat).2) (up2 (kF1 F w) 98 (kput9 (F 98) b.toNat (kmk (hW (cN Z)) (kln (hE (cN Z) b.toNat) (hR (cN Z))) m w u x.toNat).1))) n) := by
  have tl := kln_in (E := hE (cN Z) b.toNat) ok.1.2.2.2.1
  obtain ⟨w1, w8⟩ := id w0
  have t4 : (4 : Int) ≤ 4 ^ w.toNat ∧ (4 : Int) ^ w.toNat ≤ 65536 := by rcases (show w = 1 ∨ w = 2 ∨ w = 3 ∨ w = 4 ∨ w = 5 ∨ w = 6 ∨ w = 7 ∨ w = 8 by omega) with q | q | q | q | q | q | q | q <;> subst q <;> decide
  intro f
  induction f with
  | zero =>
    intro i z t e9 e10 g1 g2 g3 g4
    refine e_iload rfl dX10_makeIn_52 ?_
    refine e_iload rfl dX10_makeIn_54 ?_
    refine e_icmp_ge (tgt := 130) dX10_makeIn_56 (by decide) (by first | assumption | (unfold inI at *; omega)) (by first | assumption | (unfold inI at *; omega)) (fun c56 => ?_) (fun c56 => ?_)
    · refine e_iload rfl dX10_makeIn_130 ?_
      refine e_ireturn dX10_makeIn_132 rfl rfl ?_
      exact ⟨by rw [g4, show i = x.toNat by omega], by rw [show i = x.toNat by omega], rfl⟩
    · exact absurd c56 (by omega)
  | succ f ih =>
    intro i z t e9 e10 g1 g2 g3 g4
    subst g1
    have q9 := kmk_in (hW (cN Z)) (m := m) (w := w) tl.1 tl.2 u0.1 u0.2 i
    have q8 := ksd_in (kmk (hW (cN Z)) (kln (hE (cN Z) b.toNat) (hR (cN Z))) m w u i).2
    have q7 := kpick_in (w := w) (f := (2 * w).toNat) (k := 0) (left := ksd (kmk (hW (cN Z)) (kln (hE (cN Z) b.toNat) (hR (cN Z))) m w u i).2 % 4 ^ w.toNat)
    have q6 := Int.emod_nonneg (ksd (kmk (hW (cN Z)) (kln (hE (cN Z) b.toNat) (hR (cN Z))) m w u i).2) (show (4 ^ w.toNat : Int) ≠ 0 by omega)
    have q5 := Int.emod_lt_of_pos (ksd (kmk (hW (cN Z)) (kln (hE (cN Z) b.toNat) (hR (cN Z))) m w u i).2) (show (0 : Int) < 4 ^ w.toNat by omega)
    have qA := kmk_ok ok.1 (E := hE (cN Z) b.toNat) (m := m) (w := w) (s := u) (x := (i : Int)) u0.1 u0.2 (by omega) (by omega)
    rw [Int.toNat_natCast] at qA
    refine e_iload rfl dX10_makeIn_52 ?_
    refine e_iload rfl dX10_makeIn_54 ?_
    refine e_icmp_ge (tgt := 130) dX10_makeIn_56 (by decide) (by first | assumption | (unfold inI at *; omega)) (by first | assumption | (unfold inI at *; omega)) (fun c56 => ?_) (fun c56 => ?_)
    · refine e_iload rfl dX10_makeIn_130 ?_
      refine e_ireturn dX10_makeIn_132 rfl rfl ?_
      exact ⟨by rw [g4, show i = x.toNat by omega], by rw [show i = x.toNat by omega], rfl⟩
    · refine e_aload_n rfl dX10_makeIn_59 ?_
      refine e_iload_n rfl dX10_makeIn_60 ?_
      refine e_iload rfl dX10_makeIn_61 ?_
      refine e_aload_n rfl dX10_makeIn_63 ?_
      refine e_iconst dX10_makeIn_64 ?_
      refine e_iconst dX10_makeIn_65 ?_
      refine e_iload rfl dX10_makeIn_66 ?_
      refine e_imul dX10_makeIn_68 ?_
      refine e_ishl (v := (4 ^ w.toNat : Int)) (by rcases (show w = 1 ∨ w = 2 ∨ w = 3 ∨ w = 4 ∨ w = 5 ∨ w = 6 ∨ w = 7 ∨ w = 8 by omega) with q | q | q | q | q | q | q | q <;> subst q <;> decide) dX10_makeIn_69 ?_
      refine eV1 mtX10_draw miX10_draw lkX10_277 dX10_makeIn_70 kmh_97 rfl rfl rfl (j_draw (by omega) (by omega)) ?_
      dsimp only [Option.toList, List.cons_append, List.nil_append]
      refine eV3 mtX10_heightOf miX10_heightOf lkX10_280 dX10_makeIn_73 kmh_97 rfl rfl rfl (j_heightOf m0 w0 (fun k hk => by rw [up2_n (by decide)]; exact kF1_c k hk) (by omega) q5) ?_
      dsimp only [Option.toList, List.cons_append, List.nil_append]
      rw [show m - w + kpick w (2 * w).toNat 0 (ksd (kmk (hW (cN Z)) (kln (hE (cN Z) b.toNat) (hR (cN Z))) m w u i).2 % 4 ^ w.toNat) = kmx m w (kmk (hW (cN Z)) (kln (hE (cN Z) b.toNat) (hR (cN Z))) m w u i).2 from rfl]
      have q4 : -8 ≤ (kmx m w (kmk (hW (cN Z)) (kln (hE (cN Z) b.toNat) (hR (cN Z))) m w u i).2) ∧ (kmx m w (kmk (hW (cN Z)) (kln (hE (cN Z) b.toNat) (hR (cN Z))) m w u i).2) ≤ 80 := by unfold kmx; omega
      refine e_istore dX10_makeIn_76 rfl rfl ?_
      dsimp only [List.set]
      refine e_iload rfl dX10_makeIn_78 ?_
      refine eS1 mtX10_isHeight msX10_isHeight lkX10_80 dX10_makeIn_80 rfl rfl (j_isHeight (by first | assumption | (unfold inI at *; omega))) ?_
      dsimp only [Option.toList, List.cons_append, List.nil_append]
      refine e_ifeqP (tgt := 97) dX10_makeIn_83 (by decide) (fun c83 => ?_) (fun c83 => ?_)
      · refine e_bipush (by decide) dX10_makeIn_97 ?_
        refine e_istore dX10_makeIn_99 rfl rfl ?_
        dsimp only [List.set]
        refine e_iload rfl dX10_makeIn_101 ?_
        refine e_if_lt (tgt := 124) dX10_makeIn_103 (by decide) (by unfold inI; omega) (fun c103 => ?_) (fun c103 => absurd c103 (by omega))
        refine e_iinc dX10_makeIn_124 rfl rfl ?_
        dsimp only [List.set]
        refine e_goto (tgt := 52) dX10_makeIn_127 (by decide) ?_
        have e9 : kmk (hW (cN Z)) (kln (hE (cN Z) b.toNat) (hR (cN Z))) m w u (i + 1) = kmk1 (hW (cN Z)) (kln (hE (cN Z) b.toNat) (hR (cN Z))) m w (kmk (hW (cN Z)) (kln (hE (cN Z) b.toNat) (hR (cN Z))) m w u i) := rfl
        unfold kmk1 at e9
        have q2 := fun t e10 => ih (i + 1) ((i : Int) + 1) t (some (.int (jI (kmx m w (kmk (hW (cN Z)) (kln (hE (cN Z) b.toNat) (hR (cN Z))) m w u i).2)))) e10 (by omega) (by omega) (by omega)
        first
        | (rw [if_pos (show 0 ≤ (kmx m w (kmk (hW (cN Z)) (kln (hE (cN Z) b.toNat) (hR (cN Z))) m w u i).2) ∧ (kmx m w (kmk (hW (cN Z)) (kln (hE (cN Z) b.toNat) (hR (cN Z))) m w u i).2) ≤ 63 by omega), if_neg (by omega)] at e9; rw [e9] at q2; dsimp only at q2; exact q2 _ _ (by rw [g4, ksum_up (by omega)]; omega))
        | (rw [if_pos (show 0 ≤ (kmx m w (kmk (hW (cN Z)) (kln (hE (cN Z) b.toNat) (hR (cN Z))) m w u i).2) ∧ (kmx m w (kmk (hW (cN Z)) (kln (hE (cN Z) b.toNat) (hR (cN Z))) m w u i).2) ≤ 63 by omega), if_pos (by omega)] at e9; rw [e9] at q2; exact q2 _ _ g4)
        | (rw [if_neg (show ¬ (0 ≤ (kmx m w (kmk (hW (cN Z)) (kln (hE (cN Z) b.toNat) (hR (cN Z))) m w u i).2) ∧ (kmx m w (kmk (hW (cN Z)) (kln (hE (cN Z) b.toNat) (hR (cN Z))) m w u i).2) ≤ 63) by omega)] at e9; rw [e9] at q2; exact q2 _ _ g4)
      · refine e_aload_n rfl dX10_makeIn_86 ?_
        refine e_iload rfl dX10_makeIn_87 ?_
        refine e_iload rfl dX10_makeIn_89 ?_
        refine eV2 mtX10_writtenAt miX10_writtenAt lkX10_283 dX10_makeIn_91 kmh_97 rfl rfl rfl (j_writtenAt (q := q) (rMD_A (q' := q) (F' := (up2 (kF1 F w) 98 (kput9 (F 98) b.toNat (kmk (hW (cN Z)) (kln (hE (cN Z) b.toNat) (hR (cN Z))) m w u i).1))) (A := (kmk (hW (cN Z)) (kln (hE (cN Z) b.toNat) (hR (cN Z))) m w u i).1) (B := hM (cN Z) b.toNat) (Z := Z) (b := b.toNat) (by rw [kZA_i]; exact md) ⟨rfl, rfl, rfl, rfl⟩ (fun j h1 h2 h3 => (up2_n h1).trans (kF1_n h2)) up2_s) (kZA_ok ok qA) q8 tl (by omega)) ?_
        dsimp only [Option.toList, List.cons_append, List.nil_append]
        rw [show (hW (cN (kZA Z b.toNat (kmk (hW (cN Z)) (kln (hE (cN Z) b.toNat) (hR (cN Z))) m w u i).1))) = hW (cN Z) from rfl]
        have q3 := kp1_in (W := hW (cN Z)) (l := (kln (hE (cN Z) b.toNat) (hR (cN Z)))) (x := (kmx m w (kmk (hW (cN Z)) (kln (hE (cN Z) b.toNat) (hR (cN Z))) m w u i).2)) (s := ksd (kmk (hW (cN Z)) (kln (hE (cN Z) b.toNat) (hR (cN Z))) m w u i).2) tl.1 tl.2 (by omega) (by omega) q8.1 q8.2
        refine e_goto (tgt := 99) dX10_makeIn_94 (by decide) ?_
        refine e_istore dX10_makeIn_99 rfl rfl ?_
        dsimp only [List.set]
        refine e_iload rfl dX10_makeIn_101 ?_
        refine e_if_lt (tgt := 124) dX10_makeIn_103 (by decide) (by unfold inI; omega) (fun c103 => ?_) (fun c103 => ?_)
        · refine e_iinc dX10_makeIn_124 rfl rfl ?_
          dsimp only [List.set]
          refine e_goto (tgt := 52) dX10_makeIn_127 (by decide) ?_
          have e9 : kmk (hW (cN Z)) (kln (hE (cN Z) b.toNat) (hR (cN Z))) m w u (i + 1) = kmk1 (hW (cN Z)) (kln (hE (cN Z) b.toNat) (hR (cN Z))) m w (kmk (hW (cN Z)) (kln (hE (cN Z) b.toNat) (hR (cN Z))) m w u i) := rfl
          unfold kmk1 at e9
          have q2 := fun t e10 => ih (i + 1) ((i : Int) + 1) t (some (.int (jI (kmx m w (kmk (hW (cN Z)) (kln (hE (cN Z) b.toNat) (hR (cN Z))) m w u i).2)))) e10 (by omega) (by omega) (by omega)
          first
          | (rw [if_pos (show 0 ≤ (kmx m w (kmk (hW (cN Z)) (kln (hE (cN Z) b.toNat) (hR (cN Z))) m w u i).2) ∧ (kmx m w (kmk (hW (cN Z)) (kln (hE (cN Z) b.toNat) (hR (cN Z))) m w u i).2) ≤ 63 by omega), if_neg (by omega)] at e9; rw [e9] at q2; dsimp only at q2; exact q2 _ _ (by rw [g4, ksum_up (by omega)]; omega))
          | (rw [if_pos (show 0 ≤ (kmx m w (kmk (hW (cN Z)) (kln (hE (cN Z) b.toNat) (hR (cN Z))) m w u i).2) ∧ (kmx m w (kmk (hW (cN Z)) (kln (hE (cN Z) b.toNat) (hR (cN Z))) m w u i).2) ≤ 63 by omega), if_pos (by omega)] at e9; rw [e9] at q2; exact q2 _ _ g4)
          | (rw [if_neg (show ¬ (0 ≤ (kmx m w (kmk (hW (cN Z)) (kln (hE (cN Z) b.toNat) (hR (cN Z))) m w u i).2) ∧ (kmx m w (kmk (hW (cN Z)) (kln (hE (cN Z) b.toNat) (hR (cN Z))) m w u i).2) ≤ 63) by omega)] at e9; rw [e9] at q2; exact q2 _ _ g4)
        · refine e_aload_n rfl dX10_makeIn_106 ?_
          refine e_getf fdX10_7 dX10_makeIn_107 kmh_97 rfl ?_
          refine e_iload_n rfl dX10_makeIn_110 ?_
          refine e_iload rfl dX10_makeIn_111 ?_
          refine eS2 mtX10_at msX10_at lkX10_85 dX10_makeIn_113 rfl rfl j_at ?_
          dsimp only [Option.toList, List.cons_append, List.nil_append]
          refine e_dup2 rfl rfl dX10_makeIn_116 ?_
          refine e_mld (by first | exact ka98 | exact ka99 | exact ka100 | exact ka101 | exact ka102 | exact ka103 | exact ka104 | exact ka105 | exact ka106 | exact ka107 | exact ka108 | exact ka109 | exact ka110 | exact ka111 | exact ka112 | exact ka113) dX10_makeIn_117 (by omega) (by omega) ?_
          rw [up2_s, show (64 * b + (kp1 (hW (cN Z)) (kln (hE (cN Z) b.toNat) (hR (cN Z))) (kmx m w (kmk (hW (cN Z)) (kln (hE (cN Z) b.toNat) (hR (cN Z))) m w u i).2) (ksd (kmk (hW (cN Z)) (kln (hE (cN Z) b.toNat) (hR (cN Z))) m w u i).2)).1).toNat = 64 * b.toNat + (kp1 (hW (cN Z)) (kln (hE (cN Z) b.toNat) (hR (cN Z))) (kmx m w (kmk (hW (cN Z)) (kln (hE (cN Z) b.toNat) (hR (cN Z))) m w u i).2) (ksd (kmk (hW (cN Z)) (kln (hE (cN Z) b.toNat) (hR (cN Z))) m w u i).2)).1.toNat by omega, kput9_a (by omega)]
          refine e_iconst dX10_makeIn_118 ?_
          refine e_iadd dX10_makeIn_119 ?_
          refine e_mst (by first | exact ka98 | exact ka99 | exact ka100 | exact ka101 | exact ka102 | exact ka103 | exact ka104 | exact ka105 | exact ka106 | exact ka107 | exact ka108 | exact ka109 | exact ka110 | exact ka111 | exact ka112 | exact ka113) dX10_makeIn_120 (by omega) (by omega) ?_
          rw [up2_up2, up2_s, show (64 * b + (kp1 (hW (cN Z)) (kln (hE (cN Z) b.toNat) (hR (cN Z))) (kmx m w (kmk (hW (cN Z)) (kln (hE (cN Z) b.toNat) (hR (cN Z))) m w u i).2) (ksd (kmk (hW (cN Z)) (kln (hE (cN Z) b.toNat) (hR (cN Z))) m w u i).2)).1).toNat = 64 * b.toNat + (kp1 (hW (cN Z)) (kln (hE (cN Z) b.toNat) (hR (cN Z))) (kmx m w (kmk (hW (cN Z)) (kln (hE (cN Z) b.toNat) (hR (cN Z))) m w u i).2) (ksd (kmk (hW (cN Z)) (kln (hE (cN Z) b.toNat) (hR (cN Z))) m w u i).2)).1.toNat by omega, kput9_s (by omega)]
          refine e_iinc dX10_makeIn_121 rfl rfl ?_
          dsimp only [List.set]
          refine e_iinc dX10_makeIn_124 rfl rfl ?_
          dsimp only [List.set]
          refine e_goto (tgt := 52) dX10_makeIn_127 (by decide) ?_
          have e9 : kmk (hW (cN Z)) (kln (hE (cN Z) b.toNat) (hR (cN Z))) m w u (i + 1) = kmk1 (hW (cN Z)) (kln (hE (cN Z) b.toNat) (hR (cN Z))) m w (kmk (hW (cN Z)) (kln (hE (cN Z) b.toNat) (hR (cN Z))) m w u i) := rfl
          unfold kmk1 at e9
          have q2 := fun t e10 => ih (i + 1) ((i : Int) + 1) t (some (.int (jI (kmx m w (kmk (hW (cN Z)) (kln (hE (cN Z) b.toNat) (hR (cN Z))) m w u i).2)))) e10 (by omega) (by omega) (by omega)
          first
          | (rw [if_pos (show 0 ≤ (kmx m w (kmk (hW (cN Z)) (kln (hE (cN Z) b.toNat) (hR (cN Z))) m w u i).2) ∧ (kmx m w (kmk (hW (cN Z)) (kln (hE (cN Z) b.toNat) (hR (cN Z))) m w u i).2) ≤ 63 by omega), if_neg (by omega)] at e9; rw [e9] at q2; dsimp only at q2; exact q2 _ _ (by rw [g4, ksum_up (by omega)]; omega))
          | (rw [if_pos (show 0 ≤ (kmx m w (kmk (hW (cN Z)) (kln (hE (cN Z) b.toNat) (hR (cN Z))) m w u i).2) ∧ (kmx m w (kmk (hW (cN Z)) (kln (hE (cN Z) b.toNat) (hR (cN Z))) m w u i).2) ≤ 63 by omega), if_pos (by omega)] at e9; rw [e9] at q2; exact q2 _ _ g4)
          | (rw [if_neg (show ¬ (0 ≤ (kmx m w (kmk (hW (cN Z)) (kln (hE (cN Z) b.toNat) (hR (cN Z))) m w u i).2) ∧ (kmx m w (kmk (hW (cN Z)) (kln (hE (cN Z) b.toNat) (hR (cN Z))) m w u i).2) ≤ 63) by omega)] at e9; rw [e9] at q2; exact q2 _ _ g4)
set_option maxHeartbeats 4000000 in
set_option maxRecDepth 100000 in
theorem j_make_28 {G : kG} {d : Nat} {h : Nat → Option kC} {n : Nat} {q : Nat → Int} {F : Nat → Nat → Int} {Z : kCs} (md : rMD q F Z) (ok : kCok Z) {b : Int} (hby : 0 ≤ b ∧ b ≤ 5) {u m w x : Int} (u0 : 0 ≤ u ∧ u ≤ 65536) (m0 : 0 ≤ m ∧ m ≤ 63) (w0 : 1 ≤ w ∧ w ≤ 8) (x0 : 0 ≤ x ∧ x ≤ 200) {e6 : Option Value} : kE G mX10_makeIn (d + 2) 0 0 28 [some (.ref (gB G + 97)), some (.int (jI b)), some (.int (jI u)), some (.int (jI m)), some (.int (jI w)), some (.int (jI x)), e6, none, none, none, none] [] (kmh G h q (up2 F 98 (kput9 (F 98) b.toNat (fun _ => 0)))) n (kre (some (.int (jI (ksum (kmk (hW (cN Z)) (kln (hE (cN Z) b.toNat) (hR (cN Z))) m w u x.toNat).1 64)))) (kmh G h (up q 27 (kmk (hW (cN Z)) (kln (hE (cN Z) b.toNat) (hR (cN Z))) m w u x.toNat).2) (up2 (kF1 F w) 98 (kput9 (F 98) b.toNat (kmk (hW (cN Z)) (kln (hE (cN Z) b.toNat) (hR (cN Z))) m w u x.toNat).1))) n) := by
  have tl := kln_in (E := hE (cN Z) b.toNat) ok.1.2.2.2.1
  obtain ⟨w1, w8⟩ := id w0
  have t4 : (4 : Int) ≤ 4 ^ w.toNat ∧ (4 : Int) ^ w.toNat ≤ 65536 := by rcases (show w = 1 ∨ w = 2 ∨ w = 3 ∨ w = 4 ∨ w = 5 ∨ w = 6 ∨ w = 7 ∨ w = 8 by omega) with q | q | q | q | q | q | q | q <;> subst q <;> decide
  have md0 : rMD q (kF1 (up2 F 98 (kput9 (F 98) b.toNat (fun _ => 0))) w) (kZA Z b.toNat (fun _ => 0)) := rMD_A (q' := q) (B := hM (cN Z) b.toNat) (by rw [kZA_i]; exact md) ⟨rfl, rfl, rfl, rfl⟩ (fun j h1 h2 h3 => (kF1_n h2).trans (up2_n h1)) ((kF1_n (by decide)).trans up2_s)
  have ok0 : kCok (kZA Z b.toNat (fun _ => 0)) := kZA_ok ok (fun j _ => ⟨Int.le_refl 0, by decide⟩)
  refine e_aload_n rfl dX10_makeIn_28 ?_
  refine e_iload rfl dX10_makeIn_29 ?_
  refine eV1 mtX10_findChosen miX10_findChosen lkX10_168 dX10_makeIn_31 kmh_97 rfl rfl rfl (j_findChosen (by omega)) ?_
  dsimp only [Option.toList, List.cons_append, List.nil_append]
  refine e_aload_n rfl dX10_makeIn_34 ?_
  refine e_iload_n rfl dX10_makeIn_35 ?_
  refine eV1 mtX10_lineOf miX10_lineOf lkX10_146 dX10_makeIn_36 kmh_97 rfl rfl rfl (j_lineOf md0 ok0 hby) ?_
  dsimp only [Option.toList, List.cons_append, List.nil_append]
  rw [kF1_98, show kln (hE (cN (kZA Z b.toNat (fun _ => 0))) b.toNat) (hR (cN (kZA Z b.toNat (fun _ => 0)))) = (kln (hE (cN Z) b.toNat) (hR (cN Z))) from rfl]
  refine e_istore dX10_makeIn_39 rfl rfl ?_
  dsimp only [List.set]
  refine e_iconst dX10_makeIn_41 ?_
  refine e_istore dX10_makeIn_42 rfl rfl ?_
  dsimp only [List.set]
  refine e_aload_n rfl dX10_makeIn_44 ?_
  refine e_iload_n rfl dX10_makeIn_45 ?_
  refine e_mput pfX10_273 dX10_makeIn_46 kml_27 rfl rfl rfl ?_
  refine e_iconst dX10_makeIn_49 ?_
  refine e_istore dX10_makeIn_50 rfl rfl ?_
  dsimp only [List.set]
  exact j_make_lp md ok hby u0 m0 w0 x0 300 0 0 0 _ _ (by omega) (by omega) (by omega) rfl
set_option maxHeartbeats 4000000 in
set_option maxRecDepth 100000 in
theorem j_make_cl {G : kG} {d : Nat} {h : Nat → Option kC} {n : Nat} {q : Nat → Int} {F : Nat → Nat → Int} {Z : kCs} (md : rMD q F Z) (ok : kCok Z) {b : Int} (hby : 0 ≤ b ∧ b ≤ 5) {u m w x : Int} (u0 : 0 ≤ u ∧ u ≤ 65536) (m0 : 0 ≤ m ∧ m ≤ 63) (w0 : 1 ≤ w ∧ w ≤ 8) (x0 : 0 ≤ x ∧ x ≤ 200)  : ∀ (f : Nat) (i : Nat) (z : Int), z = (i : Int) → i ≤ 64 → 64 - (i : Int) ≤ f → kE G mX10_makeIn (d + 2) 0 0 3 [some (.ref (gB G + 97)), some (.int (jI b)), some (.int (jI u)), some (.int (jI m)), some (.int (jI w)), some (.int (jI x)), some (.int (jI z)), none, none, none, none] [] (kmh G h q (up2 F 98 (kclr (F 98) b.toNat i))) n (kre (some (.int (jI (ksum (kmk (hW (cN Z)) (kln (hE (cN Z) b.toNat) (hR (cN Z))) m w u x.toNat).1 64)))) (kmh G h (up q 27 (kmk (hW (cN Z)) (kln (hE (cN Z) b.toNat) (hR (cN Z))) m w u x.toNat).2) (up2 (kF1 F w) 98 (kput9 (F 98) b.toNat (kmk (hW (cN Z)) (kln (hE (cN Z) b.toNat) (hR (cN Z))) m w u x.toNat).1))) n) := by
  intro f
  induction f with
  | zero =>
    intro i z g1 g2 g3
    refine e_iload rfl dX10_makeIn_3 ?_
    refine e_bipush (by decide) dX10_makeIn_5 ?_
    refine e_icmp_ge (tgt := 28) dX10_makeIn_7 (by decide) (by first | assumption | (unfold inI at *; omega)) (by first | assumption | (unfold inI at *; omega)) (fun c7 => ?_) (fun c7 => ?_)
    · have e9 : i = 64 := by omega
      subst e9
      rw [kclr_e]
      exact j_make_28 md ok hby u0 m0 w0 x0
    · exact absurd c7 (by omega)
  | succ f ih =>
    intro i z g1 g2 g3
    subst g1
    refine e_iload rfl dX10_makeIn_3 ?_
    refine e_bipush (by decide) dX10_makeIn_5 ?_
    refine e_icmp_ge (tgt := 28) dX10_makeIn_7 (by decide) (by first | assumption | (unfold inI at *; omega)) (by first | assumption | (unfold inI at *; omega)) (fun c7 => ?_) (fun c7 => ?_)
    · have e9 : i = 64 := by omega
      subst e9
      rw [kclr_e]
      exact j_make_28 md ok hby u0 m0 w0 x0
    · refine e_aload_n rfl dX10_makeIn_10 ?_
      refine e_getf fdX10_7 dX10_makeIn_11 kmh_97 rfl ?_
      refine e_iload_n rfl dX10_makeIn_14 ?_
      refine e_iload rfl dX10_makeIn_15 ?_
      refine eS2 mtX10_at msX10_at lkX10_85 dX10_makeIn_17 rfl rfl j_at ?_
      dsimp only [Option.toList, List.cons_append, List.nil_append]
      refine e_iconst dX10_makeIn_20 ?_
      refine e_mst (by first | exact ka98 | exact ka99 | exact ka100 | exact ka101 | exact ka102 | exact ka103 | exact ka104 | exact ka105 | exact ka106 | exact ka107 | exact ka108 | exact ka109 | exact ka110 | exact ka111 | exact ka112 | exact ka113) dX10_makeIn_21 (by omega) (by omega) ?_
      rw [up2_s, up2_up2, show (64 * b + (i : Int)).toNat = 64 * b.toNat + i by omega, kclr_s]
      refine e_iinc dX10_makeIn_22 rfl rfl ?_
      dsimp only [List.set]
      refine e_goto (tgt := 3) dX10_makeIn_25 (by decide) ?_
      exact ih (i + 1) _ (by omega) (by omega) (by omega)
set_option maxHeartbeats 4000000 in
set_option maxRecDepth 100000 in
theorem j_makeIn {G : kG} {d : Nat} {h : Nat → Option kC} {n : Nat} {q : Nat → Int} {F : Nat → Nat → Int} {Z : kCs} (md : rMD q F Z) (ok : kCok Z) {b : Int} (hby : 0 ≤ b ∧ b ≤ 5) {u m w x : Int} (u0 : 0 ≤ u ∧ u ≤ 65536) (m0 : 0 ≤ m ∧ m ≤ 63) (w0 : 1 ≤ w ∧ w ≤ 8) (x0 : 0 ≤ x ∧ x ≤ 200)  : kCall G mX10_makeIn (d + 2) 0 0 [.ref (gB G + 97), .int (jI b), .int (jI u), .int (jI m), .int (jI w), .int (jI x)] (kmh G h q F) n (kre (some (.int (jI (ksum (kmk (hW (cN Z)) (kln (hE (cN Z) b.toNat) (hR (cN Z))) m w u x.toNat).1 64)))) (kmh G h (up q 27 (kmk (hW (cN Z)) (kln (hE (cN Z) b.toNat) (hR (cN Z))) m w u x.toNat).2) (up2 (kF1 F w) 98 (kput9 (F 98) b.toNat (kmk (hW (cN Z)) (kln (hE (cN Z) b.toNat) (hR (cN Z))) m w u x.toNat).1))) n) := by
  show kE G mX10_makeIn (d + 2) 0 0 0 [some (.ref (gB G + 97)), some (.int (jI b)), some (.int (jI u)), some (.int (jI m)), some (.int (jI w)), some (.int (jI x)), none, none, none, none, none] [] (kmh G h q F) n _
  refine e_iconst dX10_makeIn_0 ?_
  refine e_istore dX10_makeIn_1 rfl rfl ?_
  dsimp only [List.set]
  have q9 := j_make_cl (G := G) (d := d) (h := h) (n := n) md ok hby u0 m0 w0 x0 100 0 0 (by omega) (by omega) (by omega)
  rw [kclr_0, up2_id] at q9
  exact q9
set_option maxHeartbeats 4000000 in
set_option maxRecDepth 100000 in
theorem j_isWorld {G : kG} {d : Nat} {h : Nat → Option kC} {n : Nat} {u m w x : Int} (hu : inI u) (hm : inI m) (hw : inI w) (hx : inI x) : kCall G mX10_isWorld (d + 2) 0 0 [.int (jI u), .int (jI m), .int (jI w), .int (jI x)] h n (kre (some (.int (jI (if (0 ≤ u ∧ u ≤ 9999) ∧ ((0 ≤ m ∧ m ≤ 63) ∧ 1 ≤ w ∧ w ≤ 8) ∧ 1 ≤ x ∧ x ≤ 200 then 1 else 0)))) h n) := by
  show kE G mX10_isWorld (d + 2) 0 0 0 [some (.int (jI u)), some (.int (jI m)), some (.int (jI w)), some (.int (jI x))] [] h n _
  refine e_iload_n rfl dX10_isWorld_0 ?_
  refine e_i2l (by first | assumption | (unfold inI at *; omega)) dX10_isWorld_1 ?_
  refine e_lconst (z := 0) (by decide) dX10_isWorld_2 ?_
  refine e_ldc2 (z := 9999) kcX10_286 (by decide) dX10_isWorld_3 ?_
  refine eS3 mtX10_in msX10_in lkX10_64 dX10_isWorld_6 rfl rfl (j_in (by first | assumption | exact inL_of (by assumption) | (unfold inL; omega) | (unfold inI at *; unfold inL; omega)) (by first | assumption | exact inL_of (by assumption) | (unfold inL; omega) | (unfold inI at *; unfold inL; omega)) (by first | assumption | exact inL_of (by assumption) | (unfold inL; omega) | (unfold inI at *; unfold inL; omega))) ?_
  dsimp only [Option.toList, List.cons_append, List.nil_append]
  refine e_ifeqP (tgt := 42) dX10_isWorld_9 (by decide) (fun c9 => ?_) (fun c9 => ?_)
  · refine e_iconst dX10_isWorld_42 ?_
    refine e_ireturn dX10_isWorld_43 rfl (by decide) ?_
    exact ⟨by (repeat' split) <;> first | rfl | (exfalso; omega), rfl, rfl⟩
  · refine e_iload_n rfl dX10_isWorld_12 ?_
    refine eS1 mtX10_isHeight msX10_isHeight lkX10_80 dX10_isWorld_13 rfl rfl (j_isHeight (by first | assumption | (unfold inI at *; omega))) ?_
    dsimp only [Option.toList, List.cons_append, List.nil_append]
    refine e_ifeqP (tgt := 42) dX10_isWorld_16 (by decide) (fun c16 => ?_) (fun c16 => ?_)
    · refine e_iconst dX10_isWorld_42 ?_
      refine e_ireturn dX10_isWorld_43 rfl (by decide) ?_
      exact ⟨by (repeat' split) <;> first | rfl | (exfalso; omega), rfl, rfl⟩
    · refine e_iload_n rfl dX10_isWorld_19 ?_
      refine eS1 mtX10_isWidth msX10_isWidth lkX10_152 dX10_isWorld_20 rfl rfl (j_isWidth (by first | assumption | (unfold inI at *; omega))) ?_
      dsimp only [Option.toList, List.cons_append, List.nil_append]
      refine e_ifeqP (tgt := 42) dX10_isWorld_23 (by decide) (fun c23 => ?_) (fun c23 => ?_)
      · refine e_iconst dX10_isWorld_42 ?_
        refine e_ireturn dX10_isWorld_43 rfl (by decide) ?_
        exact ⟨by (repeat' split) <;> first | rfl | (exfalso; omega), rfl, rfl⟩
      · refine e_iload_n rfl dX10_isWorld_26 ?_
        refine e_i2l (by first | assumption | (unfold inI at *; omega)) dX10_isWorld_27 ?_
        refine e_lconst (z := 1) (by decide) dX10_isWorld_28 ?_
        refine e_ldc2 (z := 200) kcX10_288 (by decide) dX10_isWorld_29 ?_
        refine eS3 mtX10_in msX10_in lkX10_64 dX10_isWorld_32 rfl rfl (j_in (by first | assumption | exact inL_of (by assumption) | (unfold inL; omega) | (unfold inI at *; unfold inL; omega)) (by first | assumption | exact inL_of (by assumption) | (unfold inL; omega) | (unfold inI at *; unfold inL; omega)) (by first | assumption | exact inL_of (by assumption) | (unfold inL; omega) | (unfold inI at *; unfold inL; omega))) ?_
        dsimp only [Option.toList, List.cons_append, List.nil_append]
        refine e_ifeqP (tgt := 42) dX10_isWorld_35 (by decide) (fun c35 => ?_) (fun c35 => ?_)
        · refine e_iconst dX10_isWorld_42 ?_
          refine e_ireturn dX10_isWorld_43 rfl (by decide) ?_
          exact ⟨by (repeat' split) <;> first | rfl | (exfalso; omega), rfl, rfl⟩
        · refine e_iconst dX10_isWorld_38 ?_
          refine e_goto (tgt := 43) dX10_isWorld_39 (by decide) ?_
          refine e_ireturn dX10_isWorld_43 rfl (by decide) ?_
          exact ⟨by (repeat' split) <;> first | rfl | (exfalso; omega), rfl, rfl⟩
set_option maxHeartbeats 4000000 in
set_option maxRecDepth 100000 in
theorem j_make {G : kG} {d : Nat} {h : Nat → Option kC} {n : Nat} {q : Nat → Int} {F : Nat → Nat → Int} {Z : kCs} (md : rMD q F Z) (ok : kCok Z)  {b : Int} (hb : inI b) {u : Int} (hu : inI u) {m : Int} (hm : inI m) {w : Int} (hw : inI w) {x : Int} (hx : inI x) : kCall G mX10_make (d + 3) 0 0 [.ref (gB G + 97), .int (jI b), .int (jI u), .int (jI m), .int (jI w), .int (jI x)] (kmh G h q F) n (kQm G h n (.int (jI (a_make Z b u m w x))) (s_make Z b u m w x)) := by
  show kE G mX10_make (d + 3) 0 0 0 [some (.ref (gB G + 97)), some (.int (jI b)), some (.int (jI u)), some (.int (jI m)), some (.int (jI w)), some (.int (jI x))] [] (kmh G h q F) n _
  refine e_iload_n rfl dX10_make_0 ?_
  refine eS1 mtX10_isBook msX10_isBook lkX10_76 dX10_make_1 rfl rfl (j_isBook (by first | assumption | (unfold inI at *; omega))) ?_
  dsimp only [Option.toList, List.cons_append, List.nil_append]
  refine e_ifneP (tgt := 9) dX10_make_4 (by decide) (fun c4 => ?_) (fun c4 => ?_)
  · refine e_iload_n rfl dX10_make_9 ?_
    refine e_iload_n rfl dX10_make_10 ?_
    refine e_iload rfl dX10_make_11 ?_
    refine e_iload rfl dX10_make_13 ?_
    refine eS4 mtX10_isWorld msX10_isWorld lkX10_290 dX10_make_15 rfl rfl (j_isWorld (by first | assumption | (unfold inI at *; omega)) (by first | assumption | (unfold inI at *; omega)) (by first | assumption | (unfold inI at *; omega)) (by first | assumption | (unfold inI at *; omega))) ?_
    dsimp only [Option.toList, List.cons_append, List.nil_append]
    refine e_ifeqP (tgt := 35) dX10_make_18 (by decide) (fun c18 => ?_) (fun c18 => ?_)
    · refine e_bipush (by decide) dX10_make_35 ?_
      refine e_ireturn dX10_make_37 rfl rfl ?_
      rw [s_makeN (by omega)]
      exact kQm_0 (by unfold a_make; rw [if_neg (by omega), if_neg (by omega)]) md
    · refine e_aload_n rfl dX10_make_21 ?_
      refine e_iload_n rfl dX10_make_22 ?_
      refine e_iload_n rfl dX10_make_23 ?_
      refine e_iload_n rfl dX10_make_24 ?_
      refine e_iload rfl dX10_make_25 ?_
      refine e_iload rfl dX10_make_27 ?_
      refine eV5 mtX10_makeIn miX10_makeIn lkX10_293 dX10_make_29 kmh_97 rfl rfl rfl (j_makeIn md ok (by omega) (by omega) (by omega) (by omega) (by omega)) ?_
      dsimp only [Option.toList, List.cons_append, List.nil_append]
      refine e_goto (tgt := 37) dX10_make_32 (by decide) ?_
      refine e_ireturn dX10_make_37 rfl rfl ?_
      have e9 : s_make Z b u m w x = kZA Z b.toNat (kmk (hW (cN Z)) (kln (hE (cN Z) b.toNat) (hR (cN Z))) m w u x.toNat).1 := if_pos ⟨by omega, by omega⟩
      rw [e9]
      exact ⟨by unfold a_make; rw [if_neg (by omega), if_pos (by omega)], rfl, _, _, rfl, rMD_A (B := hM (cN Z) b.toNat) (by rw [kZA_i]; exact md) ⟨rfl, rfl, rfl, rfl⟩ (fun j h1 h2 h3 => (up2_n h1).trans (kF1_n h2)) up2_s⟩
  · refine e_iconst dX10_make_7 ?_
    refine e_ireturn dX10_make_8 rfl rfl ?_
    rw [s_makeN (by omega)]
    exact kQm_0 (by unfold a_make; rw [if_pos (by omega)]) md
