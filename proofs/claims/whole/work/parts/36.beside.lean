/-! THE CLASS: RIGHT, BESIDE, SHORTER -/
set_option maxHeartbeats 4000000 in
set_option maxRecDepth 100000 in
theorem k_rightN {G : kG} {d : Nat} {h : Nat → Option kC} {n : Nat} {Z : kCs} (g : rSt G) (z : rKI G h Z) (ok : kCok Z) {b : Int} (hb : inI b) (hbn : ¬ (0 ≤ b ∧ b ≤ 5)) {w : Int} (hw : inI w) {p : Int} (hp : inI p) : kCall G mX9_right (d + 6) 0 0 [.ref (gB G + 0), .int (jI b), .int (jI w), .int (jI p)] h n (kQc G h n (.long (jL (a_right Z b w p))) (Z)) := by
  show kE G mX9_right (d + 6) 0 0 0 [some (.ref (gB G + 0)), some (.int (jI b)), some (.int (jI w)), some (.int (jI p)), none] [] h n _
  obtain ⟨⟨z0, ⟨f0, z28, z28f⟩, zu⟩, zp, zn, zi, zk, ⟨q, zq⟩, ⟨P, zP⟩, ⟨s, zs⟩, A9, E9, t9, zt⟩ := id z
  have zp1 := zp.1
  have zn1 := zn.1.1
  have zu1 := zu.1
  obtain ⟨okn, ⟨p0, p1, p2⟩, oki, okk⟩ := id ok
  refine e_aload_n rfl dX9_right_0 ?_
  refine e_getf fdX9_19 dX9_right_1 (by first | assumption | exact kup_s | exact kup_n (by omega) (by first | assumption | exact kup_s | exact kup_n (by omega) (by first | assumption | exact kup_s | exact kup_n (by omega) (by assumption)))) rfl ?_
  refine e_iload_n rfl dX9_right_4 ?_
  refine eV1 mtX2_bookAt miX2_bookAt lkX9_61 dX9_right_5 (by first | assumption | exact kup_s | exact kup_n (by omega) (by first | assumption | exact kup_s | exact kup_n (by omega) (by first | assumption | exact kup_s | exact kup_n (by omega) (by assumption)))) rfl rfl rfl (k_bookAtN zn.1 (by assumption) (by assumption)) ?_
  dsimp only [Option.toList, List.cons_append, List.nil_append]
  refine e_astoreN dX9_right_8 rfl rfl ?_
  dsimp only [List.set]
  refine e_aloadN rfl dX9_right_10 ?_
  refine e_ifnonnullN dX9_right_12 ?_
  refine e_ldc2 (z := (-1000000000000000001)) kcX9_198 (by decide) dX9_right_15 ?_
  refine e_lreturn dX9_right_18 rfl ?_
  exact kQc_0 (by unfold a_right; (repeat' split) <;> first | rfl | (exfalso; omega)) z
set_option maxHeartbeats 4000000 in
set_option maxRecDepth 100000 in
theorem k_rightY {G : kG} {d : Nat} {h : Nat → Option kC} {n : Nat} {Z : kCs} (g : rSt G) (z : rKI G h Z) (ok : kCok Z) {b : Int} (hb : inI b) (hby : 0 ≤ b ∧ b ≤ 5) {w : Int} (hw : inI w) {p : Int} (hp : inI p) : kCall G mX9_right (d + 6) 0 0 [.ref (gB G + 0), .int (jI b), .int (jI w), .int (jI p)] h n (kQc G h n (.long (jL (a_right Z b w p))) (Z)) := by
  show kE G mX9_right (d + 6) 0 0 0 [some (.ref (gB G + 0)), some (.int (jI b)), some (.int (jI w)), some (.int (jI p)), none] [] h n _
  obtain ⟨⟨z0, ⟨f0, z28, z28f⟩, zu⟩, zp, zn, zi, zk, ⟨q, zq⟩, ⟨P, zP⟩, ⟨s, zs⟩, A9, E9, t9, zt⟩ := id z
  have zp1 := zp.1
  have zn1 := zn.1.1
  have zu1 := zu.1
  obtain ⟨okn, ⟨p0, p1, p2⟩, oki, okk⟩ := id ok
  have zb := rHd_b zn (i := b.toNat) (by omega)
  have zb1 := zb.1
  have za := okn.1 b.toNat (by omega)
  have ze := okn.2.1 b.toNat (by omega)
  have zA := kA_sum za
  obtain ⟨⟨y00, y01⟩, ⟨y10, y11⟩, ⟨y20, y21⟩⟩ := id ze
  obtain ⟨⟨w00, w01⟩, ⟨w10, w11⟩, ⟨w20, w21⟩, ⟨w30, w31⟩, ⟨w40, w41⟩⟩ := id okn.2.2.1
  refine e_aload_n rfl dX9_right_0 ?_
  refine e_getf fdX9_19 dX9_right_1 (by first | assumption | exact kup_s | exact kup_n (by omega) (by first | assumption | exact kup_s | exact kup_n (by omega) (by first | assumption | exact kup_s | exact kup_n (by omega) (by assumption)))) rfl ?_
  refine e_iload_n rfl dX9_right_4 ?_
  refine eV1 mtX2_bookAt miX2_bookAt lkX9_61 dX9_right_5 (by first | assumption | exact kup_s | exact kup_n (by omega) (by first | assumption | exact kup_s | exact kup_n (by omega) (by first | assumption | exact kup_s | exact kup_n (by omega) (by assumption)))) rfl rfl rfl (k_bookAt zn.1 (by omega) (by omega)) ?_
  dsimp only [Option.toList, List.cons_append, List.nil_append]
  refine e_astore dX9_right_8 rfl rfl ?_
  dsimp only [List.set]
  refine e_aload rfl dX9_right_10 ?_
  refine e_ifnonnull (tgt := 19) dX9_right_12 (by decide) ?_
  refine e_iload_n rfl dX9_right_19 ?_
  refine eS1 mtX9_isWidth msX9_isWidth lkX9_164 dX9_right_20 rfl rfl (k_isWidth (by first | assumption | (unfold inI at *; omega))) ?_
  dsimp only [Option.toList, List.cons_append, List.nil_append]
  refine e_ifeqP (tgt := 33) dX9_right_23 (by decide) (fun c23 => ?_) (fun c23 => ?_)
  · refine e_ldc2 (z := (-1000000000000000002)) kcX9_147 (by decide) dX9_right_33 ?_
    refine e_lreturn dX9_right_36 rfl ?_
    refine ⟨by unfold a_right; (repeat' split) <;> first | rfl | (exfalso; omega), ?_, ?_, Nat.le_refl _⟩
    · first | exact z | exact rKI_92 z | exact rKI_kuh z | exact rKI_kuh (rKI_kuh z)
    · first | exact fun j h1 _ => rfl | exact fun j h1 _ => kup_o (by omega) | exact fun j h1 _ => kuh_o9 (by omega) (by omega) | exact fun j h1 _ => (kuh_o9 (by omega) (by omega)).trans (kuh_o9 (by omega) (by omega))
  · refine e_iload_n rfl dX9_right_26 ?_
    refine eS1 mtX9_isPart msX9_isPart lkX9_144 dX9_right_27 rfl rfl (k_isPart (by first | assumption | (unfold inI at *; omega))) ?_
    dsimp only [Option.toList, List.cons_append, List.nil_append]
    refine e_ifneP (tgt := 37) dX9_right_30 (by decide) (fun c30 => ?_) (fun c30 => ?_)
    · refine e_aload_n rfl dX9_right_37 ?_
      refine e_aload rfl dX9_right_38 ?_
      refine e_iload_n rfl dX9_right_40 ?_
      refine eV2R mtX9_seekMiddle miX9_seekMiddle lkX9_167 dX9_right_41 (by first | exact z0 | exact (kuh_o9 (by omega) (by omega)).trans z0 | exact (kuh_o9 (by omega) (by omega)).trans ((kuh_o9 (by omega) (by omega)).trans z0)) rfl rfl rfl (k_zseekM g z ok zb (by omega) za ze zq zP (by omega) (by omega)) (fun r41 h41 n41 hp41 => ?_)
      obtain ⟨P1, rfl, rfl, rfl⟩ := hp41
      dsimp only [Option.toList, List.cons_append, List.nil_append]
      refine e_ldc2 (z := 10) kcX9_214 (by decide) dX9_right_44 ?_
      refine e_aload_n rfl dX9_right_47 ?_
      refine e_getf fdX9_43 dX9_right_48 (by first | exact z0 | exact (kuh_o9 (by omega) (by omega)).trans z0 | exact (kuh_o9 (by omega) (by omega)).trans ((kuh_o9 (by omega) (by omega)).trans z0)) rfl ?_
      refine e_getf fdX9_171 dX9_right_51 kuh_9o rfl ?_
      try dsimp only
      have q7 := kbm_in (kso (hM (cN Z) b.toNat) w (kln (hE (cN Z) b.toNat) (hR (cN Z))) (hW (cN Z) 0)) 64
      refine e_i2l (by first | assumption | (unfold inI at *; omega)) dX9_right_54 ?_
      refine e_lmul dX9_right_55 ?_
      refine e_aload_n rfl dX9_right_56 ?_
      refine e_getf fdX9_19 dX9_right_57 (by first | exact z0 | exact (kuh_o9 (by omega) (by omega)).trans z0 | exact (kuh_o9 (by omega) (by omega)).trans ((kuh_o9 (by omega) (by omega)).trans z0)) rfl ?_
      refine e_aload rfl dX9_right_60 ?_
      refine eV1 mtX2_tenthsGrown miX2_tenthsGrown lkX9_211 dX9_right_62 (rKI_kuh z).2.2.1.1.1 rfl rfl rfl (k_tenthsGrown (rKI_kuh z).2.2.1.1 okn (rHd_b (rKI_kuh z).2.2.1 (by omega)) ze) ?_
      dsimp only [Option.toList, List.cons_append, List.nil_append]
      have q8 := kmg_in okn.2.2.2.2 (a := hE (cN Z) b.toNat 1) (l := hW (cN Z) 4) (by omega) (by omega) (by omega)
      have q7 := kbm_in (kso (hM (cN Z) b.toNat) w (kln (hE (cN Z) b.toNat) (hR (cN Z))) (hW (cN Z) 0)) 64
      refine e_i2l (by first | assumption | (unfold inI at *; omega)) dX9_right_65 ?_
      refine e_ladd dX9_right_66 ?_
      refine e_ldc2 (z := 10) kcX9_214 (by decide) dX9_right_67 ?_
      refine e_iload_n rfl dX9_right_70 ?_
      refine eS3 mtX9_tell msX9_tell lkX9_153 dX9_right_71 rfl rfl (k_tell (by omega) (by omega) (by omega) (by omega) (by omega) (by omega)) ?_
      dsimp only [Option.toList, List.cons_append, List.nil_append]
      refine e_lreturn dX9_right_74 rfl ?_
      refine ⟨by unfold a_right; (repeat' split) <;> first | rfl | (exfalso; omega), ?_, ?_, Nat.le_refl _⟩
      · first | exact z | exact rKI_92 z | exact rKI_kuh z | exact rKI_kuh (rKI_kuh z)
      · first | exact fun j h1 _ => rfl | exact fun j h1 _ => kup_o (by omega) | exact fun j h1 _ => kuh_o9 (by omega) (by omega) | exact fun j h1 _ => (kuh_o9 (by omega) (by omega)).trans (kuh_o9 (by omega) (by omega))
    · refine e_ldc2 (z := (-1000000000000000002)) kcX9_147 (by decide) dX9_right_33 ?_
      refine e_lreturn dX9_right_36 rfl ?_
      refine ⟨by unfold a_right; (repeat' split) <;> first | rfl | (exfalso; omega), ?_, ?_, Nat.le_refl _⟩
      · first | exact z | exact rKI_92 z | exact rKI_kuh z | exact rKI_kuh (rKI_kuh z)
      · first | exact fun j h1 _ => rfl | exact fun j h1 _ => kup_o (by omega) | exact fun j h1 _ => kuh_o9 (by omega) (by omega) | exact fun j h1 _ => (kuh_o9 (by omega) (by omega)).trans (kuh_o9 (by omega) (by omega))
theorem k_right {G : kG} {d : Nat} {h : Nat → Option kC} {n : Nat} {Z : kCs} (g : rSt G) (z : rKI G h Z) (ok : kCok Z) {b : Int} (hb : inI b)  {w : Int} (hw : inI w) {p : Int} (hp : inI p) : kCall G mX9_right (d + 6) 0 0 [.ref (gB G + 0), .int (jI b), .int (jI w), .int (jI p)] h n (kQc G h n (.long (jL (a_right Z b w p))) (Z)) := by
  by_cases c9 : 0 ≤ b ∧ b ≤ 5
  · exact k_rightY g z ok hb c9 hw hp
  · exact k_rightN g z ok hb c9 hw hp
theorem kmul_in {x y c : Int} (h0 : -1 ≤ x) (h1 : x ≤ 63) (y0 : 0 ≤ y) (y1 : y ≤ c) : -c ≤ x * y ∧ x * y ≤ 63 * c := by
  have a1 : x * y ≤ 63 * y := Int.mul_le_mul_of_nonneg_right h1 y0
  have a2 : -1 * y ≤ x * y := Int.mul_le_mul_of_nonneg_right h0 y0
  omega
set_option maxHeartbeats 4000000 in
set_option maxRecDepth 100000 in
theorem k_besideNN {G : kG} {d : Nat} {h : Nat → Option kC} {n : Nat} {Z : kCs} (g : rSt G) (z : rKI G h Z) (ok : kCok Z) {b c : Int} (hb : inI b) (hc : inI c) (hb9 : ¬ (0 ≤ b ∧ b ≤ 5)) (hc9 : ¬ (0 ≤ c ∧ c ≤ 5)) {w : Int} (hw : inI w) {p : Int} (hp : inI p) : kCall G mX9_beside (d + 5) 0 0 [.ref (gB G + 0), .int (jI b), .int (jI c), .int (jI w), .int (jI p)] h n (kQc G h n (.long (jL (a_beside Z b c w p))) (Z)) := by
  show kE G mX9_beside (d + 5) 0 0 0 [some (.ref (gB G + 0)), some (.int (jI b)), some (.int (jI c)), some (.int (jI w)), some (.int (jI p)), none, none, none, none] [] h n _
  obtain ⟨⟨z0, ⟨f0, z28, z28f⟩, zu⟩, zp, zn, zi, zk, ⟨q, zq⟩, ⟨P, zP⟩, ⟨s, zs⟩, A9, E9, t9, zt⟩ := id z
  have zp1 := zp.1
  have zn1 := zn.1.1
  have zu1 := zu.1
  obtain ⟨okn, ⟨p0, p1, p2⟩, oki, okk⟩ := id ok
  refine e_aload_n rfl dX9_beside_0 ?_
  refine e_getf fdX9_19 dX9_beside_1 (by first | assumption | exact kup_s | exact kup_n (by omega) (by first | assumption | exact kup_s | exact kup_n (by omega) (by first | assumption | exact kup_s | exact kup_n (by omega) (by assumption)))) rfl ?_
  refine e_iload_n rfl dX9_beside_4 ?_
  refine eV1 mtX2_bookAt miX2_bookAt lkX9_61 dX9_beside_5 (by first | assumption | exact kup_s | exact kup_n (by omega) (by first | assumption | exact kup_s | exact kup_n (by omega) (by first | assumption | exact kup_s | exact kup_n (by omega) (by assumption)))) rfl rfl rfl (k_bookAtN zn.1 (by assumption) (by assumption)) ?_
  dsimp only [Option.toList, List.cons_append, List.nil_append]
  refine e_astoreN dX9_beside_8 rfl rfl ?_
  dsimp only [List.set]
  refine e_aload_n rfl dX9_beside_10 ?_
  refine e_getf fdX9_19 dX9_beside_11 (by first | assumption | exact kup_s | exact kup_n (by omega) (by first | assumption | exact kup_s | exact kup_n (by omega) (by first | assumption | exact kup_s | exact kup_n (by omega) (by assumption)))) rfl ?_
  refine e_iload_n rfl dX9_beside_14 ?_
  refine eV1 mtX2_bookAt miX2_bookAt lkX9_61 dX9_beside_15 (by first | assumption | exact kup_s | exact kup_n (by omega) (by first | assumption | exact kup_s | exact kup_n (by omega) (by first | assumption | exact kup_s | exact kup_n (by omega) (by assumption)))) rfl rfl rfl (k_bookAtN zn.1 (by assumption) (by assumption)) ?_
  dsimp only [Option.toList, List.cons_append, List.nil_append]
  refine e_astoreN dX9_beside_18 rfl rfl ?_
  dsimp only [List.set]
  refine e_aloadN rfl dX9_beside_20 ?_
  refine e_ifnullN (tgt := 30) dX9_beside_22 (by decide) ?_
  refine e_ldc2 (z := (-1000000000000000001)) kcX9_198 (by decide) dX9_beside_30 ?_
  refine e_lreturn dX9_beside_33 rfl ?_
  exact kQc_0 (by unfold a_beside; (repeat' split) <;> first | rfl | (exfalso; omega)) z
set_option maxHeartbeats 4000000 in
set_option maxRecDepth 100000 in
theorem k_besideNY {G : kG} {d : Nat} {h : Nat → Option kC} {n : Nat} {Z : kCs} (g : rSt G) (z : rKI G h Z) (ok : kCok Z) {b c : Int} (hb : inI b) (hc : inI c) (hb9 : ¬ (0 ≤ b ∧ b ≤ 5)) (hc9 : 0 ≤ c ∧ c ≤ 5) {w : Int} (hw : inI w) {p : Int} (hp : inI p) : kCall G mX9_beside (d + 5) 0 0 [.ref (gB G + 0), .int (jI b), .int (jI c), .int (jI w), .int (jI p)] h n (kQc G h n (.long (jL (a_beside Z b c w p))) (Z)) := by
  show kE G mX9_beside (d + 5) 0 0 0 [some (.ref (gB G + 0)), some (.int (jI b)), some (.int (jI c)), some (.int (jI w)), some (.int (jI p)), none, none, none, none] [] h n _
  obtain ⟨⟨z0, ⟨f0, z28, z28f⟩, zu⟩, zp, zn, zi, zk, ⟨q, zq⟩, ⟨P, zP⟩, ⟨s, zs⟩, A9, E9, t9, zt⟩ := id z
  have zp1 := zp.1
  have zn1 := zn.1.1
  have zu1 := zu.1
  obtain ⟨okn, ⟨p0, p1, p2⟩, oki, okk⟩ := id ok
  refine e_aload_n rfl dX9_beside_0 ?_
  refine e_getf fdX9_19 dX9_beside_1 (by first | assumption | exact kup_s | exact kup_n (by omega) (by first | assumption | exact kup_s | exact kup_n (by omega) (by first | assumption | exact kup_s | exact kup_n (by omega) (by assumption)))) rfl ?_
  refine e_iload_n rfl dX9_beside_4 ?_
  refine eV1 mtX2_bookAt miX2_bookAt lkX9_61 dX9_beside_5 (by first | assumption | exact kup_s | exact kup_n (by omega) (by first | assumption | exact kup_s | exact kup_n (by omega) (by first | assumption | exact kup_s | exact kup_n (by omega) (by assumption)))) rfl rfl rfl (k_bookAtN zn.1 (by assumption) (by assumption)) ?_
  dsimp only [Option.toList, List.cons_append, List.nil_append]
  refine e_astoreN dX9_beside_8 rfl rfl ?_
  dsimp only [List.set]
  refine e_aload_n rfl dX9_beside_10 ?_
  refine e_getf fdX9_19 dX9_beside_11 (by first | assumption | exact kup_s | exact kup_n (by omega) (by first | assumption | exact kup_s | exact kup_n (by omega) (by first | assumption | exact kup_s | exact kup_n (by omega) (by assumption)))) rfl ?_
  refine e_iload_n rfl dX9_beside_14 ?_
  refine eV1 mtX2_bookAt miX2_bookAt lkX9_61 dX9_beside_15 (by first | assumption | exact kup_s | exact kup_n (by omega) (by first | assumption | exact kup_s | exact kup_n (by omega) (by first | assumption | exact kup_s | exact kup_n (by omega) (by assumption)))) rfl rfl rfl (k_bookAt zn.1 (by omega) (by omega)) ?_
  dsimp only [Option.toList, List.cons_append, List.nil_append]
  refine e_astore dX9_beside_18 rfl rfl ?_
  dsimp only [List.set]
  refine e_aloadN rfl dX9_beside_20 ?_
  refine e_ifnullN (tgt := 30) dX9_beside_22 (by decide) ?_
  refine e_ldc2 (z := (-1000000000000000001)) kcX9_198 (by decide) dX9_beside_30 ?_
  refine e_lreturn dX9_beside_33 rfl ?_
  exact kQc_0 (by unfold a_beside; (repeat' split) <;> first | rfl | (exfalso; omega)) z
set_option maxHeartbeats 4000000 in
set_option maxRecDepth 100000 in
theorem k_besideYN {G : kG} {d : Nat} {h : Nat → Option kC} {n : Nat} {Z : kCs} (g : rSt G) (z : rKI G h Z) (ok : kCok Z) {b c : Int} (hb : inI b) (hc : inI c) (hb9 : 0 ≤ b ∧ b ≤ 5) (hc9 : ¬ (0 ≤ c ∧ c ≤ 5)) {w : Int} (hw : inI w) {p : Int} (hp : inI p) : kCall G mX9_beside (d + 5) 0 0 [.ref (gB G + 0), .int (jI b), .int (jI c), .int (jI w), .int (jI p)] h n (kQc G h n (.long (jL (a_beside Z b c w p))) (Z)) := by
  show kE G mX9_beside (d + 5) 0 0 0 [some (.ref (gB G + 0)), some (.int (jI b)), some (.int (jI c)), some (.int (jI w)), some (.int (jI p)), none, none, none, none] [] h n _
  obtain ⟨⟨z0, ⟨f0, z28, z28f⟩, zu⟩, zp, zn, zi, zk, ⟨q, zq⟩, ⟨P, zP⟩, ⟨s, zs⟩, A9, E9, t9, zt⟩ := id z
  have zp1 := zp.1
  have zn1 := zn.1.1
  have zu1 := zu.1
  obtain ⟨okn, ⟨p0, p1, p2⟩, oki, okk⟩ := id ok
  refine e_aload_n rfl dX9_beside_0 ?_
  refine e_getf fdX9_19 dX9_beside_1 (by first | assumption | exact kup_s | exact kup_n (by omega) (by first | assumption | exact kup_s | exact kup_n (by omega) (by first | assumption | exact kup_s | exact kup_n (by omega) (by assumption)))) rfl ?_
  refine e_iload_n rfl dX9_beside_4 ?_
  refine eV1 mtX2_bookAt miX2_bookAt lkX9_61 dX9_beside_5 (by first | assumption | exact kup_s | exact kup_n (by omega) (by first | assumption | exact kup_s | exact kup_n (by omega) (by first | assumption | exact kup_s | exact kup_n (by omega) (by assumption)))) rfl rfl rfl (k_bookAt zn.1 (by omega) (by omega)) ?_
  dsimp only [Option.toList, List.cons_append, List.nil_append]
  refine e_astore dX9_beside_8 rfl rfl ?_
  dsimp only [List.set]
  refine e_aload_n rfl dX9_beside_10 ?_
  refine e_getf fdX9_19 dX9_beside_11 (by first | assumption | exact kup_s | exact kup_n (by omega) (by first | assumption | exact kup_s | exact kup_n (by omega) (by first | assumption | exact kup_s | exact kup_n (by omega) (by assumption)))) rfl ?_
  refine e_iload_n rfl dX9_beside_14 ?_
  refine eV1 mtX2_bookAt miX2_bookAt lkX9_61 dX9_beside_15 (by first | assumption | exact kup_s | exact kup_n (by omega) (by first | assumption | exact kup_s | exact kup_n (by omega) (by first | assumption | exact kup_s | exact kup_n (by omega) (by assumption)))) rfl rfl rfl (k_bookAtN zn.1 (by assumption) (by assumption)) ?_
  dsimp only [Option.toList, List.cons_append, List.nil_append]
  refine e_astoreN dX9_beside_18 rfl rfl ?_
  dsimp only [List.set]
  refine e_aload rfl dX9_beside_20 ?_
  refine e_ifnull dX9_beside_22 ?_
  refine e_aloadN rfl dX9_beside_25 ?_
  refine e_ifnonnullN dX9_beside_27 ?_
  refine e_ldc2 (z := (-1000000000000000001)) kcX9_198 (by decide) dX9_beside_30 ?_
  refine e_lreturn dX9_beside_33 rfl ?_
  exact kQc_0 (by unfold a_beside; (repeat' split) <;> first | rfl | (exfalso; omega)) z
set_option maxHeartbeats 4000000 in
set_option maxRecDepth 100000 in
theorem k_besideYY {G : kG} {d : Nat} {h : Nat → Option kC} {n : Nat} {Z : kCs} (g : rSt G) (z : rKI G h Z) (ok : kCok Z) {b c : Int} (hb : inI b) (hc : inI c) (hb9 : 0 ≤ b ∧ b ≤ 5) (hc9 : 0 ≤ c ∧ c ≤ 5) {w : Int} (hw : inI w) {p : Int} (hp : inI p) : kCall G mX9_beside (d + 5) 0 0 [.ref (gB G + 0), .int (jI b), .int (jI c), .int (jI w), .int (jI p)] h n (kQc G h n (.long (jL (a_beside Z b c w p))) (Z)) := by
  show kE G mX9_beside (d + 5) 0 0 0 [some (.ref (gB G + 0)), some (.int (jI b)), some (.int (jI c)), some (.int (jI w)), some (.int (jI p)), none, none, none, none] [] h n _
  obtain ⟨⟨z0, ⟨f0, z28, z28f⟩, zu⟩, zp, zn, zi, zk, ⟨q, zq⟩, ⟨P, zP⟩, ⟨s, zs⟩, A9, E9, t9, zt⟩ := id z
  have zp1 := zp.1
  have zn1 := zn.1.1
  have zu1 := zu.1
  obtain ⟨okn, ⟨p0, p1, p2⟩, oki, okk⟩ := id ok
  obtain ⟨⟨w00, w01⟩, ⟨w10, w11⟩, ⟨w20, w21⟩, ⟨w30, w31⟩, ⟨w40, w41⟩⟩ := id okn.2.2.1
  have zb := rHd_b zn (i := b.toNat) (by omega)
  have zb1 := zb.1
  have za := okn.1 b.toNat (by omega)
  have ze := okn.2.1 b.toNat (by omega)
  have zA := kA_sum za
  obtain ⟨⟨y00, y01⟩, ⟨y10, y11⟩, ⟨y20, y21⟩⟩ := id ze
  have zc := rHd_b zn (i := c.toNat) (by omega)
  have zc1 := zc.1
  have zca := okn.1 c.toNat (by omega)
  have zce := okn.2.1 c.toNat (by omega)
  have zcA := kA_sum zca
  obtain ⟨⟨v00, v01⟩, ⟨v10, v11⟩, ⟨v20, v21⟩⟩ := id zce
  refine e_aload_n rfl dX9_beside_0 ?_
  refine e_getf fdX9_19 dX9_beside_1 (by first | assumption | exact kup_s | exact kup_n (by omega) (by first | assumption | exact kup_s | exact kup_n (by omega) (by first | assumption | exact kup_s | exact kup_n (by omega) (by assumption)))) rfl ?_
  refine e_iload_n rfl dX9_beside_4 ?_
  refine eV1 mtX2_bookAt miX2_bookAt lkX9_61 dX9_beside_5 (by first | assumption | exact kup_s | exact kup_n (by omega) (by first | assumption | exact kup_s | exact kup_n (by omega) (by first | assumption | exact kup_s | exact kup_n (by omega) (by assumption)))) rfl rfl rfl (k_bookAt zn.1 (by omega) (by omega)) ?_
  dsimp only [Option.toList, List.cons_append, List.nil_append]
  refine e_astore dX9_beside_8 rfl rfl ?_
  dsimp only [List.set]
  refine e_aload_n rfl dX9_beside_10 ?_
  refine e_getf fdX9_19 dX9_beside_11 (by first | assumption | exact kup_s | exact kup_n (by omega) (by first | assumption | exact kup_s | exact kup_n (by omega) (by first | assumption | exact kup_s | exact kup_n (by omega) (by assumption)))) rfl ?_
  refine e_iload_n rfl dX9_beside_14 ?_
  refine eV1 mtX2_bookAt miX2_bookAt lkX9_61 dX9_beside_15 (by first | assumption | exact kup_s | exact kup_n (by omega) (by first | assumption | exact kup_s | exact kup_n (by omega) (by first | assumption | exact kup_s | exact kup_n (by omega) (by assumption)))) rfl rfl rfl (k_bookAt zn.1 (by omega) (by omega)) ?_
  dsimp only [Option.toList, List.cons_append, List.nil_append]
  refine e_astore dX9_beside_18 rfl rfl ?_
  dsimp only [List.set]
  refine e_aload rfl dX9_beside_20 ?_
  refine e_ifnull dX9_beside_22 ?_
  refine e_aload rfl dX9_beside_25 ?_
  refine e_ifnonnull (tgt := 34) dX9_beside_27 (by decide) ?_
  refine e_iload_n rfl dX9_beside_34 ?_
  refine eS1 mtX9_isWidth msX9_isWidth lkX9_164 dX9_beside_35 rfl rfl (k_isWidth (by first | assumption | (unfold inI at *; omega))) ?_
  dsimp only [Option.toList, List.cons_append, List.nil_append]
  refine e_ifeqP (tgt := 49) dX9_beside_38 (by decide) (fun c38 => ?_) (fun c38 => ?_)
  · refine e_ldc2 (z := (-1000000000000000002)) kcX9_147 (by decide) dX9_beside_49 ?_
    refine e_lreturn dX9_beside_52 rfl ?_
    refine ⟨by unfold a_beside; (repeat' split) <;> first | rfl | (exfalso; omega), ?_, ?_, Nat.le_refl _⟩
    · first | exact z | exact rKI_92 z | exact rKI_kuh z | exact rKI_kuh (rKI_kuh z)
    · first | exact fun j h1 _ => rfl | exact fun j h1 _ => kup_o (by omega) | exact fun j h1 _ => kuh_o9 (by omega) (by omega) | exact fun j h1 _ => (kuh_o9 (by omega) (by omega)).trans (kuh_o9 (by omega) (by omega))
  · refine e_iload rfl dX9_beside_41 ?_
    refine eS1 mtX9_isPart msX9_isPart lkX9_144 dX9_beside_43 rfl rfl (k_isPart (by first | assumption | (unfold inI at *; omega))) ?_
    dsimp only [Option.toList, List.cons_append, List.nil_append]
    refine e_ifneP (tgt := 53) dX9_beside_46 (by decide) (fun c46 => ?_) (fun c46 => ?_)
    · refine e_aload rfl dX9_beside_53 ?_
      refine e_iconst dX9_beside_55 ?_
      refine eV1 mtX0_entry miX0_entry lkX9_88 dX9_beside_56 (by first | assumption | exact kup_s | exact kup_n (by omega) (by first | assumption | exact kup_s | exact kup_n (by omega) (by first | assumption | exact kup_s | exact kup_n (by omega) (by assumption)))) rfl rfl rfl (k_entry zb (by omega) (by omega)) ?_
      dsimp only [Option.toList, List.cons_append, List.nil_append]
      rw [show (2 : Int).toNat = 2 from rfl]
      refine e_iconst dX9_beside_59 ?_
      refine e_icmp_ne (tgt := 71) dX9_beside_60 (by decide) (by first | assumption | (unfold inI at *; omega)) (by first | assumption | (unfold inI at *; omega)) (fun c60 => ?_) (fun c60 => ?_)
      · refine e_ldc2 (z := (-1000000000000000003)) kcX9_259 (by decide) dX9_beside_71 ?_
        refine e_lreturn dX9_beside_74 rfl ?_
        refine ⟨by unfold a_beside; (repeat' split) <;> first | rfl | (exfalso; omega), ?_, ?_, Nat.le_refl _⟩
        · first | exact z | exact rKI_92 z | exact rKI_kuh z | exact rKI_kuh (rKI_kuh z)
        · first | exact fun j h1 _ => rfl | exact fun j h1 _ => kup_o (by omega) | exact fun j h1 _ => kuh_o9 (by omega) (by omega) | exact fun j h1 _ => (kuh_o9 (by omega) (by omega)).trans (kuh_o9 (by omega) (by omega))
      · refine e_aload rfl dX9_beside_63 ?_
        refine e_getf fdX9_205 dX9_beside_65 (by first | assumption | exact kup_s | exact kup_n (by omega) (by first | assumption | exact kup_s | exact kup_n (by omega) (by first | assumption | exact kup_s | exact kup_n (by omega) (by assumption)))) rfl ?_
        refine e_if_ne (tgt := 75) dX9_beside_68 (by decide) (by first | assumption | (unfold inI at *; omega)) (fun c68 => ?_) (fun c68 => ?_)
        · refine e_aload_n rfl dX9_beside_75 ?_
          refine e_aload rfl dX9_beside_76 ?_
          refine e_iload_n rfl dX9_beside_78 ?_
          refine eV2R mtX9_seekMiddle miX9_seekMiddle lkX9_167 dX9_beside_79 (by first | exact z0 | exact (kuh_o9 (by omega) (by omega)).trans z0 | exact (kuh_o9 (by omega) (by omega)).trans ((kuh_o9 (by omega) (by omega)).trans z0)) rfl rfl rfl (k_zseekM g z ok zc (by omega) zca zce zq zP (by omega) (by omega)) (fun r79 h79 n79 hp79 => ?_)
          obtain ⟨P1, rfl, rfl, rfl⟩ := hp79
          dsimp only [Option.toList, List.cons_append, List.nil_append]
          refine e_aload rfl dX9_beside_82 ?_
          refine e_getf fdX9_205 dX9_beside_84 (rHd_b (rKI_kuh z).2.2.1 (i := b.toNat) (by omega)).1 rfl ?_
          refine e_i2l (by first | assumption | (unfold inI at *; omega)) dX9_beside_87 ?_
          refine e_lstore dX9_beside_88 rfl rfl ?_
          dsimp only [List.set]
          refine e_aload rfl dX9_beside_90 ?_
          refine e_iconst dX9_beside_92 ?_
          refine eV1 mtX0_sumMoved miX0_sumMoved lkX9_253 dX9_beside_93 (rHd_b (rKI_kuh z).2.2.1 (i := b.toNat) (by omega)).1 rfl rfl rfl (k_sumMoved (rHd_b (rKI_kuh z).2.2.1 (i := b.toNat) (by omega)) za (by omega) (by omega)) ?_
          dsimp only [Option.toList, List.cons_append, List.nil_append]
          have q8 := ksm_in za 0
          have q7 := kbm_in (kso (hM (cN Z) c.toNat) w (kln (hE (cN Z) c.toNat) (hR (cN Z))) (hW (cN Z) 0)) 64
          have q6 := kmul_in (x := (kbm (kso (hM (cN Z) c.toNat) w (kln (hE (cN Z) c.toNat) (hR (cN Z))) (hW (cN Z) 0)) 64)) (y := ksum (hM (cN Z) b.toNat) 64) (c := 63936) (by omega) (by omega) (by omega) (by omega)
          refine e_aload_n rfl dX9_beside_96 ?_
          refine e_getf fdX9_43 dX9_beside_97 (by first | exact z0 | exact (kuh_o9 (by omega) (by omega)).trans z0 | exact (kuh_o9 (by omega) (by omega)).trans ((kuh_o9 (by omega) (by omega)).trans z0)) rfl ?_
          refine e_getf fdX9_171 dX9_beside_100 kuh_9o rfl ?_
          try dsimp only
          refine e_i2l (by first | assumption | (unfold inI at *; omega)) dX9_beside_103 ?_
          refine e_lload rfl dX9_beside_104 ?_
          refine e_lmul dX9_beside_106 ?_
          refine e_lsub dX9_beside_107 ?_
          refine e_lload rfl dX9_beside_108 ?_
          refine e_iload rfl dX9_beside_110 ?_
          refine eS3 mtX9_tell msX9_tell lkX9_153 dX9_beside_112 rfl rfl (k_tell (by omega) (by omega) (by omega) (by omega) (by omega) (by omega)) ?_
          dsimp only [Option.toList, List.cons_append, List.nil_append]
          refine e_lreturn dX9_beside_115 rfl ?_
          refine ⟨by unfold a_beside; (repeat' split) <;> first | rfl | (exfalso; omega), ?_, ?_, Nat.le_refl _⟩
          · first | exact z | exact rKI_92 z | exact rKI_kuh z | exact rKI_kuh (rKI_kuh z)
          · first | exact fun j h1 _ => rfl | exact fun j h1 _ => kup_o (by omega) | exact fun j h1 _ => kuh_o9 (by omega) (by omega) | exact fun j h1 _ => (kuh_o9 (by omega) (by omega)).trans (kuh_o9 (by omega) (by omega))
        · refine e_ldc2 (z := (-1000000000000000003)) kcX9_259 (by decide) dX9_beside_71 ?_
          refine e_lreturn dX9_beside_74 rfl ?_
          refine ⟨by unfold a_beside; (repeat' split) <;> first | rfl | (exfalso; omega), ?_, ?_, Nat.le_refl _⟩
          · first | exact z | exact rKI_92 z | exact rKI_kuh z | exact rKI_kuh (rKI_kuh z)
          · first | exact fun j h1 _ => rfl | exact fun j h1 _ => kup_o (by omega) | exact fun j h1 _ => kuh_o9 (by omega) (by omega) | exact fun j h1 _ => (kuh_o9 (by omega) (by omega)).trans (kuh_o9 (by omega) (by omega))
    · refine e_ldc2 (z := (-1000000000000000002)) kcX9_147 (by decide) dX9_beside_49 ?_
      refine e_lreturn dX9_beside_52 rfl ?_
      refine ⟨by unfold a_beside; (repeat' split) <;> first | rfl | (exfalso; omega), ?_, ?_, Nat.le_refl _⟩
      · first | exact z | exact rKI_92 z | exact rKI_kuh z | exact rKI_kuh (rKI_kuh z)
      · first | exact fun j h1 _ => rfl | exact fun j h1 _ => kup_o (by omega) | exact fun j h1 _ => kuh_o9 (by omega) (by omega) | exact fun j h1 _ => (kuh_o9 (by omega) (by omega)).trans (kuh_o9 (by omega) (by omega))
theorem k_beside {G : kG} {d : Nat} {h : Nat → Option kC} {n : Nat} {Z : kCs} (g : rSt G) (z : rKI G h Z) (ok : kCok Z) {b c : Int} (hb : inI b) (hc : inI c) {w : Int} (hw : inI w) {p : Int} (hp : inI p) : kCall G mX9_beside (d + 5) 0 0 [.ref (gB G + 0), .int (jI b), .int (jI c), .int (jI w), .int (jI p)] h n (kQc G h n (.long (jL (a_beside Z b c w p))) (Z)) := by
  by_cases c9 : 0 ≤ b ∧ b ≤ 5 <;> by_cases c8 : 0 ≤ c ∧ c ≤ 5
  · exact k_besideYY g z ok hb hc c9 c8 hw hp
  · exact k_besideYN g z ok hb hc c9 c8 hw hp
  · exact k_besideNY g z ok hb hc c9 c8 hw hp
  · exact k_besideNN g z ok hb hc c9 c8 hw hp
set_option maxHeartbeats 4000000 in
set_option maxRecDepth 100000 in
theorem k_shorterNN {G : kG} {d : Nat} {h : Nat → Option kC} {n : Nat} {Z : kCs} (g : rSt G) (z : rKI G h Z) (ok : kCok Z) {b c : Int} (hb : inI b) (hc : inI c) (hb9 : ¬ (0 ≤ b ∧ b ≤ 5)) (hc9 : ¬ (0 ≤ c ∧ c ≤ 5)) {w : Int} (hw : inI w) {x : Int} (hx : inI x) : kCall G mX9_shorter (d + 6) 0 0 [.ref (gB G + 0), .int (jI b), .int (jI c), .int (jI w), .int (jI x)] h n (kQc G h n (.int (jI (a_shorter Z b c w x))) (Z)) := by
  show kE G mX9_shorter (d + 6) 0 0 0 [some (.ref (gB G + 0)), some (.int (jI b)), some (.int (jI c)), some (.int (jI w)), some (.int (jI x)), none, none, none] [] h n _
  obtain ⟨⟨z0, ⟨f0, z28, z28f⟩, zu⟩, zp, zn, zi, zk, ⟨q, zq⟩, ⟨P, zP⟩, ⟨s, zs⟩, A9, E9, t9, zt⟩ := id z
  have zp1 := zp.1
  have zn1 := zn.1.1
  have zu1 := zu.1
  obtain ⟨okn, ⟨p0, p1, p2⟩, oki, okk⟩ := id ok
  refine e_aload_n rfl dX9_shorter_0 ?_
  refine e_getf fdX9_19 dX9_shorter_1 (by first | assumption | exact kup_s | exact kup_n (by omega) (by first | assumption | exact kup_s | exact kup_n (by omega) (by first | assumption | exact kup_s | exact kup_n (by omega) (by assumption)))) rfl ?_
  refine e_iload_n rfl dX9_shorter_4 ?_
  refine eV1 mtX2_bookAt miX2_bookAt lkX9_61 dX9_shorter_5 (by first | assumption | exact kup_s | exact kup_n (by omega) (by first | assumption | exact kup_s | exact kup_n (by omega) (by first | assumption | exact kup_s | exact kup_n (by omega) (by assumption)))) rfl rfl rfl (k_bookAtN zn.1 (by assumption) (by assumption)) ?_
  dsimp only [Option.toList, List.cons_append, List.nil_append]
  refine e_astoreN dX9_shorter_8 rfl rfl ?_
  dsimp only [List.set]
  refine e_aload_n rfl dX9_shorter_10 ?_
  refine e_getf fdX9_19 dX9_shorter_11 (by first | assumption | exact kup_s | exact kup_n (by omega) (by first | assumption | exact kup_s | exact kup_n (by omega) (by first | assumption | exact kup_s | exact kup_n (by omega) (by assumption)))) rfl ?_
  refine e_iload_n rfl dX9_shorter_14 ?_
  refine eV1 mtX2_bookAt miX2_bookAt lkX9_61 dX9_shorter_15 (by first | assumption | exact kup_s | exact kup_n (by omega) (by first | assumption | exact kup_s | exact kup_n (by omega) (by first | assumption | exact kup_s | exact kup_n (by omega) (by assumption)))) rfl rfl rfl (k_bookAtN zn.1 (by assumption) (by assumption)) ?_
  dsimp only [Option.toList, List.cons_append, List.nil_append]
  refine e_astoreN dX9_shorter_18 rfl rfl ?_
  dsimp only [List.set]
  refine e_aloadN rfl dX9_shorter_20 ?_
  refine e_ifnullN (tgt := 30) dX9_shorter_22 (by decide) ?_
  refine e_iconst dX9_shorter_30 ?_
  refine e_ireturn dX9_shorter_31 rfl rfl ?_
  exact kQc_0 (by unfold a_shorter; (repeat' split) <;> first | rfl | (exfalso; omega)) z
set_option maxHeartbeats 4000000 in
set_option maxRecDepth 100000 in
theorem k_shorterNY {G : kG} {d : Nat} {h : Nat → Option kC} {n : Nat} {Z : kCs} (g : rSt G) (z : rKI G h Z) (ok : kCok Z) {b c : Int} (hb : inI b) (hc : inI c) (hb9 : ¬ (0 ≤ b ∧ b ≤ 5)) (hc9 : 0 ≤ c ∧ c ≤ 5) {w : Int} (hw : inI w) {x : Int} (hx : inI x) : kCall G mX9_shorter (d + 6) 0 0 [.ref (gB G + 0), .int (jI b), .int (jI c), .int (jI w), .int (jI x)] h n (kQc G h n (.int (jI (a_shorter Z b c w x))) (Z)) := by
  show kE G mX9_shorter (d + 6) 0 0 0 [some (.ref (gB G + 0)), some (.int (jI b)), some (.int (jI c)), some (.int (jI w)), some (.int (jI x)), none, none, none] [] h n _
  obtain ⟨⟨z0, ⟨f0, z28, z28f⟩, zu⟩, zp, zn, zi, zk, ⟨q, zq⟩, ⟨P, zP⟩, ⟨s, zs⟩, A9, E9, t9, zt⟩ := id z
  have zp1 := zp.1
  have zn1 := zn.1.1
  have zu1 := zu.1
  obtain ⟨okn, ⟨p0, p1, p2⟩, oki, okk⟩ := id ok
  refine e_aload_n rfl dX9_shorter_0 ?_
  refine e_getf fdX9_19 dX9_shorter_1 (by first | assumption | exact kup_s | exact kup_n (by omega) (by first | assumption | exact kup_s | exact kup_n (by omega) (by first | assumption | exact kup_s | exact kup_n (by omega) (by assumption)))) rfl ?_
  refine e_iload_n rfl dX9_shorter_4 ?_
  refine eV1 mtX2_bookAt miX2_bookAt lkX9_61 dX9_shorter_5 (by first | assumption | exact kup_s | exact kup_n (by omega) (by first | assumption | exact kup_s | exact kup_n (by omega) (by first | assumption | exact kup_s | exact kup_n (by omega) (by assumption)))) rfl rfl rfl (k_bookAtN zn.1 (by assumption) (by assumption)) ?_
  dsimp only [Option.toList, List.cons_append, List.nil_append]
  refine e_astoreN dX9_shorter_8 rfl rfl ?_
  dsimp only [List.set]
  refine e_aload_n rfl dX9_shorter_10 ?_
  refine e_getf fdX9_19 dX9_shorter_11 (by first | assumption | exact kup_s | exact kup_n (by omega) (by first | assumption | exact kup_s | exact kup_n (by omega) (by first | assumption | exact kup_s | exact kup_n (by omega) (by assumption)))) rfl ?_
  refine e_iload_n rfl dX9_shorter_14 ?_
  refine eV1 mtX2_bookAt miX2_bookAt lkX9_61 dX9_shorter_15 (by first | assumption | exact kup_s | exact kup_n (by omega) (by first | assumption | exact kup_s | exact kup_n (by omega) (by first | assumption | exact kup_s | exact kup_n (by omega) (by assumption)))) rfl rfl rfl (k_bookAt zn.1 (by omega) (by omega)) ?_
  dsimp only [Option.toList, List.cons_append, List.nil_append]
  refine e_astore dX9_shorter_18 rfl rfl ?_
  dsimp only [List.set]
  refine e_aloadN rfl dX9_shorter_20 ?_
  refine e_ifnullN (tgt := 30) dX9_shorter_22 (by decide) ?_
  refine e_iconst dX9_shorter_30 ?_
  refine e_ireturn dX9_shorter_31 rfl rfl ?_
  exact kQc_0 (by unfold a_shorter; (repeat' split) <;> first | rfl | (exfalso; omega)) z
set_option maxHeartbeats 4000000 in
set_option maxRecDepth 100000 in
theorem k_shorterYN {G : kG} {d : Nat} {h : Nat → Option kC} {n : Nat} {Z : kCs} (g : rSt G) (z : rKI G h Z) (ok : kCok Z) {b c : Int} (hb : inI b) (hc : inI c) (hb9 : 0 ≤ b ∧ b ≤ 5) (hc9 : ¬ (0 ≤ c ∧ c ≤ 5)) {w : Int} (hw : inI w) {x : Int} (hx : inI x) : kCall G mX9_shorter (d + 6) 0 0 [.ref (gB G + 0), .int (jI b), .int (jI c), .int (jI w), .int (jI x)] h n (kQc G h n (.int (jI (a_shorter Z b c w x))) (Z)) := by
  show kE G mX9_shorter (d + 6) 0 0 0 [some (.ref (gB G + 0)), some (.int (jI b)), some (.int (jI c)), some (.int (jI w)), some (.int (jI x)), none, none, none] [] h n _
  obtain ⟨⟨z0, ⟨f0, z28, z28f⟩, zu⟩, zp, zn, zi, zk, ⟨q, zq⟩, ⟨P, zP⟩, ⟨s, zs⟩, A9, E9, t9, zt⟩ := id z
  have zp1 := zp.1
  have zn1 := zn.1.1
  have zu1 := zu.1
  obtain ⟨okn, ⟨p0, p1, p2⟩, oki, okk⟩ := id ok
  refine e_aload_n rfl dX9_shorter_0 ?_
  refine e_getf fdX9_19 dX9_shorter_1 (by first | assumption | exact kup_s | exact kup_n (by omega) (by first | assumption | exact kup_s | exact kup_n (by omega) (by first | assumption | exact kup_s | exact kup_n (by omega) (by assumption)))) rfl ?_
  refine e_iload_n rfl dX9_shorter_4 ?_
  refine eV1 mtX2_bookAt miX2_bookAt lkX9_61 dX9_shorter_5 (by first | assumption | exact kup_s | exact kup_n (by omega) (by first | assumption | exact kup_s | exact kup_n (by omega) (by first | assumption | exact kup_s | exact kup_n (by omega) (by assumption)))) rfl rfl rfl (k_bookAt zn.1 (by omega) (by omega)) ?_
  dsimp only [Option.toList, List.cons_append, List.nil_append]
  refine e_astore dX9_shorter_8 rfl rfl ?_
  dsimp only [List.set]
  refine e_aload_n rfl dX9_shorter_10 ?_
  refine e_getf fdX9_19 dX9_shorter_11 (by first | assumption | exact kup_s | exact kup_n (by omega) (by first | assumption | exact kup_s | exact kup_n (by omega) (by first | assumption | exact kup_s | exact kup_n (by omega) (by assumption)))) rfl ?_
  refine e_iload_n rfl dX9_shorter_14 ?_
  refine eV1 mtX2_bookAt miX2_bookAt lkX9_61 dX9_shorter_15 (by first | assumption | exact kup_s | exact kup_n (by omega) (by first | assumption | exact kup_s | exact kup_n (by omega) (by first | assumption | exact kup_s | exact kup_n (by omega) (by assumption)))) rfl rfl rfl (k_bookAtN zn.1 (by assumption) (by assumption)) ?_
  dsimp only [Option.toList, List.cons_append, List.nil_append]
  refine e_astoreN dX9_shorter_18 rfl rfl ?_
  dsimp only [List.set]
  refine e_aload rfl dX9_shorter_20 ?_
  refine e_ifnull dX9_shorter_22 ?_
  refine e_aloadN rfl dX9_shorter_25 ?_
  refine e_ifnonnullN dX9_shorter_27 ?_
  refine e_iconst dX9_shorter_30 ?_
  refine e_ireturn dX9_shorter_31 rfl rfl ?_
  exact kQc_0 (by unfold a_shorter; (repeat' split) <;> first | rfl | (exfalso; omega)) z
set_option maxHeartbeats 4000000 in
set_option maxRecDepth 100000 in
theorem k_shorterYY {G : kG} {d : Nat} {h : Nat → Option kC} {n : Nat} {Z : kCs} (g : rSt G) (z : rKI G h Z) (ok : kCok Z) {b c : Int} (hb : inI b) (hc : inI c) (hb9 : 0 ≤ b ∧ b ≤ 5) (hc9 : 0 ≤ c ∧ c ≤ 5) {w : Int} (hw : inI w) {x : Int} (hx : inI x) : kCall G mX9_shorter (d + 6) 0 0 [.ref (gB G + 0), .int (jI b), .int (jI c), .int (jI w), .int (jI x)] h n (kQc G h n (.int (jI (a_shorter Z b c w x))) (Z)) := by
  show kE G mX9_shorter (d + 6) 0 0 0 [some (.ref (gB G + 0)), some (.int (jI b)), some (.int (jI c)), some (.int (jI w)), some (.int (jI x)), none, none, none] [] h n _
  obtain ⟨⟨z0, ⟨f0, z28, z28f⟩, zu⟩, zp, zn, zi, zk, ⟨q, zq⟩, ⟨P, zP⟩, ⟨s, zs⟩, A9, E9, t9, zt⟩ := id z
  have zp1 := zp.1
  have zn1 := zn.1.1
  have zu1 := zu.1
  obtain ⟨okn, ⟨p0, p1, p2⟩, oki, okk⟩ := id ok
  obtain ⟨⟨w00, w01⟩, ⟨w10, w11⟩, ⟨w20, w21⟩, ⟨w30, w31⟩, ⟨w40, w41⟩⟩ := id okn.2.2.1
  have zb := rHd_b zn (i := b.toNat) (by omega)
  have zb1 := zb.1
  have za := okn.1 b.toNat (by omega)
  have ze := okn.2.1 b.toNat (by omega)
  have zA := kA_sum za
  obtain ⟨⟨y00, y01⟩, ⟨y10, y11⟩, ⟨y20, y21⟩⟩ := id ze
  have zc := rHd_b zn (i := c.toNat) (by omega)
  have zc1 := zc.1
  have zca := okn.1 c.toNat (by omega)
  have zce := okn.2.1 c.toNat (by omega)
  have zcA := kA_sum zca
  obtain ⟨⟨v00, v01⟩, ⟨v10, v11⟩, ⟨v20, v21⟩⟩ := id zce
  refine e_aload_n rfl dX9_shorter_0 ?_
  refine e_getf fdX9_19 dX9_shorter_1 (by first | assumption | exact kup_s | exact kup_n (by omega) (by first | assumption | exact kup_s | exact kup_n (by omega) (by first | assumption | exact kup_s | exact kup_n (by omega) (by assumption)))) rfl ?_
  refine e_iload_n rfl dX9_shorter_4 ?_
  refine eV1 mtX2_bookAt miX2_bookAt lkX9_61 dX9_shorter_5 (by first | assumption | exact kup_s | exact kup_n (by omega) (by first | assumption | exact kup_s | exact kup_n (by omega) (by first | assumption | exact kup_s | exact kup_n (by omega) (by assumption)))) rfl rfl rfl (k_bookAt zn.1 (by omega) (by omega)) ?_
  dsimp only [Option.toList, List.cons_append, List.nil_append]
  refine e_astore dX9_shorter_8 rfl rfl ?_
  dsimp only [List.set]
  refine e_aload_n rfl dX9_shorter_10 ?_
  refine e_getf fdX9_19 dX9_shorter_11 (by first | assumption | exact kup_s | exact kup_n (by omega) (by first | assumption | exact kup_s | exact kup_n (by omega) (by first | assumption | exact kup_s | exact kup_n (by omega) (by assumption)))) rfl ?_
  refine e_iload_n rfl dX9_shorter_14 ?_
  refine eV1 mtX2_bookAt miX2_bookAt lkX9_61 dX9_shorter_15 (by first | assumption | exact kup_s | exact kup_n (by omega) (by first | assumption | exact kup_s | exact kup_n (by omega) (by first | assumption | exact kup_s | exact kup_n (by omega) (by assumption)))) rfl rfl rfl (k_bookAt zn.1 (by omega) (by omega)) ?_
  dsimp only [Option.toList, List.cons_append, List.nil_append]
  refine e_astore dX9_shorter_18 rfl rfl ?_
  dsimp only [List.set]
  refine e_aload rfl dX9_shorter_20 ?_
  refine e_ifnull dX9_shorter_22 ?_
  refine e_aload rfl dX9_shorter_25 ?_
  refine e_ifnonnull (tgt := 32) dX9_shorter_27 (by decide) ?_
  refine e_iload_n rfl dX9_shorter_32 ?_
  refine eS1 mtX9_isWidth msX9_isWidth lkX9_164 dX9_shorter_33 rfl rfl (k_isWidth (by first | assumption | (unfold inI at *; omega))) ?_
  dsimp only [Option.toList, List.cons_append, List.nil_append]
  refine e_ifeqP (tgt := 51) dX9_shorter_36 (by decide) (fun c36 => ?_) (fun c36 => ?_)
  · refine e_bipush (by decide) dX9_shorter_51 ?_
    refine e_ireturn dX9_shorter_53 rfl rfl ?_
    refine ⟨by unfold a_shorter; (first | rw [hA1, hA4, hA5] | skip); (repeat' split) <;> first | rfl | (exfalso; omega), ?_, ?_, Nat.le_refl _⟩
    · first | exact z | exact rKI_92 z | exact rKI_kuh z | exact rKI_kuh (rKI_kuh z)
    · first | exact fun j h1 _ => rfl | exact fun j h1 _ => kup_o (by omega) | exact fun j h1 _ => kuh_o9 (by omega) (by omega) | exact fun j h1 _ => (kuh_o9 (by omega) (by omega)).trans (kuh_o9 (by omega) (by omega))
  · refine e_iload rfl dX9_shorter_39 ?_
    refine e_iconst dX9_shorter_41 ?_
    refine e_sipush (by decide) dX9_shorter_42 ?_
    refine eS3 mtX9_within msX9_within lkX9_69 dX9_shorter_45 rfl rfl (k_within (by first | assumption | (unfold inI at *; omega)) (by first | assumption | (unfold inI at *; omega)) (by first | assumption | (unfold inI at *; omega))) ?_
    dsimp only [Option.toList, List.cons_append, List.nil_append]
    refine e_ifneP (tgt := 54) dX9_shorter_48 (by decide) (fun c48 => ?_) (fun c48 => ?_)
    · refine e_aload_n rfl dX9_shorter_54 ?_
      refine e_aload rfl dX9_shorter_55 ?_
      refine e_iload_n rfl dX9_shorter_57 ?_
      refine e_iload rfl dX9_shorter_58 ?_
      refine eV3R mtX9_seekSpan miX9_seekSpan lkX9_177 dX9_shorter_60 (by first | exact z0 | exact (kuh_o9 (by omega) (by omega)).trans z0 | exact (kuh_o9 (by omega) (by omega)).trans ((kuh_o9 (by omega) (by omega)).trans z0)) rfl rfl rfl (k_zseekS g z ok zb (by omega) za ze zq zP (by omega) (by omega) (by omega) (by omega)) (fun r60 h60 n60 hp60 => ?_)
      obtain ⟨P1, rfl, rfl, rfl⟩ := hp60
      have q7 := ksp_in (kso (hM (cN Z) b.toNat) w (kln (hE (cN Z) b.toNat) (hR (cN Z))) (hW (cN Z) 0)) (((kso (hM (cN Z) b.toNat) w (kln (hE (cN Z) b.toNat) (hR (cN Z))) (hW (cN Z) 0)) (kbm (kso (hM (cN Z) b.toNat) w (kln (hE (cN Z) b.toNat) (hR (cN Z))) (hW (cN Z) 0)) 64).toNat) + x) 64
      generalize hA1 : ksp (kso (hM (cN Z) b.toNat) w (kln (hE (cN Z) b.toNat) (hR (cN Z))) (hW (cN Z) 0)) (((kso (hM (cN Z) b.toNat) w (kln (hE (cN Z) b.toNat) (hR (cN Z))) (hW (cN Z) 0)) (kbm (kso (hM (cN Z) b.toNat) w (kln (hE (cN Z) b.toNat) (hR (cN Z))) (hW (cN Z) 0)) 64).toNat) + x) 64 = A1 at q7 ⊢
      dsimp only [Option.toList, List.cons_append, List.nil_append]
      refine e_aload_n rfl dX9_shorter_63 ?_
      refine e_getf fdX9_43 dX9_shorter_64 (by first | exact z0 | exact (kuh_o9 (by omega) (by omega)).trans z0 | exact (kuh_o9 (by omega) (by omega)).trans ((kuh_o9 (by omega) (by omega)).trans z0)) rfl ?_
      refine e_getf fdX9_181 dX9_shorter_67 kuh_9o rfl ?_
      try dsimp only
      refine e_istore dX9_shorter_70 rfl rfl ?_
      dsimp only [List.set]
      refine e_aload_n rfl dX9_shorter_72 ?_
      refine e_aload rfl dX9_shorter_73 ?_
      refine e_iload_n rfl dX9_shorter_75 ?_
      refine e_iload rfl dX9_shorter_76 ?_
      refine eV3R mtX9_seekSpan miX9_seekSpan lkX9_177 dX9_shorter_78 (by first | exact z0 | exact (kuh_o9 (by omega) (by omega)).trans z0 | exact (kuh_o9 (by omega) (by omega)).trans ((kuh_o9 (by omega) (by omega)).trans z0)) rfl rfl rfl (k_zseekS g (rKI_kuh z) ok (rHd_b (rKI_kuh z).2.2.1 (i := c.toNat) (by omega)) (by omega) zca zce kuh_91 kuh_92 (by omega) (by omega) (by omega) (by omega)) (fun r78 h78 n78 hp78 => ?_)
      obtain ⟨P2, rfl, rfl, rfl⟩ := hp78
      have q6 := ksp_in (kso (hM (cN Z) c.toNat) w (kln (hE (cN Z) c.toNat) (hR (cN Z))) (hW (cN Z) 0)) (((kso (hM (cN Z) c.toNat) w (kln (hE (cN Z) c.toNat) (hR (cN Z))) (hW (cN Z) 0)) (kbm (kso (hM (cN Z) c.toNat) w (kln (hE (cN Z) c.toNat) (hR (cN Z))) (hW (cN Z) 0)) 64).toNat) + x) 64
      generalize hA4 : ksp (kso (hM (cN Z) c.toNat) w (kln (hE (cN Z) c.toNat) (hR (cN Z))) (hW (cN Z) 0)) (((kso (hM (cN Z) c.toNat) w (kln (hE (cN Z) c.toNat) (hR (cN Z))) (hW (cN Z) 0)) (kbm (kso (hM (cN Z) c.toNat) w (kln (hE (cN Z) c.toNat) (hR (cN Z))) (hW (cN Z) 0)) 64).toNat) + x) 64 = A4 at q6 ⊢
      have q5 := ksq_in (kso (hM (cN Z) c.toNat) w (kln (hE (cN Z) c.toNat) (hR (cN Z))) (hW (cN Z) 0)) (((kso (hM (cN Z) c.toNat) w (kln (hE (cN Z) c.toNat) (hR (cN Z))) (hW (cN Z) 0)) (kbm (kso (hM (cN Z) c.toNat) w (kln (hE (cN Z) c.toNat) (hR (cN Z))) (hW (cN Z) 0)) 64).toNat) + x) 64
      generalize hA5 : ksq (kso (hM (cN Z) c.toNat) w (kln (hE (cN Z) c.toNat) (hR (cN Z))) (hW (cN Z) 0)) (((kso (hM (cN Z) c.toNat) w (kln (hE (cN Z) c.toNat) (hR (cN Z))) (hW (cN Z) 0)) (kbm (kso (hM (cN Z) c.toNat) w (kln (hE (cN Z) c.toNat) (hR (cN Z))) (hW (cN Z) 0)) 64).toNat) + x) 64 = A5 at q5 ⊢
      dsimp only [Option.toList, List.cons_append, List.nil_append]
      refine e_aload_n rfl dX9_shorter_81 ?_
      refine e_getf fdX9_43 dX9_shorter_82 (by first | exact z0 | exact (kuh_o9 (by omega) (by omega)).trans z0 | exact (kuh_o9 (by omega) (by omega)).trans ((kuh_o9 (by omega) (by omega)).trans z0)) rfl ?_
      refine e_getf fdX9_184 dX9_shorter_85 kuh_9o rfl ?_
      try dsimp only
      refine e_iload rfl dX9_shorter_88 ?_
      refine e_icmp_ge (tgt := 95) dX9_shorter_90 (by decide) (by first | assumption | (unfold inI at *; omega)) (by first | assumption | (unfold inI at *; omega)) (fun c90 => ?_) (fun c90 => ?_)
      · refine e_aload_n rfl dX9_shorter_95 ?_
        refine e_getf fdX9_43 dX9_shorter_96 (by first | exact z0 | exact (kuh_o9 (by omega) (by omega)).trans z0 | exact (kuh_o9 (by omega) (by omega)).trans ((kuh_o9 (by omega) (by omega)).trans z0)) rfl ?_
        refine e_getf fdX9_181 dX9_shorter_99 kuh_9o rfl ?_
        try dsimp only
        refine e_iload rfl dX9_shorter_102 ?_
        refine e_icmp_lt (tgt := 111) dX9_shorter_104 (by decide) (by first | assumption | (unfold inI at *; omega)) (by first | assumption | (unfold inI at *; omega)) (fun c104 => ?_) (fun c104 => ?_)
        · refine e_iconst dX9_shorter_111 ?_
          refine e_ireturn dX9_shorter_112 rfl rfl ?_
          refine ⟨by unfold a_shorter; (first | rw [hA1, hA4, hA5] | skip); (repeat' split) <;> first | rfl | (exfalso; omega), ?_, ?_, Nat.le_refl _⟩
          · first | exact z | exact rKI_92 z | exact rKI_kuh z | exact rKI_kuh (rKI_kuh z)
          · first | exact fun j h1 _ => rfl | exact fun j h1 _ => kup_o (by omega) | exact fun j h1 _ => kuh_o9 (by omega) (by omega) | exact fun j h1 _ => (kuh_o9 (by omega) (by omega)).trans (kuh_o9 (by omega) (by omega))
        · refine e_iconst dX9_shorter_107 ?_
          refine e_goto (tgt := 112) dX9_shorter_108 (by decide) ?_
          refine e_ireturn dX9_shorter_112 rfl rfl ?_
          refine ⟨by unfold a_shorter; (first | rw [hA1, hA4, hA5] | skip); (repeat' split) <;> first | rfl | (exfalso; omega), ?_, ?_, Nat.le_refl _⟩
          · first | exact z | exact rKI_92 z | exact rKI_kuh z | exact rKI_kuh (rKI_kuh z)
          · first | exact fun j h1 _ => rfl | exact fun j h1 _ => kup_o (by omega) | exact fun j h1 _ => kuh_o9 (by omega) (by omega) | exact fun j h1 _ => (kuh_o9 (by omega) (by omega)).trans (kuh_o9 (by omega) (by omega))
      · refine e_iconst dX9_shorter_93 ?_
        refine e_ireturn dX9_shorter_94 rfl rfl ?_
        refine ⟨by unfold a_shorter; (first | rw [hA1, hA4, hA5] | skip); (repeat' split) <;> first | rfl | (exfalso; omega), ?_, ?_, Nat.le_refl _⟩
        · first | exact z | exact rKI_92 z | exact rKI_kuh z | exact rKI_kuh (rKI_kuh z)
        · first | exact fun j h1 _ => rfl | exact fun j h1 _ => kup_o (by omega) | exact fun j h1 _ => kuh_o9 (by omega) (by omega) | exact fun j h1 _ => (kuh_o9 (by omega) (by omega)).trans (kuh_o9 (by omega) (by omega))
    · refine e_bipush (by decide) dX9_shorter_51 ?_
      refine e_ireturn dX9_shorter_53 rfl rfl ?_
      refine ⟨by unfold a_shorter; (first | rw [hA1, hA4, hA5] | skip); (repeat' split) <;> first | rfl | (exfalso; omega), ?_, ?_, Nat.le_refl _⟩
      · first | exact z | exact rKI_92 z | exact rKI_kuh z | exact rKI_kuh (rKI_kuh z)
      · first | exact fun j h1 _ => rfl | exact fun j h1 _ => kup_o (by omega) | exact fun j h1 _ => kuh_o9 (by omega) (by omega) | exact fun j h1 _ => (kuh_o9 (by omega) (by omega)).trans (kuh_o9 (by omega) (by omega))
theorem k_shorter {G : kG} {d : Nat} {h : Nat → Option kC} {n : Nat} {Z : kCs} (g : rSt G) (z : rKI G h Z) (ok : kCok Z) {b c : Int} (hb : inI b) (hc : inI c) {w : Int} (hw : inI w) {x : Int} (hx : inI x) : kCall G mX9_shorter (d + 6) 0 0 [.ref (gB G + 0), .int (jI b), .int (jI c), .int (jI w), .int (jI x)] h n (kQc G h n (.int (jI (a_shorter Z b c w x))) (Z)) := by
  by_cases c9 : 0 ≤ b ∧ b ≤ 5 <;> by_cases c8 : 0 ≤ c ∧ c ≤ 5
  · exact k_shorterYY g z ok hb hc c9 c8 hw hx
  · exact k_shorterYN g z ok hb hc c9 c8 hw hx
  · exact k_shorterNY g z ok hb hc c9 c8 hw hx
  · exact k_shorterNN g z ok hb hc c9 c8 hw hx
