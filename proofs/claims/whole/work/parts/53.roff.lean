/-! THE REFERENCE: OFF, BEST -/
def kQd (G : kG) (h : Nat → Option kC) (n : Nat) (q : Nat → Int) (F : Nat → Nat → Int) (v : Value) : kPo := fun r h' n' => r = some v ∧ n' = n ∧ ∃ (q' : Nat → Int) (F' : Nat → Nat → Int), h' = kmh G h q' F' ∧ (q' 6 = q 6 ∧ q' 9 = q 9 ∧ q' 13 = q 13 ∧ q' 16 = q 16) ∧ ∀ j, j ≠ 111 → F' j = F j
set_option maxHeartbeats 4000000 in
set_option maxRecDepth 100000 in
theorem j_undone {G : kG} {d : Nat} {h : Nat → Option kC} {n : Nat} {q : Nat → Int} {F : Nat → Nat → Int} {Z : kCs} (md : rMD q F Z) (ok : kCok Z) {b : Int} (hby : 0 ≤ b ∧ b ≤ 5) {w : Int} (w0 : 1 ≤ w ∧ w ≤ 8) {t : Int} (t0 : 0 ≤ t ∧ t ≤ 3) (hA0 : ¬ ksum (hM (cN Z) b.toNat) 64 = 0) : kCall G mX10_undone (d + 4) 0 0 [.ref (gB G + 97), .int (jI b), .int (jI w), .int (jI t)] (kmh G h q F) n (kQd G h n q F (.int (jI (kund Z (hM (cN Z) b.toNat) (hE (cN Z) b.toNat) w t)))) := by
  show kE G mX10_undone (d + 4) 0 0 0 [some (.ref (gB G + 97)), some (.int (jI b)), some (.int (jI w)), some (.int (jI t))] [] (kmh G h q F) n _
  have za := ok.1.1 b.toNat (by omega)
  have zA := kA_sum za
  obtain ⟨⟨k0, k1⟩, -⟩ := id ok.1.2.2.1
  obtain ⟨w1, w8⟩ := id w0
  have q8 := ksm_in za 0
  refine e_iload_n rfl dX10_undone_0 ?_
  refine e_if_ne (tgt := 18) dX10_undone_1 (by decide) (by first | assumption | (unfold inI at *; omega)) (fun c1 => ?_) (fun c1 => ?_)
  · refine e_iload_n rfl dX10_undone_18 ?_
    refine e_iconst dX10_undone_19 ?_
    refine e_icmp_ne (tgt := 29) dX10_undone_20 (by decide) (by first | assumption | (unfold inI at *; omega)) (by first | assumption | (unfold inI at *; omega)) (fun c20 => ?_) (fun c20 => ?_)
    · refine e_iload_n rfl dX10_undone_29 ?_
      refine e_iconst dX10_undone_30 ?_
      refine e_icmp_ne (tgt := 43) dX10_undone_31 (by decide) (by first | assumption | (unfold inI at *; omega)) (by first | assumption | (unfold inI at *; omega)) (fun c31 => ?_) (fun c31 => ?_)
      · refine e_aload_n rfl dX10_undone_43 ?_
        refine e_iload_n rfl dX10_undone_44 ?_
        refine e_iload_n rfl dX10_undone_45 ?_
        refine eV2 mtX10_findLine miX10_findLine lkX10_205 dX10_undone_46 kmh_97 rfl rfl rfl (j_findLine md ok hby w0) ?_
        dsimp only [Option.toList, List.cons_append, List.nil_append]
        refine e_aload_n rfl dX10_undone_49 ?_
        refine e_getf fdX10_185 dX10_undone_50 kmh_97 rfl ?_
        rw [ks_19]
        try dsimp only
        refine e_ireturn dX10_undone_53 rfl rfl ?_
        first
        | exact ⟨by unfold kund; rw [if_neg (by omega), if_neg (by omega), if_pos (by omega)], rfl, _, _, rfl, ⟨rfl, rfl, rfl, rfl⟩, fun j hj => kF1_n hj⟩
        | exact ⟨by unfold kund; rw [if_neg (by omega), if_neg (by omega), if_neg (by omega)], rfl, _, _, rfl, ⟨rfl, rfl, rfl, rfl⟩, fun j hj => kF1_n hj⟩
      · refine e_aload_n rfl dX10_undone_34 ?_
        refine e_iload_n rfl dX10_undone_35 ?_
        refine e_iload_n rfl dX10_undone_36 ?_
        refine eV2 mtX10_findFit miX10_findFit lkX10_192 dX10_undone_37 kmh_97 rfl rfl rfl (j_findFit md ok hby w0) ?_
        dsimp only [Option.toList, List.cons_append, List.nil_append]
        refine e_goto (tgt := 49) dX10_undone_40 (by decide) ?_
        refine e_aload_n rfl dX10_undone_49 ?_
        refine e_getf fdX10_185 dX10_undone_50 kmh_97 rfl ?_
        rw [ks_19]
        try dsimp only
        refine e_ireturn dX10_undone_53 rfl rfl ?_
        first
        | exact ⟨by unfold kund; rw [if_neg (by omega), if_neg (by omega), if_pos (by omega)], rfl, _, _, rfl, ⟨rfl, rfl, rfl, rfl⟩, fun j hj => kF1_n hj⟩
        | exact ⟨by unfold kund; rw [if_neg (by omega), if_neg (by omega), if_neg (by omega)], rfl, _, _, rfl, ⟨rfl, rfl, rfl, rfl⟩, fun j hj => kF1_n hj⟩
    · refine e_aload_n rfl dX10_undone_23 ?_
      refine e_iload_n rfl dX10_undone_24 ?_
      refine eV1 mtX10_modeOf miX10_modeOf lkX10_268 dX10_undone_25 kmh_97 rfl rfl rfl (j_modeOf md ok (by omega)) ?_
      dsimp only [Option.toList, List.cons_append, List.nil_append]
      refine e_ireturn dX10_undone_28 rfl rfl ?_
      exact ⟨by unfold kmd; rw [if_neg hA0]; unfold kund; rw [if_neg (by omega), if_pos (by omega)], rfl, _, _, rfl, ⟨rfl, rfl, rfl, rfl⟩, fun _ _ => rfl⟩
  · refine e_aload_n rfl dX10_undone_4 ?_
    refine e_iload_n rfl dX10_undone_5 ?_
    refine eV1 mtX10_sumOf miX10_sumOf lkX10_264 dX10_undone_6 kmh_97 rfl rfl rfl (j_sumOf md ok (by omega)) ?_
    dsimp only [Option.toList, List.cons_append, List.nil_append]
    refine e_aload_n rfl dX10_undone_9 ?_
    refine e_iload_n rfl dX10_undone_10 ?_
    refine eV1 mtX10_all miX10_all lkX10_172 dX10_undone_11 kmh_97 rfl rfl rfl (j_all md ok (by omega)) ?_
    dsimp only [Option.toList, List.cons_append, List.nil_append]
    refine e_i2l (by first | assumption | (unfold inI at *; omega)) dX10_undone_14 ?_
    refine e_ldivN (by first | assumption | (unfold inL at *; omega)) (by first | assumption | (unfold inL at *; omega)) (by omega) (by omega) dX10_undone_15 ?_
    refine e_l2i dX10_undone_16 ?_
    refine e_ireturn dX10_undone_17 rfl rfl ?_
    exact ⟨by unfold kund; rw [if_pos (by omega), if_neg hA0], rfl, _, _, rfl, ⟨rfl, rfl, rfl, rfl⟩, fun _ _ => rfl⟩
def khd (f g : Nat → Int) (b i : Nat) : Nat → Int := fun j => if j < i then g (64 * b + j) else f j
theorem khd_s {f g : Nat → Int} {b i : Nat} : up (khd f g b i) i (g (64 * b + i)) = khd f g b (i + 1) := by
  funext j
  unfold up khd
  by_cases e : j = i
  · rw [if_pos e, if_pos (by omega), e]
  · rw [if_neg e]
    by_cases e2 : j < i
    · rw [if_pos e2, if_pos (by omega)]
    · rw [if_neg e2, if_neg (by omega)]
def kres (f g : Nat → Int) (b i : Nat) : Nat → Int := fun j => if 64 * b ≤ j ∧ j < 64 * b + i then g j else f j
theorem kres_s {f g : Nat → Int} {b i : Nat} : up (kres f g b i) (64 * b + i) (g (64 * b + i)) = kres f g b (i + 1) := by
  funext j
  unfold up kres
  by_cases e : j = 64 * b + i
  · rw [if_pos e, if_pos (by omega), e]
  · rw [if_neg e]
    by_cases e2 : 64 * b ≤ j ∧ j < 64 * b + i
    · rw [if_pos e2, if_pos (by omega)]
    · rw [if_neg e2, if_neg (by omega)]
theorem kres_0 {f g : Nat → Int} {b : Nat} : kres f g b 0 = f := by
  funext j
  unfold kres
  rw [if_neg (by omega)]
set_option maxHeartbeats 4000000 in
set_option maxRecDepth 100000 in
theorem j_off3 {G : kG} {d : Nat} {h : Nat → Option kC} {n : Nat} {q : Nat → Int} {F : Nat → Nat → Int} {Z : kCs} (md : rMD q F Z) (ok : kCok Z) {b : Int} (hby : 0 ≤ b ∧ b ≤ 5) {u m w x v t : Int} (u0 : 0 ≤ u ∧ u ≤ 9999) (m0 : 0 ≤ m ∧ m ≤ 63) (w0 : 1 ≤ w ∧ w ≤ 8) (x0 : 0 ≤ x ∧ x ≤ 200) (v0 : 0 ≤ v ∧ v ≤ 8) (t0 : 0 ≤ t ∧ t ≤ 3) {q9 : Nat → Int} {F9 : Nat → Nat → Int} {B : Nat → Int} (k4 : rMD q9 F9 (kZA Z b.toNat B)) (k6 : ∀ j, (j < 64 * b.toNat ∨ 64 * b.toNat + 64 ≤ j) → F9 98 j = F 98 j) (k7 : ∀ j, j < 64 → F9 112 j = F 98 (64 * b.toNat + j)) {c : Int} {e10 : Option Value}  : ∀ (f : Nat) (i : Nat) (z : Int), z = (i : Int) → i ≤ 64 → 64 - (i : Int) ≤ f → kE G mX10_offOf (d + 5) 0 0 100 [some (.ref (gB G + 97)), some (.int (jI b)), some (.int (jI u)), some (.int (jI m)), some (.int (jI w)), some (.int (jI x)), some (.int (jI v)), some (.int (jI t)), some (.int (jI c)), some (.int (jI z)), e10] [] (kmh G h q9 (up2 F9 98 (kres (F9 98) (F 98) b.toNat i))) n (kQm G h n (.int (jI (c))) (Z)) := by
  intro f
  induction f with
  | zero =>
    intro i z g1 g2 g3
    refine e_iload rfl dX10_offOf_100 ?_
    refine e_bipush (by decide) dX10_offOf_102 ?_
    refine e_icmp_ge (tgt := 131) dX10_offOf_104 (by decide) (by first | assumption | (unfold inI at *; omega)) (by first | assumption | (unfold inI at *; omega)) (fun c104 => ?_) (fun c104 => ?_)
    · refine e_iload rfl dX10_offOf_131 ?_
      refine e_ireturn dX10_offOf_133 rfl rfl ?_
      have e9 : i = 64 := by omega
      subst e9
      have h9 : ∀ b9 x9 : Nat, b9 < 6 → x9 < 64 → up2 F9 98 (kres (F9 98) (F 98) b.toNat 64) 98 (64 * b9 + x9) = hM (cN Z) b9 x9 := fun b9 x9 h1 h2 => by
        rw [up2_s, ← md.1.1 b9 x9 h1 h2]
        unfold kres
        split
        · rfl
        · exact k6 _ (by omega)
      have r9 := rMD_98 (Z := kZA Z b.toNat B) (M' := hM (cN Z)) k4 (fun j h1 _ _ => up2_n h1) h9
      exact ⟨rfl, rfl, _, _, rfl, r9⟩
    · exact absurd c104 (by omega)
  | succ f ih =>
    intro i z g1 g2 g3
    subst g1
    refine e_iload rfl dX10_offOf_100 ?_
    refine e_bipush (by decide) dX10_offOf_102 ?_
    refine e_icmp_ge (tgt := 131) dX10_offOf_104 (by decide) (by first | assumption | (unfold inI at *; omega)) (by first | assumption | (unfold inI at *; omega)) (fun c104 => ?_) (fun c104 => ?_)
    · refine e_iload rfl dX10_offOf_131 ?_
      refine e_ireturn dX10_offOf_133 rfl rfl ?_
      have e9 : i = 64 := by omega
      subst e9
      have h9 : ∀ b9 x9 : Nat, b9 < 6 → x9 < 64 → up2 F9 98 (kres (F9 98) (F 98) b.toNat 64) 98 (64 * b9 + x9) = hM (cN Z) b9 x9 := fun b9 x9 h1 h2 => by
        rw [up2_s, ← md.1.1 b9 x9 h1 h2]
        unfold kres
        split
        · rfl
        · exact k6 _ (by omega)
      have r9 := rMD_98 (Z := kZA Z b.toNat B) (M' := hM (cN Z)) k4 (fun j h1 _ _ => up2_n h1) h9
      exact ⟨rfl, rfl, _, _, rfl, r9⟩
    · refine e_aload_n rfl dX10_offOf_107 ?_
      refine e_getf fdX10_7 dX10_offOf_108 kmh_97 rfl ?_
      refine e_iload_n rfl dX10_offOf_111 ?_
      refine e_iload rfl dX10_offOf_112 ?_
      refine eS2 mtX10_at msX10_at lkX10_85 dX10_offOf_114 rfl rfl j_at ?_
      dsimp only [Option.toList, List.cons_append, List.nil_append]
      refine e_aload_n rfl dX10_offOf_117 ?_
      refine e_getf fdX10_52 dX10_offOf_118 kmh_97 rfl ?_
      refine e_iload rfl dX10_offOf_121 ?_
      refine e_mld (by first | exact ka98 | exact ka99 | exact ka100 | exact ka101 | exact ka102 | exact ka103 | exact ka104 | exact ka105 | exact ka106 | exact ka107 | exact ka108 | exact ka109 | exact ka110 | exact ka111 | exact ka112 | exact ka113) dX10_offOf_123 (by omega) (by omega) ?_
      rw [up2_n (by decide), Int.toNat_natCast, k7 i (by omega)]
      refine e_mst (by first | exact ka98 | exact ka99 | exact ka100 | exact ka101 | exact ka102 | exact ka103 | exact ka104 | exact ka105 | exact ka106 | exact ka107 | exact ka108 | exact ka109 | exact ka110 | exact ka111 | exact ka112 | exact ka113) dX10_offOf_124 (by omega) (by omega) ?_
      rw [up2_s, up2_up2, show (64 * b + (i : Int)).toNat = 64 * b.toNat + i by omega, kres_s]
      refine e_iinc dX10_offOf_125 rfl rfl ?_
      dsimp only [List.set]
      refine e_goto (tgt := 100) dX10_offOf_128 (by decide) ?_
      exact ih (i + 1) _ (by omega) (by omega) (by omega)
set_option maxHeartbeats 4000000 in
set_option maxRecDepth 100000 in
theorem j_off2 {G : kG} {d : Nat} {h : Nat → Option kC} {n : Nat} {q : Nat → Int} {F : Nat → Nat → Int} {Z : kCs} (md : rMD q F Z) (ok : kCok Z) {b : Int} (hby : 0 ≤ b ∧ b ≤ 5) {u m w x v t : Int} (u0 : 0 ≤ u ∧ u ≤ 9999) (m0 : 0 ≤ m ∧ m ≤ 63) (w0 : 1 ≤ w ∧ w ≤ 8) (x0 : 0 ≤ x ∧ x ≤ 200) (v0 : 0 ≤ v ∧ v ≤ 8) (t0 : 0 ≤ t ∧ t ≤ 3)  : ∀ (f : Nat) (i : Nat) (z c : Int) (q9 : Nat → Int) (F9 : Nat → Nat → Int) (B : Nat → Int) (e10 : Option Value), z = (i : Int) → (i : Int) ≤ v → v - (i : Int) ≤ f → rMD q9 F9 (kZA Z b.toNat B) → kAok B → (∀ j, (j < 64 * b.toNat ∨ 64 * b.toNat + 64 ≤ j) → F9 98 j = F 98 j) → (∀ j, j < 64 → F9 112 j = F 98 (64 * b.toNat + j)) → c = ksum (fun i => kof1 Z (hE (cN Z) b.toNat) (u + i) m w x t) i → kE G mX10_offOf (d + 5) 0 0 40 [some (.ref (gB G + 97)), some (.int (jI b)), some (.int (jI u)), some (.int (jI m)), some (.int (jI w)), some (.int (jI x)), some (.int (jI v)), some (.int (jI t)), some (.int (jI c)), some (.int (jI z)), e10] [] (kmh G h q9 F9) n (kQm G h n (.int (jI ((kofs Z (hE (cN Z) b.toNat) u m w x t v.toNat)))) (Z)) := by
  intro f
  induction f with
  | zero =>
    intro i z c q9 F9 B e10 g1 g2 g3 g4 g5 g6 g7 g8
    refine e_iload rfl dX10_offOf_40 ?_
    refine e_iload rfl dX10_offOf_42 ?_
    refine e_icmp_ge (tgt := 97) dX10_offOf_44 (by decide) (by first | assumption | (unfold inI at *; omega)) (by first | assumption | (unfold inI at *; omega)) (fun c44 => ?_) (fun c44 => ?_)
    · have e9 : c = (kofs Z (hE (cN Z) b.toNat) u m w x t v.toNat) := by rw [g8, show i = v.toNat by omega]; rfl
      rw [e9]
      refine e_iconst dX10_offOf_97 ?_
      refine e_istore dX10_offOf_98 rfl rfl ?_
      dsimp only [List.set]
      have q9 := j_off3 (G := G) (d := d) (h := h) (n := n) md ok hby u0 m0 w0 x0 v0 t0 g4 g6 g7 (c := (kofs Z (hE (cN Z) b.toNat) u m w x t v.toNat)) (e10 := e10) 100 0 0 (by omega) (by omega) (by omega)
      rw [kres_0, up2_id] at q9
      exact q9
    · exact absurd c44 (by omega)
  | succ f ih =>
    intro i z c q9 F9 B e10 g1 g2 g3 g4 g5 g6 g7 g8
    subst g1
    have q6 := kof1_in ok.1 (E := (hE (cN Z) b.toNat)) (m := m) (w := w) (s := u + (i : Int)) (x := x) (t := t) (by omega) (by omega) (by omega) (by omega) (by omega) (by omega)
    have q5 := kofs_in ok.1 (E := (hE (cN Z) b.toNat)) (m := m) (w := w) (u := u) (x := x) (t := t) (by omega) (by omega) (by omega) (by omega) (by omega) (by omega) (show i ≤ 8 by omega)
    unfold kofs at q5
    rw [← g8] at q5
    refine e_iload rfl dX10_offOf_40 ?_
    refine e_iload rfl dX10_offOf_42 ?_
    refine e_icmp_ge (tgt := 97) dX10_offOf_44 (by decide) (by first | assumption | (unfold inI at *; omega)) (by first | assumption | (unfold inI at *; omega)) (fun c44 => ?_) (fun c44 => ?_)
    · have e9 : c = (kofs Z (hE (cN Z) b.toNat) u m w x t v.toNat) := by rw [g8, show i = v.toNat by omega]; rfl
      rw [e9]
      refine e_iconst dX10_offOf_97 ?_
      refine e_istore dX10_offOf_98 rfl rfl ?_
      dsimp only [List.set]
      have q9 := j_off3 (G := G) (d := d) (h := h) (n := n) md ok hby u0 m0 w0 x0 v0 t0 g4 g6 g7 (c := (kofs Z (hE (cN Z) b.toNat) u m w x t v.toNat)) (e10 := e10) 100 0 0 (by omega) (by omega) (by omega)
      rw [kres_0, up2_id] at q9
      exact q9
    · refine e_aload_n rfl dX10_offOf_47 ?_
      refine e_iload_n rfl dX10_offOf_48 ?_
      refine e_iload_n rfl dX10_offOf_49 ?_
      refine e_iload rfl dX10_offOf_50 ?_
      refine e_iadd dX10_offOf_52 ?_
      refine e_iload_n rfl dX10_offOf_53 ?_
      refine e_iload rfl dX10_offOf_54 ?_
      refine e_iload rfl dX10_offOf_56 ?_
      refine eV5 mtX10_makeIn miX10_makeIn lkX10_293 dX10_offOf_58 kmh_97 rfl rfl rfl (j_makeIn g4 (kZA_ok ok g5) hby (by omega) m0 w0 x0) ?_
      dsimp only [Option.toList, List.cons_append, List.nil_append]
      rw [show (kmk (hW (cN (kZA Z b.toNat B))) (kln (hE (cN (kZA Z b.toNat B)) b.toNat) (hR (cN (kZA Z b.toNat B)))) m w (u + (i : Int)) x.toNat) = (kmk (hW (cN Z)) (kln (hE (cN Z) b.toNat) (hR (cN Z))) m w (u + (i : Int)) x.toNat) from rfl]
      have qA := kmk_ok ok.1 (E := (hE (cN Z) b.toNat)) (m := m) (w := w) (s := u + (i : Int)) (x := x) (by omega) (by omega) (by omega) (by omega)
      have tA := kA_sum qA
      have md9 : rMD (up q9 27 (kmk (hW (cN Z)) (kln (hE (cN Z) b.toNat) (hR (cN Z))) m w (u + (i : Int)) x.toNat).2) (up2 (kF1 F9 w) 98 (kput9 (F9 98) b.toNat (kmk (hW (cN Z)) (kln (hE (cN Z) b.toNat) (hR (cN Z))) m w (u + (i : Int)) x.toNat).1)) (kZA Z b.toNat (kmk (hW (cN Z)) (kln (hE (cN Z) b.toNat) (hR (cN Z))) m w (u + (i : Int)) x.toNat).1) := rMD_A g4 ⟨rfl, rfl, rfl, rfl⟩ (fun j h1 h2 h3 => (up2_n h1).trans (kF1_n h2)) up2_s
      have q4 : kof1 Z (hE (cN Z) b.toNat) (u + (i : Int)) m w x t = if ksum (kmk (hW (cN Z)) (kln (hE (cN Z) b.toNat) (hR (cN Z))) m w (u + (i : Int)) x.toNat).1 64 = 0 then 63 else kab (kund Z (kmk (hW (cN Z)) (kln (hE (cN Z) b.toNat) (hR (cN Z))) m w (u + (i : Int)) x.toNat).1 (hE (cN Z) b.toNat) w t - m) := rfl
      have q3 := kund_in (Z := Z) (E := (hE (cN Z) b.toNat)) (w := w) (t := t) qA
      refine e_istore dX10_offOf_61 rfl rfl ?_
      dsimp only [List.set]
      refine e_iload rfl dX10_offOf_63 ?_
      refine e_iload rfl dX10_offOf_65 ?_
      refine e_if_ne (tgt := 75) dX10_offOf_67 (by decide) (by first | assumption | (unfold inI at *; omega)) (fun c67 => ?_) (fun c67 => ?_)
      · refine e_aload_n rfl dX10_offOf_75 ?_
        refine e_iload_n rfl dX10_offOf_76 ?_
        refine e_iload rfl dX10_offOf_77 ?_
        refine e_iload rfl dX10_offOf_79 ?_
        refine eV3R mtX10_undone miX10_undone lkX10_296 dX10_offOf_81 kmh_97 rfl rfl rfl (j_undone md9 (kZA_ok ok qA) hby w0 t0 (by rw [kZA_M]; assumption)) (fun r81 h81 n81 hp81 => ?_)
        obtain ⟨hr8, hn8, q8, F8, hh8, hq8, hF8⟩ := hp81
        subst hr8
        subst hn8
        subst hh8
        rw [show kund (kZA Z b.toNat (kmk (hW (cN Z)) (kln (hE (cN Z) b.toNat) (hR (cN Z))) m w (u + (i : Int)) x.toNat).1) (hM (cN (kZA Z b.toNat (kmk (hW (cN Z)) (kln (hE (cN Z) b.toNat) (hR (cN Z))) m w (u + (i : Int)) x.toNat).1)) b.toNat) (hE (cN (kZA Z b.toNat (kmk (hW (cN Z)) (kln (hE (cN Z) b.toNat) (hR (cN Z))) m w (u + (i : Int)) x.toNat).1)) b.toNat) w t = kund Z (kmk (hW (cN Z)) (kln (hE (cN Z) b.toNat) (hR (cN Z))) m w (u + (i : Int)) x.toNat).1 (hE (cN Z) b.toNat) w t by rw [kZA_M]; rfl]
        dsimp only [Option.toList, List.cons_append, List.nil_append]
        refine e_iload_n rfl dX10_offOf_84 ?_
        refine eS2 mtX10_apart msX10_apart lkX10_165 dX10_offOf_85 rfl rfl (j_apart (by first | assumption | (unfold inI at *; omega)) (by first | assumption | (unfold inI at *; omega))) ?_
        dsimp only [Option.toList, List.cons_append, List.nil_append]
        refine e_iadd dX10_offOf_88 ?_
        refine e_istore dX10_offOf_89 rfl rfl ?_
        dsimp only [List.set]
        refine e_iinc dX10_offOf_91 rfl rfl ?_
        dsimp only [List.set]
        refine e_goto (tgt := 40) dX10_offOf_94 (by decide) ?_
        first
        | (rw [if_pos (by assumption)] at q4; exact ih (i + 1) _ _ _ _ _ _ (by omega) (by omega) (by omega) md9 qA (fun j hj => by rw [up2_s, kput9_o hj]; exact g6 j hj) (fun j hj => by rw [up2_n (by decide), kF1_n (by decide)]; exact g7 j hj) (by rw [g8, ksum_s, q4]))
        | (rw [if_neg (by assumption)] at q4; exact ih (i + 1) _ _ _ _ _ _ (by omega) (by omega) (by omega) (rMD_F (rMD_q md9 hq8.1 hq8.2.1 hq8.2.2.1 hq8.2.2.2) (fun j h1 h2 => hF8 j h1)) qA (fun j hj => by rw [hF8 98 (by decide), up2_s, kput9_o hj]; exact g6 j hj) (fun j hj => by rw [hF8 112 (by decide), up2_n (by decide), kF1_n (by decide)]; exact g7 j hj) (by rw [g8, ksum_s, q4]))
      · refine e_bipush (by decide) dX10_offOf_70 ?_
        refine e_goto (tgt := 88) dX10_offOf_72 (by decide) ?_
        refine e_iadd dX10_offOf_88 ?_
        refine e_istore dX10_offOf_89 rfl rfl ?_
        dsimp only [List.set]
        refine e_iinc dX10_offOf_91 rfl rfl ?_
        dsimp only [List.set]
        refine e_goto (tgt := 40) dX10_offOf_94 (by decide) ?_
        first
        | (rw [if_pos (by assumption)] at q4; exact ih (i + 1) _ _ _ _ _ _ (by omega) (by omega) (by omega) md9 qA (fun j hj => by rw [up2_s, kput9_o hj]; exact g6 j hj) (fun j hj => by rw [up2_n (by decide), kF1_n (by decide)]; exact g7 j hj) (by rw [g8, ksum_s, q4]))
        | (rw [if_neg (by assumption)] at q4; exact ih (i + 1) _ _ _ _ _ _ (by omega) (by omega) (by omega) (rMD_F (rMD_q md9 hq8.1 hq8.2.1 hq8.2.2.1 hq8.2.2.2) (fun j h1 h2 => hF8 j h1)) qA (fun j hj => by rw [hF8 98 (by decide), up2_s, kput9_o hj]; exact g6 j hj) (fun j hj => by rw [hF8 112 (by decide), up2_n (by decide), kF1_n (by decide)]; exact g7 j hj) (by rw [g8, ksum_s, q4]))
set_option maxHeartbeats 4000000 in
set_option maxRecDepth 100000 in
theorem j_off1 {G : kG} {d : Nat} {h : Nat → Option kC} {n : Nat} {q : Nat → Int} {F : Nat → Nat → Int} {Z : kCs} (md : rMD q F Z) (ok : kCok Z) {b : Int} (hby : 0 ≤ b ∧ b ≤ 5) {u m w x v t : Int} (u0 : 0 ≤ u ∧ u ≤ 9999) (m0 : 0 ≤ m ∧ m ≤ 63) (w0 : 1 ≤ w ∧ w ≤ 8) (x0 : 0 ≤ x ∧ x ≤ 200) (v0 : 0 ≤ v ∧ v ≤ 8) (t0 : 0 ≤ t ∧ t ≤ 3)  : ∀ (f : Nat) (i : Nat) (z : Int), z = (i : Int) → i ≤ 64 → 64 - (i : Int) ≤ f → kE G mX10_offOf (d + 5) 0 0 3 [some (.ref (gB G + 97)), some (.int (jI b)), some (.int (jI u)), some (.int (jI m)), some (.int (jI w)), some (.int (jI x)), some (.int (jI v)), some (.int (jI t)), some (.int (jI z)), none, none] [] (kmh G h q (up2 F 112 (khd (F 112) (F 98) b.toNat i))) n (kQm G h n (.int (jI ((kofs Z (hE (cN Z) b.toNat) u m w x t v.toNat)))) (Z)) := by
  intro f
  induction f with
  | zero =>
    intro i z g1 g2 g3
    refine e_iload rfl dX10_offOf_3 ?_
    refine e_bipush (by decide) dX10_offOf_5 ?_
    refine e_icmp_ge (tgt := 34) dX10_offOf_7 (by decide) (by first | assumption | (unfold inI at *; omega)) (by first | assumption | (unfold inI at *; omega)) (fun c7 => ?_) (fun c7 => ?_)
    · have e9 : i = 64 := by omega
      subst e9
      refine e_iconst dX10_offOf_34 ?_
      refine e_istore dX10_offOf_35 rfl rfl ?_
      dsimp only [List.set]
      refine e_iconst dX10_offOf_37 ?_
      refine e_istore dX10_offOf_38 rfl rfl ?_
      dsimp only [List.set]
      exact j_off2 md ok hby u0 m0 w0 x0 v0 t0 100 0 0 0 _ _ (hM (cN Z) b.toNat) none (by omega) (by omega) (by omega) (by rw [kZA_i]; exact rMD_F md (fun j h1 h2 => up2_n h2)) (ok.1.1 b.toNat (by omega)) (fun j _ => by rw [up2_n (by decide)]) (fun j hj => by rw [up2_s]; unfold khd; rw [if_pos hj]) rfl
    · exact absurd c7 (by omega)
  | succ f ih =>
    intro i z g1 g2 g3
    subst g1
    refine e_iload rfl dX10_offOf_3 ?_
    refine e_bipush (by decide) dX10_offOf_5 ?_
    refine e_icmp_ge (tgt := 34) dX10_offOf_7 (by decide) (by first | assumption | (unfold inI at *; omega)) (by first | assumption | (unfold inI at *; omega)) (fun c7 => ?_) (fun c7 => ?_)
    · have e9 : i = 64 := by omega
      subst e9
      refine e_iconst dX10_offOf_34 ?_
      refine e_istore dX10_offOf_35 rfl rfl ?_
      dsimp only [List.set]
      refine e_iconst dX10_offOf_37 ?_
      refine e_istore dX10_offOf_38 rfl rfl ?_
      dsimp only [List.set]
      exact j_off2 md ok hby u0 m0 w0 x0 v0 t0 100 0 0 0 _ _ (hM (cN Z) b.toNat) none (by omega) (by omega) (by omega) (by rw [kZA_i]; exact rMD_F md (fun j h1 h2 => up2_n h2)) (ok.1.1 b.toNat (by omega)) (fun j _ => by rw [up2_n (by decide)]) (fun j hj => by rw [up2_s]; unfold khd; rw [if_pos hj]) rfl
    · refine e_aload_n rfl dX10_offOf_10 ?_
      refine e_getf fdX10_52 dX10_offOf_11 kmh_97 rfl ?_
      refine e_iload rfl dX10_offOf_14 ?_
      refine e_aload_n rfl dX10_offOf_16 ?_
      refine e_getf fdX10_7 dX10_offOf_17 kmh_97 rfl ?_
      refine e_iload_n rfl dX10_offOf_20 ?_
      refine e_iload rfl dX10_offOf_21 ?_
      refine eS2 mtX10_at msX10_at lkX10_85 dX10_offOf_23 rfl rfl j_at ?_
      dsimp only [Option.toList, List.cons_append, List.nil_append]
      refine e_mld (by first | exact ka98 | exact ka99 | exact ka100 | exact ka101 | exact ka102 | exact ka103 | exact ka104 | exact ka105 | exact ka106 | exact ka107 | exact ka108 | exact ka109 | exact ka110 | exact ka111 | exact ka112 | exact ka113) dX10_offOf_26 (by omega) (by omega) ?_
      rw [up2_n (by decide), show (64 * b + (i : Int)).toNat = 64 * b.toNat + i by omega]
      refine e_mst (by first | exact ka98 | exact ka99 | exact ka100 | exact ka101 | exact ka102 | exact ka103 | exact ka104 | exact ka105 | exact ka106 | exact ka107 | exact ka108 | exact ka109 | exact ka110 | exact ka111 | exact ka112 | exact ka113) dX10_offOf_27 (by omega) (by omega) ?_
      rw [up2_s, up2_up2, Int.toNat_natCast, khd_s]
      refine e_iinc dX10_offOf_28 rfl rfl ?_
      dsimp only [List.set]
      refine e_goto (tgt := 3) dX10_offOf_31 (by decide) ?_
      exact ih (i + 1) _ (by omega) (by omega) (by omega)
set_option maxHeartbeats 4000000 in
set_option maxRecDepth 100000 in
theorem j_offOf {G : kG} {d : Nat} {h : Nat → Option kC} {n : Nat} {q : Nat → Int} {F : Nat → Nat → Int} {Z : kCs} (md : rMD q F Z) (ok : kCok Z) {b : Int} (hby : 0 ≤ b ∧ b ≤ 5) {u m w x v t : Int} (u0 : 0 ≤ u ∧ u ≤ 9999) (m0 : 0 ≤ m ∧ m ≤ 63) (w0 : 1 ≤ w ∧ w ≤ 8) (x0 : 0 ≤ x ∧ x ≤ 200) (v0 : 0 ≤ v ∧ v ≤ 8) (t0 : 0 ≤ t ∧ t ≤ 3)  : kCall G mX10_offOf (d + 5) 0 0 [.ref (gB G + 97), .int (jI b), .int (jI u), .int (jI m), .int (jI w), .int (jI x), .int (jI v), .int (jI t)] (kmh G h q F) n (kQm G h n (.int (jI ((kofs Z (hE (cN Z) b.toNat) u m w x t v.toNat)))) (Z)) := by
  show kE G mX10_offOf (d + 5) 0 0 0 [some (.ref (gB G + 97)), some (.int (jI b)), some (.int (jI u)), some (.int (jI m)), some (.int (jI w)), some (.int (jI x)), some (.int (jI v)), some (.int (jI t)), none, none, none] [] (kmh G h q F) n _
  refine e_iconst dX10_offOf_0 ?_
  refine e_istore dX10_offOf_1 rfl rfl ?_
  dsimp only [List.set]
  have q9 := j_off1 (G := G) (d := d) (h := h) (n := n) md ok hby u0 m0 w0 x0 v0 t0 100 0 0 (by omega) (by omega) (by omega)
  rw [show khd (F 112) (F 98) b.toNat 0 = F 112 from rfl, up2_id] at q9
  exact q9
set_option maxHeartbeats 4000000 in
set_option maxRecDepth 100000 in
theorem j_off {G : kG} {d : Nat} {h : Nat → Option kC} {n : Nat} {q : Nat → Int} {F : Nat → Nat → Int} {Z : kCs} (md : rMD q F Z) (ok : kCok Z)  {b : Int} (hb : inI b) {u : Int} (hu : inI u) {m : Int} (hm : inI m) {w : Int} (hw : inI w) {x : Int} (hx : inI x) {v : Int} (hv : inI v) {t : Int} (ht : inI t) : kCall G mX10_off (d + 6) 0 0 [.ref (gB G + 97), .int (jI b), .int (jI u), .int (jI m), .int (jI w), .int (jI x), .int (jI v), .int (jI t)] (kmh G h q F) n (kQm G h n (.int (jI (a_off Z b u m w x v t))) (Z)) := by
  show kE G mX10_off (d + 6) 0 0 0 [some (.ref (gB G + 97)), some (.int (jI b)), some (.int (jI u)), some (.int (jI m)), some (.int (jI w)), some (.int (jI x)), some (.int (jI v)), some (.int (jI t))] [] (kmh G h q F) n _
  refine e_iload_n rfl dX10_off_0 ?_
  refine eS1 mtX10_isBook msX10_isBook lkX10_76 dX10_off_1 rfl rfl (j_isBook (by first | assumption | (unfold inI at *; omega))) ?_
  dsimp only [Option.toList, List.cons_append, List.nil_append]
  refine e_ifneP (tgt := 9) dX10_off_4 (by decide) (fun c4 => ?_) (fun c4 => ?_)
  · refine e_iload_n rfl dX10_off_9 ?_
    refine e_iload_n rfl dX10_off_10 ?_
    refine e_iload rfl dX10_off_11 ?_
    refine e_iload rfl dX10_off_13 ?_
    refine eS4 mtX10_isWorld msX10_isWorld lkX10_290 dX10_off_15 rfl rfl (j_isWorld (by first | assumption | (unfold inI at *; omega)) (by first | assumption | (unfold inI at *; omega)) (by first | assumption | (unfold inI at *; omega)) (by first | assumption | (unfold inI at *; omega))) ?_
    dsimp only [Option.toList, List.cons_append, List.nil_append]
    refine e_ifeqP (tgt := 47) dX10_off_18 (by decide) (fun c18 => ?_) (fun c18 => ?_)
    · refine e_bipush (by decide) dX10_off_47 ?_
      refine e_ireturn dX10_off_49 rfl rfl ?_
      exact kQm_0 (by unfold a_off; first | (rw [if_pos (by omega)]; done) | (rw [if_neg (by omega), if_neg (by omega)]; done)) md
    · refine e_iload rfl dX10_off_21 ?_
      refine e_i2l (by first | assumption | (unfold inI at *; omega)) dX10_off_23 ?_
      refine e_lconst (z := 1) (by decide) dX10_off_24 ?_
      refine e_ldc2 (z := 8) kcX10_70 (by decide) dX10_off_25 ?_
      refine eS3 mtX10_in msX10_in lkX10_64 dX10_off_28 rfl rfl (j_in (by first | assumption | exact inL_of (by assumption) | (unfold inL; omega) | (unfold inI at *; unfold inL; omega)) (by first | assumption | exact inL_of (by assumption) | (unfold inL; omega) | (unfold inI at *; unfold inL; omega)) (by first | assumption | exact inL_of (by assumption) | (unfold inL; omega) | (unfold inI at *; unfold inL; omega))) ?_
      dsimp only [Option.toList, List.cons_append, List.nil_append]
      refine e_ifeqP (tgt := 47) dX10_off_31 (by decide) (fun c31 => ?_) (fun c31 => ?_)
      · refine e_bipush (by decide) dX10_off_47 ?_
        refine e_ireturn dX10_off_49 rfl rfl ?_
        exact kQm_0 (by unfold a_off; first | (rw [if_pos (by omega)]; done) | (rw [if_neg (by omega), if_neg (by omega)]; done)) md
      · refine e_iload rfl dX10_off_34 ?_
        refine e_i2l (by first | assumption | (unfold inI at *; omega)) dX10_off_36 ?_
        refine e_lconst (z := 0) (by decide) dX10_off_37 ?_
        refine e_ldc2 (z := 3) kcX10_299 (by decide) dX10_off_38 ?_
        refine eS3 mtX10_in msX10_in lkX10_64 dX10_off_41 rfl rfl (j_in (by first | assumption | exact inL_of (by assumption) | (unfold inL; omega) | (unfold inI at *; unfold inL; omega)) (by first | assumption | exact inL_of (by assumption) | (unfold inL; omega) | (unfold inI at *; unfold inL; omega)) (by first | assumption | exact inL_of (by assumption) | (unfold inL; omega) | (unfold inI at *; unfold inL; omega))) ?_
        dsimp only [Option.toList, List.cons_append, List.nil_append]
        refine e_ifneP (tgt := 50) dX10_off_44 (by decide) (fun c44 => ?_) (fun c44 => ?_)
        · refine e_aload_n rfl dX10_off_50 ?_
          refine e_iload_n rfl dX10_off_51 ?_
          refine e_iload_n rfl dX10_off_52 ?_
          refine e_iload_n rfl dX10_off_53 ?_
          refine e_iload rfl dX10_off_54 ?_
          refine e_iload rfl dX10_off_56 ?_
          refine e_iload rfl dX10_off_58 ?_
          refine e_iload rfl dX10_off_60 ?_
          refine eV7R mtX10_offOf miX10_offOf lkX10_301 dX10_off_62 kmh_97 rfl rfl rfl (j_offOf md ok (by omega) (by omega) (by omega) (by omega) (by omega) (by omega) (by omega)) (fun r62 h62 n62 hp62 => ?_)
          obtain ⟨hr8, hn8, q8, F8, hh8, md8⟩ := hp62
          subst hr8
          subst hn8
          subst hh8
          dsimp only [Option.toList, List.cons_append, List.nil_append]
          refine e_ireturn dX10_off_65 rfl rfl ?_
          exact ⟨by unfold a_off; rw [if_neg (by omega), if_pos (by omega)], rfl, _, _, rfl, md8⟩
        · refine e_bipush (by decide) dX10_off_47 ?_
          refine e_ireturn dX10_off_49 rfl rfl ?_
          exact kQm_0 (by unfold a_off; first | (rw [if_pos (by omega)]; done) | (rw [if_neg (by omega), if_neg (by omega)]; done)) md
  · refine e_iconst dX10_off_7 ?_
    refine e_ireturn dX10_off_8 rfl rfl ?_
    exact kQm_0 (by unfold a_off; first | (rw [if_pos (by omega)]; done) | (rw [if_neg (by omega), if_neg (by omega)]; done)) md
set_option maxHeartbeats 4000000 in
set_option maxRecDepth 100000 in
theorem j_best_lp {G : kG} {d : Nat} {h : Nat → Option kC} {n : Nat} {Z : kCs} (ok : kCok Z) {b u m w x v : Int} (hby : 0 ≤ b ∧ b ≤ 5) (u0 : 0 ≤ u ∧ u ≤ 9999) (m0 : 0 ≤ m ∧ m ≤ 63) (w0 : 1 ≤ w ∧ w ≤ 8) (x0 : 0 ≤ x ∧ x ≤ 200) (v0 : 0 ≤ v ∧ v ≤ 8)  : ∀ (f : Nat) (i : Nat) (z9 : Int) (q9 : Nat → Int) (F9 : Nat → Nat → Int) (e10 : Option Value), z9 = (i : Int) → 1 ≤ i ∧ i ≤ 4 → 4 - (i : Int) ≤ f → rMD q9 F9 Z → kE G mX10_best (d + 6) 0 0 59 [some (.ref (gB G + 97)), some (.int (jI b)), some (.int (jI u)), some (.int (jI m)), some (.int (jI w)), some (.int (jI x)), some (.int (jI v)), some (.int (jI (kbr (kof0 Z (hE (cN Z) b.toNat) u m w x v) (i - 1)))), some (.int (jI ((kof0 Z (hE (cN Z) b.toNat) u m w x v) (kbr (kof0 Z (hE (cN Z) b.toNat) u m w x v) (i - 1)).toNat))), some (.int (jI z9)), e10] [] (kmh G h q9 F9) n (kQm G h n (.int (jI (kbr (kof0 Z (hE (cN Z) b.toNat) u m w x v) 3))) (Z)) := by
  intro f
  induction f with
  | zero =>
    intro i z9 q9 F9 e10 g1 g2 g3 g4
    refine e_iload rfl dX10_best_59 ?_
    refine e_iconst dX10_best_61 ?_
    refine e_icmp_ge (tgt := 103) dX10_best_62 (by decide) (by first | assumption | (unfold inI at *; omega)) (by first | assumption | (unfold inI at *; omega)) (fun c62 => ?_) (fun c62 => ?_)
    · refine e_iload rfl dX10_best_103 ?_
      refine e_ireturn dX10_best_105 rfl rfl ?_
      exact ⟨by rw [show (3 : Nat) = i - 1 by omega], rfl, _, _, rfl, g4⟩
    · exact absurd c62 (by omega)
  | succ f ih =>
    intro i z9 q9 F9 e10 g1 g2 g3 g4
    subst g1
    have q7 := kbr_in (kof0 Z (hE (cN Z) b.toNat) u m w x v) (i - 1)
    have q6 := fun t => kofs_in ok.1 (E := (hE (cN Z) b.toNat)) (m := m) (w := w) (u := u) (x := x) (t := t) (by omega) (by omega) (by omega) (by omega) (by omega) (by omega) (show v.toNat ≤ 8 by omega)
    have q5 := q6 (i : Int)
    have q4 : 0 ≤ (kof0 Z (hE (cN Z) b.toNat) u m w x v) (kbr (kof0 Z (hE (cN Z) b.toNat) u m w x v) (i - 1)).toNat ∧ (kof0 Z (hE (cN Z) b.toNat) u m w x v) (kbr (kof0 Z (hE (cN Z) b.toNat) u m w x v) (i - 1)).toNat ≤ 40000000 := q6 _
    have q3 : kbr (kof0 Z (hE (cN Z) b.toNat) u m w x v) i = if (kof0 Z (hE (cN Z) b.toNat) u m w x v) i < (kof0 Z (hE (cN Z) b.toNat) u m w x v) (kbr (kof0 Z (hE (cN Z) b.toNat) u m w x v) (i - 1)).toNat then (i : Int) else kbr (kof0 Z (hE (cN Z) b.toNat) u m w x v) (i - 1) := by
      obtain ⟨k, rfl⟩ : ∃ k, i = k + 1 := ⟨i - 1, by omega⟩
      rfl
    have q2 : (kof0 Z (hE (cN Z) b.toNat) u m w x v) i = kofs Z (hE (cN Z) b.toNat) u m w x (i : Int) v.toNat := rfl
    rw [← q2] at q5
    refine e_iload rfl dX10_best_59 ?_
    refine e_iconst dX10_best_61 ?_
    refine e_icmp_ge (tgt := 103) dX10_best_62 (by decide) (by first | assumption | (unfold inI at *; omega)) (by first | assumption | (unfold inI at *; omega)) (fun c62 => ?_) (fun c62 => ?_)
    · refine e_iload rfl dX10_best_103 ?_
      refine e_ireturn dX10_best_105 rfl rfl ?_
      exact ⟨by rw [show (3 : Nat) = i - 1 by omega], rfl, _, _, rfl, g4⟩
    · refine e_aload_n rfl dX10_best_65 ?_
      refine e_iload_n rfl dX10_best_66 ?_
      refine e_iload_n rfl dX10_best_67 ?_
      refine e_iload_n rfl dX10_best_68 ?_
      refine e_iload rfl dX10_best_69 ?_
      refine e_iload rfl dX10_best_71 ?_
      refine e_iload rfl dX10_best_73 ?_
      refine e_iload rfl dX10_best_75 ?_
      refine eV7R mtX10_offOf miX10_offOf lkX10_301 dX10_best_77 kmh_97 rfl rfl rfl (j_offOf g4 ok (by omega) (by omega) (by omega) (by omega) (by omega) (by omega) (by omega)) (fun r77 h77 n77 hp77 => ?_)
      obtain ⟨hr8, hn8, q8, F8, hh8, md8⟩ := hp77
      subst hr8
      subst hn8
      subst hh8
      rw [← q2]
      dsimp only [Option.toList, List.cons_append, List.nil_append]
      refine e_istore dX10_best_80 rfl rfl ?_
      dsimp only [List.set]
      refine e_iload rfl dX10_best_82 ?_
      refine e_iload rfl dX10_best_84 ?_
      refine e_icmp_ge (tgt := 97) dX10_best_86 (by decide) (by unfold inI; omega) (by unfold inI; omega) (fun c86 => ?_) (fun c86 => ?_)
      · refine e_iinc dX10_best_97 rfl rfl ?_
        dsimp only [List.set]
        refine e_goto (tgt := 59) dX10_best_100 (by decide) ?_
        have q1 := ih (i + 1) ((i : Int) + 1) q8 F8 (some (.int (jI ((kof0 Z (hE (cN Z) b.toNat) u m w x v) i)))) (by omega) (by omega) (by omega) md8
        rw [show i + 1 - 1 = i by omega, q3] at q1
        first
        | (rw [if_pos (by omega), Int.toNat_natCast] at q1; exact q1)
        | (rw [if_neg (by omega)] at q1; exact q1)
      · refine e_iload rfl dX10_best_89 ?_
        refine e_istore dX10_best_91 rfl rfl ?_
        dsimp only [List.set]
        refine e_iload rfl dX10_best_93 ?_
        refine e_istore dX10_best_95 rfl rfl ?_
        dsimp only [List.set]
        refine e_iinc dX10_best_97 rfl rfl ?_
        dsimp only [List.set]
        refine e_goto (tgt := 59) dX10_best_100 (by decide) ?_
        have q1 := ih (i + 1) ((i : Int) + 1) q8 F8 (some (.int (jI ((kof0 Z (hE (cN Z) b.toNat) u m w x v) i)))) (by omega) (by omega) (by omega) md8
        rw [show i + 1 - 1 = i by omega, q3] at q1
        first
        | (rw [if_pos (by omega), Int.toNat_natCast] at q1; exact q1)
        | (rw [if_neg (by omega)] at q1; exact q1)
set_option maxHeartbeats 4000000 in
set_option maxRecDepth 100000 in
theorem j_best {G : kG} {d : Nat} {h : Nat → Option kC} {n : Nat} {q : Nat → Int} {F : Nat → Nat → Int} {Z : kCs} (md : rMD q F Z) (ok : kCok Z)  {b : Int} (hb : inI b) {u : Int} (hu : inI u) {m : Int} (hm : inI m) {w : Int} (hw : inI w) {x : Int} (hx : inI x) {v : Int} (hv : inI v) : kCall G mX10_best (d + 6) 0 0 [.ref (gB G + 97), .int (jI b), .int (jI u), .int (jI m), .int (jI w), .int (jI x), .int (jI v)] (kmh G h q F) n (kQm G h n (.int (jI (a_best Z b u m w x v))) (Z)) := by
  show kE G mX10_best (d + 6) 0 0 0 [some (.ref (gB G + 97)), some (.int (jI b)), some (.int (jI u)), some (.int (jI m)), some (.int (jI w)), some (.int (jI x)), some (.int (jI v)), none, none, none, none] [] (kmh G h q F) n _
  refine e_iload_n rfl dX10_best_0 ?_
  refine eS1 mtX10_isBook msX10_isBook lkX10_76 dX10_best_1 rfl rfl (j_isBook (by first | assumption | (unfold inI at *; omega))) ?_
  dsimp only [Option.toList, List.cons_append, List.nil_append]
  refine e_ifneP (tgt := 9) dX10_best_4 (by decide) (fun c4 => ?_) (fun c4 => ?_)
  · refine e_iload_n rfl dX10_best_9 ?_
    refine e_iload_n rfl dX10_best_10 ?_
    refine e_iload rfl dX10_best_11 ?_
    refine e_iload rfl dX10_best_13 ?_
    refine eS4 mtX10_isWorld msX10_isWorld lkX10_290 dX10_best_15 rfl rfl (j_isWorld (by first | assumption | (unfold inI at *; omega)) (by first | assumption | (unfold inI at *; omega)) (by first | assumption | (unfold inI at *; omega)) (by first | assumption | (unfold inI at *; omega))) ?_
    dsimp only [Option.toList, List.cons_append, List.nil_append]
    refine e_ifeqP (tgt := 34) dX10_best_18 (by decide) (fun c18 => ?_) (fun c18 => ?_)
    · refine e_bipush (by decide) dX10_best_34 ?_
      refine e_ireturn dX10_best_36 rfl rfl ?_
      exact kQm_0 (by unfold a_best; first | (rw [if_pos (by omega)]; done) | (rw [if_neg (by omega), if_neg (by omega)]; done)) md
    · refine e_iload rfl dX10_best_21 ?_
      refine e_i2l (by first | assumption | (unfold inI at *; omega)) dX10_best_23 ?_
      refine e_lconst (z := 1) (by decide) dX10_best_24 ?_
      refine e_ldc2 (z := 8) kcX10_70 (by decide) dX10_best_25 ?_
      refine eS3 mtX10_in msX10_in lkX10_64 dX10_best_28 rfl rfl (j_in (by first | assumption | exact inL_of (by assumption) | (unfold inL; omega) | (unfold inI at *; unfold inL; omega)) (by first | assumption | exact inL_of (by assumption) | (unfold inL; omega) | (unfold inI at *; unfold inL; omega)) (by first | assumption | exact inL_of (by assumption) | (unfold inL; omega) | (unfold inI at *; unfold inL; omega))) ?_
      dsimp only [Option.toList, List.cons_append, List.nil_append]
      refine e_ifneP (tgt := 37) dX10_best_31 (by decide) (fun c31 => ?_) (fun c31 => ?_)
      · refine e_iconst dX10_best_37 ?_
        refine e_istore dX10_best_38 rfl rfl ?_
        dsimp only [List.set]
        refine e_aload_n rfl dX10_best_40 ?_
        refine e_iload_n rfl dX10_best_41 ?_
        refine e_iload_n rfl dX10_best_42 ?_
        refine e_iload_n rfl dX10_best_43 ?_
        refine e_iload rfl dX10_best_44 ?_
        refine e_iload rfl dX10_best_46 ?_
        refine e_iload rfl dX10_best_48 ?_
        refine e_iconst dX10_best_50 ?_
        refine eV7R mtX10_offOf miX10_offOf lkX10_301 dX10_best_51 kmh_97 rfl rfl rfl (j_offOf md ok (by omega) (by omega) (by omega) (by omega) (by omega) (by omega) (by omega)) (fun r51 h51 n51 hp51 => ?_)
        obtain ⟨hr8, hn8, q8, F8, hh8, md8⟩ := hp51
        subst hr8
        subst hn8
        subst hh8
        dsimp only [Option.toList, List.cons_append, List.nil_append]
        refine e_istore dX10_best_54 rfl rfl ?_
        dsimp only [List.set]
        refine e_iconst dX10_best_56 ?_
        refine e_istore dX10_best_57 rfl rfl ?_
        dsimp only [List.set]
        refine kE.mono (j_best_lp (b := b) ok (by omega) (by omega) (by omega) (by omega) (by omega) (by omega) 10 1 1 q8 F8 none (by omega) (by omega) (by omega) md8) (fun r h' n' hq => ?_)
        obtain ⟨y1, y2, y3⟩ := hq
        exact ⟨by rw [y1]; unfold a_best; rw [if_neg (by omega), if_pos (by omega)], y2, y3⟩
      · refine e_bipush (by decide) dX10_best_34 ?_
        refine e_ireturn dX10_best_36 rfl rfl ?_
        exact kQm_0 (by unfold a_best; first | (rw [if_pos (by omega)]; done) | (rw [if_neg (by omega), if_neg (by omega)]; done)) md
  · refine e_iconst dX10_best_7 ?_
    refine e_ireturn dX10_best_8 rfl rfl ?_
    exact kQm_0 (by unfold a_best; first | (rw [if_pos (by omega)]; done) | (rw [if_neg (by omega), if_neg (by omega)]; done)) md
