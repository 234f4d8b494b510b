/-! THE CLASS: WHAT WRITES -/
def a_set (Z : kCs) (b x v : Int) : Int := if ¬ (0 ≤ b ∧ b ≤ 5) then -1 else if (0 ≤ x ∧ x ≤ 2) ∧ kLE x.toNat ≤ v ∧ v ≤ kME x.toNat then hE (cN Z) b.toNat x.toNat else -2
def s_set (Z : kCs) (b x v : Int) : kCs := if (0 ≤ b ∧ b ≤ 5) ∧ (0 ≤ x ∧ x ≤ 2) ∧ kLE x.toNat ≤ v ∧ v ≤ kME x.toNat then (kSE (cN Z) b.toNat (up (hE (cN Z) b.toNat) x.toNat v), Z.2) else Z
theorem s_setN {Z : kCs} {b x v : Int} (h : ¬ ((0 ≤ b ∧ b ≤ 5) ∧ (0 ≤ x ∧ x ≤ 2) ∧ kLE x.toNat ≤ v ∧ v ≤ kME x.toNat)) : s_set Z b x v = Z := if_neg h
def a_way (Z : kCs) (x v : Int) : Int := if (0 ≤ x ∧ x ≤ 4) ∧ 0 ≤ v ∧ v ≤ kMW x.toNat then hW (cN Z) x.toNat else -2
def s_way (Z : kCs) (x v : Int) : kCs := if (0 ≤ x ∧ x ≤ 4) ∧ 0 ≤ v ∧ v ≤ kMW x.toNat then (kSW (cN Z) (up (hW (cN Z)) x.toNat v), Z.2) else Z
theorem s_wayN {Z : kCs} {x v : Int} (h : ¬ ((0 ≤ x ∧ x ≤ 4) ∧ 0 ≤ v ∧ v ≤ kMW x.toNat)) : s_way Z x v = Z := if_neg h
def a_say (Z : kCs) (x : Int) : Int := if 33 ≤ x ∧ x ≤ 126 then (if (cP Z).1 < 60 then (cP Z).1 + 1 else -4) else -2
def s_say (Z : kCs) (x : Int) : kCs := if (33 ≤ x ∧ x ≤ 126) ∧ (cP Z).1 < 60 then (cN Z, ((cP Z).1 + 1, up (cP Z).2 (cP Z).1.toNat x), Z.2.2) else Z
theorem s_sayN {Z : kCs} {x : Int} (h : ¬ ((33 ≤ x ∧ x ≤ 126) ∧ (cP Z).1 < 60)) : s_say Z x = Z := if_neg h
def a_wipe (Z : kCs) : Int := (cP Z).1
def s_wipe (Z : kCs) : kCs := (cN Z, (0, (cP Z).2), Z.2.2)
theorem kMW_in (j : Nat) : 0 ≤ kMW j ∧ kMW j ≤ 10 := by unfold kMW; (repeat' split) <;> omega
theorem kLE_in (j : Nat) : 0 ≤ kLE j ∧ kLE j ≤ 14 := by unfold kLE; (repeat' split) <;> omega
theorem kME_in (j : Nat) : 0 ≤ kME j ∧ kME j ≤ 99 := by unfold kME; (repeat' split) <;> omega
def kSR (S : kHd) (q : Int × (Nat → Int)) : kHd := (hM S, hE S, hW S, q, hG S)
def kSG (S : kHd) (q : Int × (Nat → Int)) : kHd := (hM S, hE S, hW S, hR S, q)
/-- the ways or a text of it told anew -/
theorem rHd_w {G : kG} {h h' : Nat → Option kC} {a : Nat} {S : kHd} {W : Nat → Int} (r : rHd G h a S) (hh : ∀ j, j ≠ a + 6 → h' j = h j) (hw : h' (a + 6) = some (kia 5 W)) : rHd G h' a (kSW S W) := by
  obtain ⟨⟨r1, ⟨f9, r2, r2f⟩, r3, r4, r5⟩, r6⟩ := r
  exact ⟨⟨(hh _ (by omega)).trans r1, ⟨f9, (hh _ (by omega)).trans r2, r2f⟩, rTx_cg r3 (hh _ (by omega)) (hh _ (by omega)), rTx_cg r4 (hh _ (by omega)) (hh _ (by omega)), hw⟩, fun i hi => rBk_cg (r6 i hi) (hh _ (by omega)) (hh _ (by omega)) (hh _ (by omega))⟩
theorem rHd_r {G : kG} {h h' : Nat → Option kC} {a : Nat} {S : kHd} {q : Int × (Nat → Int)} (r : rHd G h a S) (hh : ∀ j, j ≠ a + 2 → j ≠ a + 3 → h' j = h j) (hw : rTx G h' (a + 2) (a + 3) q.1 q.2) : rHd G h' a (kSR S q) := by
  obtain ⟨⟨r1, ⟨f9, r2, r2f⟩, r3, r4, r5⟩, r6⟩ := r
  exact ⟨⟨(hh _ (by omega) (by omega)).trans r1, ⟨f9, (hh _ (by omega) (by omega)).trans r2, r2f⟩, hw, rTx_cg r4 (hh _ (by omega) (by omega)) (hh _ (by omega) (by omega)), (hh _ (by omega) (by omega)).trans r5⟩, fun i hi => rBk_cg (r6 i hi) (hh _ (by omega) (by omega)) (hh _ (by omega) (by omega)) (hh _ (by omega) (by omega))⟩
theorem rHd_g {G : kG} {h h' : Nat → Option kC} {a : Nat} {S : kHd} {q : Int × (Nat → Int)} (r : rHd G h a S) (hh : ∀ j, j ≠ a + 4 → j ≠ a + 5 → h' j = h j) (hw : rTx G h' (a + 4) (a + 5) q.1 q.2) : rHd G h' a (kSG S q) := by
  obtain ⟨⟨r1, ⟨f9, r2, r2f⟩, r3, r4, r5⟩, r6⟩ := r
  exact ⟨⟨(hh _ (by omega) (by omega)).trans r1, ⟨f9, (hh _ (by omega) (by omega)).trans r2, r2f⟩, rTx_cg r3 (hh _ (by omega) (by omega)) (hh _ (by omega) (by omega)), hw, (hh _ (by omega) (by omega)).trans r5⟩, fun i hi => rBk_cg (r6 i hi) (hh _ (by omega) (by omega)) (hh _ (by omega) (by omega)) (hh _ (by omega) (by omega))⟩
set_option maxHeartbeats 4000000 in
set_option maxRecDepth 100000 in
theorem k_setN {G : kG} {d : Nat} {h : Nat → Option kC} {n : Nat} {Z : kCs} (g : rSt G) (z : rKI G h Z) (ok : kCok Z) {b : Int} (hb : inI b) (hbn : ¬ (0 ≤ b ∧ b ≤ 5)) {x : Int} (hx : inI x) {v : Int} (hv : inI v) : kCall G mX9_set (d + 4) 0 0 [.ref (gB G + 0), .int (jI b), .int (jI x), .int (jI v)] h n (kQc G h n (.int (jI (a_set Z b x v))) (s_set Z b x v)) := by
  show kE G mX9_set (d + 4) 0 0 0 [some (.ref (gB G + 0)), some (.int (jI b)), some (.int (jI x)), some (.int (jI v)), none, none] [] h n _
  obtain ⟨⟨z0, ⟨f0, z28, z28f⟩, zu⟩, zp, zn, zi, zk, ⟨q, zq⟩, ⟨P, zP⟩, ⟨s, zs⟩, A9, E9, t9, zt⟩ := id z
  have zp1 := zp.1
  have zn1 := zn.1.1
  have zu1 := zu.1
  obtain ⟨okn, ⟨p0, p1, p2⟩, oki, okk⟩ := id ok
  refine e_aload_n rfl dX9_set_0 ?_
  refine e_getf fdX9_19 dX9_set_1 (by first | assumption | exact kup_s | exact kup_n (by omega) (by first | assumption | exact kup_s | exact kup_n (by omega) (by first | assumption | exact kup_s | exact kup_n (by omega) (by assumption)))) rfl ?_
  refine e_iload_n rfl dX9_set_4 ?_
  refine eV1 mtX2_bookAt miX2_bookAt lkX9_61 dX9_set_5 (by first | assumption | exact kup_s | exact kup_n (by omega) (by first | assumption | exact kup_s | exact kup_n (by omega) (by first | assumption | exact kup_s | exact kup_n (by omega) (by assumption)))) rfl rfl rfl (k_bookAtN zn.1 (by assumption) (by assumption)) ?_
  dsimp only [Option.toList, List.cons_append, List.nil_append]
  refine e_astoreN dX9_set_8 rfl rfl ?_
  dsimp only [List.set]
  refine e_aloadN rfl dX9_set_10 ?_
  refine e_ifnonnullN dX9_set_12 ?_
  refine e_iconst dX9_set_15 ?_
  refine e_ireturn dX9_set_16 rfl rfl ?_
  rw [s_setN (by omega)]
  exact kQc_0 (by unfold a_set; (repeat' split) <;> first | rfl | (exfalso; omega)) z
set_option maxHeartbeats 4000000 in
set_option maxRecDepth 100000 in
theorem k_setY {G : kG} {d : Nat} {h : Nat → Option kC} {n : Nat} {Z : kCs} (g : rSt G) (z : rKI G h Z) (ok : kCok Z) {b : Int} (hb : inI b) (hby : 0 ≤ b ∧ b ≤ 5) {x : Int} (hx : inI x) {v : Int} (hv : inI v) : kCall G mX9_set (d + 4) 0 0 [.ref (gB G + 0), .int (jI b), .int (jI x), .int (jI v)] h n (kQc G h n (.int (jI (a_set Z b x v))) (s_set Z b x v)) := by
  show kE G mX9_set (d + 4) 0 0 0 [some (.ref (gB G + 0)), some (.int (jI b)), some (.int (jI x)), some (.int (jI v)), none, none] [] h n _
  obtain ⟨⟨z0, ⟨f0, z28, z28f⟩, zu⟩, zp, zn, zi, zk, ⟨q, zq⟩, ⟨P, zP⟩, ⟨s, zs⟩, A9, E9, t9, zt⟩ := id z
  have zp1 := zp.1
  have zn1 := zn.1.1
  have zu1 := zu.1
  obtain ⟨okn, ⟨p0, p1, p2⟩, oki, okk⟩ := id ok
  have zb := rHd_b zn (i := b.toNat) (by omega)
  have zb1 := zb.1
  have za := okn.1 b.toNat (by omega)
  have ze := okn.2.1 b.toNat (by omega)
  have zA := kA_sum za
  obtain ⟨⟨y00, y01⟩, ⟨y10, y11⟩, ⟨y20, y21⟩⟩ := id ze
  have l9 := kLE_in x.toNat
  have m9 := kME_in x.toNat
  refine e_aload_n rfl dX9_set_0 ?_
  refine e_getf fdX9_19 dX9_set_1 (by first | assumption | exact kup_s | exact kup_n (by omega) (by first | assumption | exact kup_s | exact kup_n (by omega) (by first | assumption | exact kup_s | exact kup_n (by omega) (by assumption)))) rfl ?_
  refine e_iload_n rfl dX9_set_4 ?_
  refine eV1 mtX2_bookAt miX2_bookAt lkX9_61 dX9_set_5 (by first | assumption | exact kup_s | exact kup_n (by omega) (by first | assumption | exact kup_s | exact kup_n (by omega) (by first | assumption | exact kup_s | exact kup_n (by omega) (by assumption)))) rfl rfl rfl (k_bookAt zn.1 (by omega) (by omega)) ?_
  dsimp only [Option.toList, List.cons_append, List.nil_append]
  refine e_astore dX9_set_8 rfl rfl ?_
  dsimp only [List.set]
  refine e_aload rfl dX9_set_10 ?_
  refine e_ifnonnull (tgt := 17) dX9_set_12 (by decide) ?_
  refine e_iload_n rfl dX9_set_17 ?_
  refine e_iconst dX9_set_18 ?_
  refine e_iconst dX9_set_19 ?_
  refine eS3 mtX9_within msX9_within lkX9_69 dX9_set_20 rfl rfl (k_within (by first | assumption | (unfold inI at *; omega)) (by first | assumption | (unfold inI at *; omega)) (by first | assumption | (unfold inI at *; omega))) ?_
  dsimp only [Option.toList, List.cons_append, List.nil_append]
  refine e_ifeqP (tgt := 43) dX9_set_23 (by decide) (fun c23 => ?_) (fun c23 => ?_)
  · refine e_bipush (by decide) dX9_set_43 ?_
    refine e_ireturn dX9_set_45 rfl rfl ?_
    rw [s_setN (by omega)]
    exact kQc_0 (by unfold a_set; (repeat' split) <;> first | rfl | (exfalso; omega)) z
  · refine e_iload_n rfl dX9_set_26 ?_
    refine e_gets (k := 2) slX9_81 rfl dX9_set_27 ?_
    refine e_iload_n rfl dX9_set_30 ?_
    refine e_tald (k := 2) dX9_set_31 g.2.2.1 (by omega) (by omega) rfl ?_
    refine e_gets (k := 3) slX9_85 rfl dX9_set_32 ?_
    refine e_iload_n rfl dX9_set_35 ?_
    refine e_tald (k := 3) dX9_set_36 g.2.2.2 (by omega) (by omega) rfl ?_
    refine eS3 mtX9_within msX9_within lkX9_69 dX9_set_37 rfl rfl (k_within (by first | assumption | (unfold inI at *; omega)) (by first | assumption | (unfold inI at *; omega)) (by first | assumption | (unfold inI at *; omega))) ?_
    dsimp only [Option.toList, List.cons_append, List.nil_append]
    refine e_ifneP (tgt := 46) dX9_set_40 (by decide) (fun c40 => ?_) (fun c40 => ?_)
    · refine e_aload rfl dX9_set_46 ?_
      refine e_iload_n rfl dX9_set_48 ?_
      refine eV1 mtX0_entry miX0_entry lkX9_88 dX9_set_49 (by first | assumption | exact kup_s | exact kup_n (by omega) (by first | assumption | exact kup_s | exact kup_n (by omega) (by first | assumption | exact kup_s | exact kup_n (by omega) (by assumption)))) rfl rfl rfl (k_entry zb (by omega) (by omega)) ?_
      dsimp only [Option.toList, List.cons_append, List.nil_append]
      refine e_istore dX9_set_52 rfl rfl ?_
      dsimp only [List.set]
      refine e_aload rfl dX9_set_54 ?_
      refine e_iload_n rfl dX9_set_56 ?_
      refine e_iload_n rfl dX9_set_57 ?_
      refine eV2 mtX0_enter miX0_enter lkX9_91 dX9_set_58 (by first | assumption | exact kup_s | exact kup_n (by omega) (by first | assumption | exact kup_s | exact kup_n (by omega) (by first | assumption | exact kup_s | exact kup_n (by omega) (by assumption)))) rfl rfl rfl (k_enter zb (by omega) (by omega)) ?_
      dsimp only [Option.toList, List.cons_append, List.nil_append]
      refine e_iload rfl dX9_set_61 ?_
      refine e_ireturn dX9_set_63 rfl rfl ?_
      refine ⟨by unfold a_set; (repeat' split) <;> first | rfl | (exfalso; omega), ?_, fun j h1 _ => by rw [kup_o (by omega)], Nat.le_refl n⟩
      have e9 : s_set Z b x v = (kSE (cN Z) b.toNat (up (hE (cN Z) b.toNat) x.toNat v), Z.2) := if_pos ⟨hby, by omega, by omega⟩
      rw [e9]
      refine rKI_now z (fun j hj => by rw [kup_o (by omega)]) ?_
      have q9 := rHd_bk (h' := kup h (3 + 7 + 3 * b.toNat + 2) (kia 3 (up (hE (cN Z) b.toNat) x.toNat v))) (A := hM (cN Z) b.toNat) (E := up (hE (cN Z) b.toNat) x.toNat v) zn (i := b.toNat) (by omega) (fun j hj => by rw [kup_o (by omega)]) ⟨kup_n (by omega) zb.1, kup_n (by omega) zb.2.1, kup_s⟩
      rw [up2_id] at q9
      exact q9
    · refine e_bipush (by decide) dX9_set_43 ?_
      refine e_ireturn dX9_set_45 rfl rfl ?_
      rw [s_setN (by omega)]
      exact kQc_0 (by unfold a_set; (repeat' split) <;> first | rfl | (exfalso; omega)) z
theorem k_set {G : kG} {d : Nat} {h : Nat → Option kC} {n : Nat} {Z : kCs} (g : rSt G) (z : rKI G h Z) (ok : kCok Z) {b : Int} (hb : inI b)  {x : Int} (hx : inI x) {v : Int} (hv : inI v) : kCall G mX9_set (d + 4) 0 0 [.ref (gB G + 0), .int (jI b), .int (jI x), .int (jI v)] h n (kQc G h n (.int (jI (a_set Z b x v))) (s_set Z b x v)) := by
  by_cases c9 : 0 ≤ b ∧ b ≤ 5
  · exact k_setY g z ok hb c9 hx hv
  · exact k_setN g z ok hb c9 hx hv
set_option maxHeartbeats 4000000 in
set_option maxRecDepth 100000 in
theorem k_way {G : kG} {d : Nat} {h : Nat → Option kC} {n : Nat} {Z : kCs} (g : rSt G) (z : rKI G h Z) (ok : kCok Z)  {x : Int} (hx : inI x) {v : Int} (hv : inI v) : kCall G mX9_way (d + 4) 0 0 [.ref (gB G + 0), .int (jI x), .int (jI v)] h n (kQc G h n (.int (jI (a_way Z x v))) (s_way Z x v)) := by
  show kE G mX9_way (d + 4) 0 0 0 [some (.ref (gB G + 0)), some (.int (jI x)), some (.int (jI v)), none] [] h n _
  obtain ⟨⟨z0, ⟨f0, z28, z28f⟩, zu⟩, zp, zn, zi, zk, ⟨q, zq⟩, ⟨P, zP⟩, ⟨s, zs⟩, A9, E9, t9, zt⟩ := id z
  have zp1 := zp.1
  have zn1 := zn.1.1
  have zu1 := zu.1
  obtain ⟨okn, ⟨p0, p1, p2⟩, oki, okk⟩ := id ok
  have l9 := kMW_in x.toNat
  refine e_iload_n rfl dX9_way_0 ?_
  refine e_iconst dX9_way_1 ?_
  refine e_iconst dX9_way_2 ?_
  refine eS3 mtX9_within msX9_within lkX9_69 dX9_way_3 rfl rfl (k_within (by first | assumption | (unfold inI at *; omega)) (by first | assumption | (unfold inI at *; omega)) (by first | assumption | (unfold inI at *; omega))) ?_
  dsimp only [Option.toList, List.cons_append, List.nil_append]
  refine e_ifeqP (tgt := 22) dX9_way_6 (by decide) (fun c6 => ?_) (fun c6 => ?_)
  · refine e_bipush (by decide) dX9_way_22 ?_
    refine e_ireturn dX9_way_24 rfl rfl ?_
    rw [s_wayN (by omega)]
    exact kQc_0 (by unfold a_way; (repeat' split) <;> first | rfl | (exfalso; omega)) z
  · refine e_iload_n rfl dX9_way_9 ?_
    refine e_iconst dX9_way_10 ?_
    refine e_gets (k := 0) slX9_94 rfl dX9_way_11 ?_
    refine e_iload_n rfl dX9_way_14 ?_
    refine e_tald (k := 0) dX9_way_15 g.1 (by omega) (by omega) rfl ?_
    refine eS3 mtX9_within msX9_within lkX9_69 dX9_way_16 rfl rfl (k_within (by first | assumption | (unfold inI at *; omega)) (by first | assumption | (unfold inI at *; omega)) (by first | assumption | (unfold inI at *; omega))) ?_
    dsimp only [Option.toList, List.cons_append, List.nil_append]
    refine e_ifneP (tgt := 25) dX9_way_19 (by decide) (fun c19 => ?_) (fun c19 => ?_)
    · refine e_aload_n rfl dX9_way_25 ?_
      refine e_getf fdX9_19 dX9_way_26 (by first | assumption | exact kup_s | exact kup_n (by omega) (by first | assumption | exact kup_s | exact kup_n (by omega) (by first | assumption | exact kup_s | exact kup_n (by omega) (by assumption)))) rfl ?_
      refine e_iload_n rfl dX9_way_29 ?_
      refine eV1 mtX2_wayOf miX2_wayOf lkX9_97 dX9_way_30 (by first | assumption | exact kup_s | exact kup_n (by omega) (by first | assumption | exact kup_s | exact kup_n (by omega) (by first | assumption | exact kup_s | exact kup_n (by omega) (by assumption)))) rfl rfl rfl (k_wayOf zn.1 (by omega) (by omega)) ?_
      dsimp only [Option.toList, List.cons_append, List.nil_append]
      refine e_istore_n dX9_way_33 rfl rfl ?_
      dsimp only [List.set]
      refine e_aload_n rfl dX9_way_34 ?_
      refine e_getf fdX9_19 dX9_way_35 (by first | assumption | exact kup_s | exact kup_n (by omega) (by first | assumption | exact kup_s | exact kup_n (by omega) (by first | assumption | exact kup_s | exact kup_n (by omega) (by assumption)))) rfl ?_
      refine e_iload_n rfl dX9_way_38 ?_
      refine e_iload_n rfl dX9_way_39 ?_
      refine eV2 mtX2_turn miX2_turn lkX9_100 dX9_way_40 (by first | assumption | exact kup_s | exact kup_n (by omega) (by first | assumption | exact kup_s | exact kup_n (by omega) (by first | assumption | exact kup_s | exact kup_n (by omega) (by assumption)))) rfl rfl rfl (k_turn zn.1 (by omega) (by omega)) ?_
      dsimp only [Option.toList, List.cons_append, List.nil_append]
      refine e_iload_n rfl dX9_way_43 ?_
      refine e_ireturn dX9_way_44 rfl rfl ?_
      refine ⟨by unfold a_way; (repeat' split) <;> first | rfl | (exfalso; omega), ?_, fun j h1 _ => by rw [kup_o (by omega)], Nat.le_refl n⟩
      have e9 : s_way Z x v = (kSW (cN Z) (up (hW (cN Z)) x.toNat v), Z.2) := if_pos ⟨by omega, by omega⟩
      rw [e9]
      exact rKI_now z (fun j hj => by rw [kup_o (by omega)]) (rHd_w zn (fun j hj => kup_o hj) kup_s)
    · refine e_bipush (by decide) dX9_way_22 ?_
      refine e_ireturn dX9_way_24 rfl rfl ?_
      rw [s_wayN (by omega)]
      exact kQc_0 (by unfold a_way; (repeat' split) <;> first | rfl | (exfalso; omega)) z
set_option maxHeartbeats 4000000 in
set_option maxRecDepth 100000 in
theorem k_sayY {G : kG} {d : Nat} {h : Nat → Option kC} {n : Nat} {Z : kCs} (g : rSt G) (z : rKI G h Z) (ok : kCok Z) (hc : (cP Z).1 < 60) {x : Int} (hx : inI x) : kCall G mX9_say (d + 3) 0 0 [.ref (gB G + 0), .int (jI x)] h n (kQc G h n (.int (jI (a_say Z x))) (s_say Z x)) := by
  show kE G mX9_say (d + 3) 0 0 0 [some (.ref (gB G + 0)), some (.int (jI x))] [] h n _
  obtain ⟨⟨z0, ⟨f0, z28, z28f⟩, zu⟩, zp, zn, zi, zk, ⟨q, zq⟩, ⟨P, zP⟩, ⟨s, zs⟩, A9, E9, t9, zt⟩ := id z
  have zp1 := zp.1
  have zn1 := zn.1.1
  have zu1 := zu.1
  obtain ⟨okn, ⟨p0, p1, p2⟩, oki, okk⟩ := id ok
  refine e_iload_n rfl dX9_say_0 ?_
  refine e_bipush (by decide) dX9_say_1 ?_
  refine e_bipush (by decide) dX9_say_3 ?_
  refine eS3 mtX9_within msX9_within lkX9_69 dX9_say_5 rfl rfl (k_within (by first | assumption | (unfold inI at *; omega)) (by first | assumption | (unfold inI at *; omega)) (by first | assumption | (unfold inI at *; omega))) ?_
  dsimp only [Option.toList, List.cons_append, List.nil_append]
  refine e_ifneP (tgt := 14) dX9_say_8 (by decide) (fun c8 => ?_) (fun c8 => ?_)
  · refine e_aload_n rfl dX9_say_14 ?_
    refine e_getf fdX9_10 dX9_say_15 (by first | assumption | exact kup_s | exact kup_n (by omega) (by first | assumption | exact kup_s | exact kup_n (by omega) (by first | assumption | exact kup_s | exact kup_n (by omega) (by assumption)))) rfl ?_
    refine e_iload_n rfl dX9_say_18 ?_
    refine eV1 mtX7_add miX7_add lkX9_103 dX9_say_19 (by first | assumption | exact kup_s | exact kup_n (by omega) (by first | assumption | exact kup_s | exact kup_n (by omega) (by first | assumption | exact kup_s | exact kup_n (by omega) (by assumption)))) rfl rfl rfl (k_addT zp (by omega) (by omega) (by omega) (by omega)) ?_
    dsimp only [Option.toList, List.cons_append, List.nil_append]
    refine e_if_eq (tgt := 35) dX9_say_22 (by decide) (by first | assumption | (unfold inI at *; omega)) (fun c22 => ?_) (fun c22 => ?_)
    · exact absurd c22 (by omega)
    · refine e_aload_n rfl dX9_say_25 ?_
      refine e_getf fdX9_10 dX9_say_26 (by first | assumption | exact kup_s | exact kup_n (by omega) (by first | assumption | exact kup_s | exact kup_n (by omega) (by first | assumption | exact kup_s | exact kup_n (by omega) (by assumption)))) rfl ?_
      refine e_getf fdX9_106 dX9_say_29 (by first | assumption | exact kup_s | exact kup_n (by omega) (by first | assumption | exact kup_s | exact kup_n (by omega) (by first | assumption | exact kup_s | exact kup_n (by omega) (by assumption)))) rfl ?_
      refine e_goto (tgt := 37) dX9_say_32 (by decide) ?_
      refine e_ireturn dX9_say_37 rfl rfl ?_
      refine ⟨by unfold a_say; (repeat' split) <;> first | rfl | (exfalso; omega), ?_, fun j h1 _ => by rw [kup_o (by omega), kup_o (by omega)], Nat.le_refl n⟩
      have e9 : s_say Z x = (cN Z, ((cP Z).1 + 1, up (cP Z).2 (cP Z).1.toNat x), Z.2.2) := if_pos ⟨by omega, by omega⟩
      rw [e9]
      exact rKI_pad z (fun j hj => by rw [kup_o (by omega), kup_o (by omega)]) ⟨kup_s, kup_n (by omega) kup_s⟩
  · refine e_bipush (by decide) dX9_say_11 ?_
    refine e_ireturn dX9_say_13 rfl rfl ?_
    rw [s_sayN (by omega)]
    exact kQc_0 (by unfold a_say; (repeat' split) <;> first | rfl | (exfalso; omega)) z
set_option maxHeartbeats 4000000 in
set_option maxRecDepth 100000 in
theorem k_sayN {G : kG} {d : Nat} {h : Nat → Option kC} {n : Nat} {Z : kCs} (g : rSt G) (z : rKI G h Z) (ok : kCok Z) (hc : ¬ (cP Z).1 < 60) {x : Int} (hx : inI x) : kCall G mX9_say (d + 3) 0 0 [.ref (gB G + 0), .int (jI x)] h n (kQc G h n (.int (jI (a_say Z x))) (s_say Z x)) := by
  show kE G mX9_say (d + 3) 0 0 0 [some (.ref (gB G + 0)), some (.int (jI x))] [] h n _
  obtain ⟨⟨z0, ⟨f0, z28, z28f⟩, zu⟩, zp, zn, zi, zk, ⟨q, zq⟩, ⟨P, zP⟩, ⟨s, zs⟩, A9, E9, t9, zt⟩ := id z
  have zp1 := zp.1
  have zn1 := zn.1.1
  have zu1 := zu.1
  obtain ⟨okn, ⟨p0, p1, p2⟩, oki, okk⟩ := id ok
  refine e_iload_n rfl dX9_say_0 ?_
  refine e_bipush (by decide) dX9_say_1 ?_
  refine e_bipush (by decide) dX9_say_3 ?_
  refine eS3 mtX9_within msX9_within lkX9_69 dX9_say_5 rfl rfl (k_within (by first | assumption | (unfold inI at *; omega)) (by first | assumption | (unfold inI at *; omega)) (by first | assumption | (unfold inI at *; omega))) ?_
  dsimp only [Option.toList, List.cons_append, List.nil_append]
  refine e_ifneP (tgt := 14) dX9_say_8 (by decide) (fun c8 => ?_) (fun c8 => ?_)
  · refine e_aload_n rfl dX9_say_14 ?_
    refine e_getf fdX9_10 dX9_say_15 (by first | assumption | exact kup_s | exact kup_n (by omega) (by first | assumption | exact kup_s | exact kup_n (by omega) (by first | assumption | exact kup_s | exact kup_n (by omega) (by assumption)))) rfl ?_
    refine e_iload_n rfl dX9_say_18 ?_
    refine eV1 mtX7_add miX7_add lkX9_103 dX9_say_19 (by first | assumption | exact kup_s | exact kup_n (by omega) (by first | assumption | exact kup_s | exact kup_n (by omega) (by first | assumption | exact kup_s | exact kup_n (by omega) (by assumption)))) rfl rfl rfl (k_addF zp (by omega) (by omega) (by omega)) ?_
    dsimp only [Option.toList, List.cons_append, List.nil_append]
    refine e_if_eq (tgt := 35) dX9_say_22 (by decide) (by first | assumption | (unfold inI at *; omega)) (fun c22 => ?_) (fun c22 => ?_)
    · refine e_bipush (by decide) dX9_say_35 ?_
      refine e_ireturn dX9_say_37 rfl rfl ?_
      rw [s_sayN (by omega)]
      exact kQc_0 (by unfold a_say; (repeat' split) <;> first | rfl | (exfalso; omega)) z
    · exact absurd c22 (by omega)
  · refine e_bipush (by decide) dX9_say_11 ?_
    refine e_ireturn dX9_say_13 rfl rfl ?_
    rw [s_sayN (by omega)]
    exact kQc_0 (by unfold a_say; (repeat' split) <;> first | rfl | (exfalso; omega)) z
theorem k_say {G : kG} {d : Nat} {h : Nat → Option kC} {n : Nat} {Z : kCs} (g : rSt G) (z : rKI G h Z) (ok : kCok Z) {x : Int} (hx : inI x) : kCall G mX9_say (d + 3) 0 0 [.ref (gB G + 0), .int (jI x)] h n (kQc G h n (.int (jI (a_say Z x))) (s_say Z x)) := by
  by_cases c9 : (cP Z).1 < 60
  · exact k_sayY g z ok c9 hx
  · exact k_sayN g z ok c9 hx
set_option maxHeartbeats 4000000 in
set_option maxRecDepth 100000 in
theorem k_wipe {G : kG} {d : Nat} {h : Nat → Option kC} {n : Nat} {Z : kCs} (g : rSt G) (z : rKI G h Z) (ok : kCok Z)  : kCall G mX9_wipe (d + 3) 0 0 [.ref (gB G + 0)] h n (kQc G h n (.int (jI (a_wipe Z))) (s_wipe Z)) := by
  show kE G mX9_wipe (d + 3) 0 0 0 [some (.ref (gB G + 0)), none] [] h n _
  obtain ⟨⟨z0, ⟨f0, z28, z28f⟩, zu⟩, zp, zn, zi, zk, ⟨q, zq⟩, ⟨P, zP⟩, ⟨s, zs⟩, A9, E9, t9, zt⟩ := id z
  have zp1 := zp.1
  have zn1 := zn.1.1
  have zu1 := zu.1
  obtain ⟨okn, ⟨p0, p1, p2⟩, oki, okk⟩ := id ok
  refine e_aload_n rfl dX9_wipe_0 ?_
  refine e_getf fdX9_10 dX9_wipe_1 (by first | assumption | exact kup_s | exact kup_n (by omega) (by first | assumption | exact kup_s | exact kup_n (by omega) (by first | assumption | exact kup_s | exact kup_n (by omega) (by assumption)))) rfl ?_
  refine e_getf fdX9_106 dX9_wipe_4 (by first | assumption | exact kup_s | exact kup_n (by omega) (by first | assumption | exact kup_s | exact kup_n (by omega) (by first | assumption | exact kup_s | exact kup_n (by omega) (by assumption)))) rfl ?_
  refine e_istore_n dX9_wipe_7 rfl rfl ?_
  dsimp only [List.set]
  refine e_aload_n rfl dX9_wipe_8 ?_
  refine e_getf fdX9_10 dX9_wipe_9 (by first | assumption | exact kup_s | exact kup_n (by omega) (by first | assumption | exact kup_s | exact kup_n (by omega) (by first | assumption | exact kup_s | exact kup_n (by omega) (by assumption)))) rfl ?_
  refine eV0 mtX7_clear miX7_clear lkX9_110 dX9_wipe_12 (by first | assumption | exact kup_s | exact kup_n (by omega) (by first | assumption | exact kup_s | exact kup_n (by omega) (by first | assumption | exact kup_s | exact kup_n (by omega) (by assumption)))) rfl rfl rfl (k_clearT zp (by omega) (by omega)) ?_
  dsimp only [Option.toList, List.cons_append, List.nil_append]
  refine e_iload_n rfl dX9_wipe_15 ?_
  refine e_ireturn dX9_wipe_16 rfl rfl ?_
  refine ⟨rfl, ?_, fun j h1 _ => by rw [kup_o (by omega)], Nat.le_refl n⟩
  exact rKI_pad (q := (0, (cP Z).2)) z (fun j hj => by rw [kup_o (by omega)]) ⟨kup_s, kup_n (by omega) zp.2⟩
def a_take (Z : kCs) (x : Int) : Int := if 0 ≤ x ∧ x ≤ 1 then (if kfault (cP Z).2 (cP Z).1 x = -6 then kpc (cP Z).1 (cP Z).2 else -5) else -2
def s_take (Z : kCs) (x : Int) : kCs := if (0 ≤ x ∧ x ≤ 1) ∧ kfault (cP Z).2 (cP Z).1 x = -6 then (if x = 0 then kSR (cN Z) (cP Z) else kSG (cN Z) (cP Z), (0, (cP Z).2), Z.2.2) else Z
theorem s_takeN {Z : kCs} {x : Int} (h : ¬ ((0 ≤ x ∧ x ≤ 1) ∧ kfault (cP Z).2 (cP Z).1 x = -6)) : s_take Z x = Z := if_neg h
theorem kfs_in (F : Nat → Int) (s0 : Int) : ∀ i : Nat, -1 ≤ kfs F s0 i ∧ kfs F s0 i < i
  | 0 => by unfold kfs; omega
  | i + 1 => by
    unfold kfs
    have := kfs_in F s0 i
    (repeat' split) <;> omega
theorem kfault_in (F : Nat → Int) {c : Int} (h0 : 0 ≤ c) (h1 : c ≤ 60) (how : Int) : inI (kfault F c how) := by
  unfold kfault inI
  generalize (if how = 0 then (0 : Int) else 10) = s9
  have := kfs_in F s9 c.toNat
  (repeat' split) <;> omega
set_option maxHeartbeats 4000000 in
set_option maxRecDepth 100000 in
theorem k_takeR {G : kG} {d : Nat} {h : Nat → Option kC} {n : Nat} {Z : kCs} (g : rSt G) (z : rKI G h Z) (ok : kCok Z) {x : Int} (hx : x = 0) : kCall G mX9_take (d + 4) 0 0 [.ref (gB G + 0), .int (jI x)] h n (kQc G h n (.int (jI (a_take Z x))) (s_take Z x)) := by
  show kE G mX9_take (d + 4) 0 0 0 [some (.ref (gB G + 0)), some (.int (jI x)), none] [] h n _
  obtain ⟨⟨z0, ⟨f0, z28, z28f⟩, zu⟩, zp, zn, zi, zk, ⟨q, zq⟩, ⟨P, zP⟩, ⟨s, zs⟩, A9, E9, t9, zt⟩ := id z
  have zp1 := zp.1
  have zn1 := zn.1.1
  have zu1 := zu.1
  obtain ⟨okn, ⟨p0, p1, p2⟩, oki, okk⟩ := id ok
  obtain ⟨n1, n2, n3, n4, n5⟩ := id zn.1
  refine e_iload_n rfl dX9_take_0 ?_
  refine e_iconst dX9_take_1 ?_
  refine e_iconst dX9_take_2 ?_
  refine eS3 mtX9_within msX9_within lkX9_69 dX9_take_3 rfl rfl (k_within (by first | assumption | (unfold inI at *; omega)) (by first | assumption | (unfold inI at *; omega)) (by first | assumption | (unfold inI at *; omega))) ?_
  dsimp only [Option.toList, List.cons_append, List.nil_append]
  refine e_ifneP (tgt := 12) dX9_take_6 (by decide) (fun c6 => ?_) (fun c6 => ?_)
  · refine e_aload_n rfl dX9_take_12 ?_
    refine e_getf fdX9_10 dX9_take_13 (by first | assumption | exact kup_s | exact kup_n (by omega) (by first | assumption | exact kup_s | exact kup_n (by omega) (by first | assumption | exact kup_s | exact kup_n (by omega) (by assumption)))) rfl ?_
    refine e_iload_n rfl dX9_take_16 ?_
    refine eS2 mtX1_faultOf msX1_faultOf lkX9_113 dX9_take_17 rfl rfl (k_faultOf zp (by omega) (by omega) p2 (by omega) (by omega)) ?_
    dsimp only [Option.toList, List.cons_append, List.nil_append]
    have q8 := kfault_in (cP Z).2 p0 p1 x
    refine e_bipush (by decide) dX9_take_20 ?_
    refine e_icmp_eq (tgt := 28) dX9_take_22 (by decide) (by first | assumption | (unfold inI at *; omega)) (by first | assumption | (unfold inI at *; omega)) (fun c22 => ?_) (fun c22 => ?_)
    · refine e_iload_n rfl dX9_take_28 ?_
      refine e_if_ne (tgt := 42) dX9_take_29 (by decide) (by first | assumption | (unfold inI at *; omega)) (fun c29 => ?_) (fun c29 => ?_)
      · exact absurd c29 (by omega)
      · refine e_aload_n rfl dX9_take_32 ?_
        refine e_getf fdX9_19 dX9_take_33 (by first | assumption | exact kup_s | exact kup_n (by omega) (by first | assumption | exact kup_s | exact kup_n (by omega) (by first | assumption | exact kup_s | exact kup_n (by omega) (by assumption)))) rfl ?_
        refine e_getf fdX9_119 dX9_take_36 (by first | assumption | exact kup_s | exact kup_n (by omega) (by first | assumption | exact kup_s | exact kup_n (by omega) (by first | assumption | exact kup_s | exact kup_n (by omega) (by assumption)))) rfl ?_
        refine e_goto (tgt := 49) dX9_take_39 (by decide) ?_
        refine e_astore_n dX9_take_49 rfl rfl ?_
        dsimp only [List.set]
        refine e_aload_n rfl dX9_take_50 ?_
        refine e_aload_n rfl dX9_take_51 ?_
        refine e_getf fdX9_10 dX9_take_52 (by first | assumption | exact kup_s | exact kup_n (by omega) (by first | assumption | exact kup_s | exact kup_n (by omega) (by first | assumption | exact kup_s | exact kup_n (by omega) (by assumption)))) rfl ?_
        refine eV1 mtX7_copyFrom miX7_copyFrom lkX9_125 dX9_take_55 zn.1.2.2.1.1 rfl rfl rfl (k_copyT zn.1.2.2.1 zp (by omega) (by omega)) ?_
        dsimp only [Option.toList, List.cons_append, List.nil_append]
        refine e_aload_n rfl dX9_take_58 ?_
        refine e_getf fdX9_10 dX9_take_59 (by first | assumption | exact kup_s | exact kup_n (by omega) (by first | assumption | exact kup_s | exact kup_n (by omega) (by first | assumption | exact kup_s | exact kup_n (by omega) (by assumption)))) rfl ?_
        refine eV0 mtX7_clear miX7_clear lkX9_110 dX9_take_62 (by first | assumption | exact kup_s | exact kup_n (by omega) (by first | assumption | exact kup_s | exact kup_n (by omega) (by first | assumption | exact kup_s | exact kup_n (by omega) (by assumption)))) rfl rfl rfl (k_clearT (rTx_up (rTx_up zp (by omega) (by omega)) (by omega) (by omega)) (by omega) (by omega)) ?_
        dsimp only [Option.toList, List.cons_append, List.nil_append]
        refine e_aload_n rfl dX9_take_65 ?_
        refine eV0 mtX7_pieces miX7_pieces lkX9_129 dX9_take_66 (by first | assumption | exact kup_s | exact kup_n (by omega) (by first | assumption | exact kup_s | exact kup_n (by omega) (by first | assumption | exact kup_s | exact kup_n (by omega) (by assumption)))) rfl rfl rfl (k_pieces (t := 5) (s := 6) (c := (cP Z).1) (F := (cP Z).2) ⟨kup_n (by omega) kup_s, kup_n (by omega) (kup_n (by omega) kup_s)⟩ (by omega) (by omega) p2) ?_
        dsimp only [Option.toList, List.cons_append, List.nil_append]
        refine e_ireturn dX9_take_69 rfl rfl ?_
        have e9 : s_take Z x = (if x = 0 then kSR (cN Z) (cP Z) else kSG (cN Z) (cP Z), (0, (cP Z).2), Z.2.2) := if_pos ⟨by omega, by omega⟩
        rw [e9, if_pos (by omega)]
        have z1 : rKI G (kup (kup h 6 (kia 60 (cP Z).2)) 5 (kob 5 [.ref (gB G + 6), .int (jI (cP Z).1)])) (kSR (cN Z) (cP Z), Z.2) := rKI_now z (fun j hj => by rw [kup_o (by omega), kup_o (by omega)]) (rHd_r zn (fun j h1 h2 => by rw [kup_o (by omega), kup_o (by omega)]) ⟨kup_s, kup_n (by omega) kup_s⟩)
        refine ⟨by unfold a_take; (repeat' split) <;> first | rfl | (exfalso; omega), ?_, fun j h1 _ => by rw [kup_o (by omega), kup_o (by omega), kup_o (by omega)], Nat.le_refl n⟩
        exact rKI_pad (q := (0, (cP Z).2)) z1 (fun j hj => by rw [kup_o (by omega)]) ⟨kup_s, kup_n (by omega) (kup_n (by omega) (kup_n (by omega) zp.2))⟩
    · refine e_bipush (by decide) dX9_take_25 ?_
      refine e_ireturn dX9_take_27 rfl rfl ?_
      rw [s_takeN (by omega)]
      exact kQc_0 (by unfold a_take; (repeat' split) <;> first | rfl | (exfalso; omega)) z
  · exact absurd c6 (by omega)
set_option maxHeartbeats 4000000 in
set_option maxRecDepth 100000 in
theorem k_takeG {G : kG} {d : Nat} {h : Nat → Option kC} {n : Nat} {Z : kCs} (g : rSt G) (z : rKI G h Z) (ok : kCok Z) {x : Int} (hx : x = 1) : kCall G mX9_take (d + 4) 0 0 [.ref (gB G + 0), .int (jI x)] h n (kQc G h n (.int (jI (a_take Z x))) (s_take Z x)) := by
  show kE G mX9_take (d + 4) 0 0 0 [some (.ref (gB G + 0)), some (.int (jI x)), none] [] h n _
  obtain ⟨⟨z0, ⟨f0, z28, z28f⟩, zu⟩, zp, zn, zi, zk, ⟨q, zq⟩, ⟨P, zP⟩, ⟨s, zs⟩, A9, E9, t9, zt⟩ := id z
  have zp1 := zp.1
  have zn1 := zn.1.1
  have zu1 := zu.1
  obtain ⟨okn, ⟨p0, p1, p2⟩, oki, okk⟩ := id ok
  obtain ⟨n1, n2, n3, n4, n5⟩ := id zn.1
  refine e_iload_n rfl dX9_take_0 ?_
  refine e_iconst dX9_take_1 ?_
  refine e_iconst dX9_take_2 ?_
  refine eS3 mtX9_within msX9_within lkX9_69 dX9_take_3 rfl rfl (k_within (by first | assumption | (unfold inI at *; omega)) (by first | assumption | (unfold inI at *; omega)) (by first | assumption | (unfold inI at *; omega))) ?_
  dsimp only [Option.toList, List.cons_append, List.nil_append]
  refine e_ifneP (tgt := 12) dX9_take_6 (by decide) (fun c6 => ?_) (fun c6 => ?_)
  · refine e_aload_n rfl dX9_take_12 ?_
    refine e_getf fdX9_10 dX9_take_13 (by first | assumption | exact kup_s | exact kup_n (by omega) (by first | assumption | exact kup_s | exact kup_n (by omega) (by first | assumption | exact kup_s | exact kup_n (by omega) (by assumption)))) rfl ?_
    refine e_iload_n rfl dX9_take_16 ?_
    refine eS2 mtX1_faultOf msX1_faultOf lkX9_113 dX9_take_17 rfl rfl (k_faultOf zp (by omega) (by omega) p2 (by omega) (by omega)) ?_
    dsimp only [Option.toList, List.cons_append, List.nil_append]
    have q8 := kfault_in (cP Z).2 p0 p1 x
    refine e_bipush (by decide) dX9_take_20 ?_
    refine e_icmp_eq (tgt := 28) dX9_take_22 (by decide) (by first | assumption | (unfold inI at *; omega)) (by first | assumption | (unfold inI at *; omega)) (fun c22 => ?_) (fun c22 => ?_)
    · refine e_iload_n rfl dX9_take_28 ?_
      refine e_if_ne (tgt := 42) dX9_take_29 (by decide) (by first | assumption | (unfold inI at *; omega)) (fun c29 => ?_) (fun c29 => ?_)
      · refine e_aload_n rfl dX9_take_42 ?_
        refine e_getf fdX9_19 dX9_take_43 (by first | assumption | exact kup_s | exact kup_n (by omega) (by first | assumption | exact kup_s | exact kup_n (by omega) (by first | assumption | exact kup_s | exact kup_n (by omega) (by assumption)))) rfl ?_
        refine e_getf fdX9_122 dX9_take_46 (by first | assumption | exact kup_s | exact kup_n (by omega) (by first | assumption | exact kup_s | exact kup_n (by omega) (by first | assumption | exact kup_s | exact kup_n (by omega) (by assumption)))) rfl ?_
        refine e_astore_n dX9_take_49 rfl rfl ?_
        dsimp only [List.set]
        refine e_aload_n rfl dX9_take_50 ?_
        refine e_aload_n rfl dX9_take_51 ?_
        refine e_getf fdX9_10 dX9_take_52 (by first | assumption | exact kup_s | exact kup_n (by omega) (by first | assumption | exact kup_s | exact kup_n (by omega) (by first | assumption | exact kup_s | exact kup_n (by omega) (by assumption)))) rfl ?_
        refine eV1 mtX7_copyFrom miX7_copyFrom lkX9_125 dX9_take_55 zn.1.2.2.2.1.1 rfl rfl rfl (k_copyT zn.1.2.2.2.1 zp (by omega) (by omega)) ?_
        dsimp only [Option.toList, List.cons_append, List.nil_append]
        refine e_aload_n rfl dX9_take_58 ?_
        refine e_getf fdX9_10 dX9_take_59 (by first | assumption | exact kup_s | exact kup_n (by omega) (by first | assumption | exact kup_s | exact kup_n (by omega) (by first | assumption | exact kup_s | exact kup_n (by omega) (by assumption)))) rfl ?_
        refine eV0 mtX7_clear miX7_clear lkX9_110 dX9_take_62 (by first | assumption | exact kup_s | exact kup_n (by omega) (by first | assumption | exact kup_s | exact kup_n (by omega) (by first | assumption | exact kup_s | exact kup_n (by omega) (by assumption)))) rfl rfl rfl (k_clearT (rTx_up (rTx_up zp (by omega) (by omega)) (by omega) (by omega)) (by omega) (by omega)) ?_
        dsimp only [Option.toList, List.cons_append, List.nil_append]
        refine e_aload_n rfl dX9_take_65 ?_
        refine eV0 mtX7_pieces miX7_pieces lkX9_129 dX9_take_66 (by first | assumption | exact kup_s | exact kup_n (by omega) (by first | assumption | exact kup_s | exact kup_n (by omega) (by first | assumption | exact kup_s | exact kup_n (by omega) (by assumption)))) rfl rfl rfl (k_pieces (t := 7) (s := 8) (c := (cP Z).1) (F := (cP Z).2) ⟨kup_n (by omega) kup_s, kup_n (by omega) (kup_n (by omega) kup_s)⟩ (by omega) (by omega) p2) ?_
        dsimp only [Option.toList, List.cons_append, List.nil_append]
        refine e_ireturn dX9_take_69 rfl rfl ?_
        have e9 : s_take Z x = (if x = 0 then kSR (cN Z) (cP Z) else kSG (cN Z) (cP Z), (0, (cP Z).2), Z.2.2) := if_pos ⟨by omega, by omega⟩
        rw [e9, if_neg (by omega)]
        have z1 : rKI G (kup (kup h 8 (kia 60 (cP Z).2)) 7 (kob 5 [.ref (gB G + 8), .int (jI (cP Z).1)])) (kSG (cN Z) (cP Z), Z.2) := rKI_now z (fun j hj => by rw [kup_o (by omega), kup_o (by omega)]) (rHd_g zn (fun j h1 h2 => by rw [kup_o (by omega), kup_o (by omega)]) ⟨kup_s, kup_n (by omega) kup_s⟩)
        refine ⟨by unfold a_take; (repeat' split) <;> first | rfl | (exfalso; omega), ?_, fun j h1 _ => by rw [kup_o (by omega), kup_o (by omega), kup_o (by omega)], Nat.le_refl n⟩
        exact rKI_pad (q := (0, (cP Z).2)) z1 (fun j hj => by rw [kup_o (by omega)]) ⟨kup_s, kup_n (by omega) (kup_n (by omega) (kup_n (by omega) zp.2))⟩
      · exact absurd c29 (by omega)
    · refine e_bipush (by decide) dX9_take_25 ?_
      refine e_ireturn dX9_take_27 rfl rfl ?_
      rw [s_takeN (by omega)]
      exact kQc_0 (by unfold a_take; (repeat' split) <;> first | rfl | (exfalso; omega)) z
  · exact absurd c6 (by omega)
theorem k_takeN {G : kG} {d : Nat} {h : Nat → Option kC} {n : Nat} {Z : kCs} (g : rSt G) (z : rKI G h Z) (ok : kCok Z) {x : Int} (hx : inI x) (hn : ¬ (0 ≤ x ∧ x ≤ 1)) : kCall G mX9_take (d + 4) 0 0 [.ref (gB G + 0), .int (jI x)] h n (kQc G h n (.int (jI (a_take Z x))) (s_take Z x)) := by
  show kE G mX9_take (d + 4) 0 0 0 [some (.ref (gB G + 0)), some (.int (jI x)), none] [] h n _
  refine e_iload_n rfl dX9_take_0 ?_
  refine e_iconst dX9_take_1 ?_
  refine e_iconst dX9_take_2 ?_
  refine eS3 mtX9_within msX9_within lkX9_69 dX9_take_3 rfl rfl (k_within (by first | assumption | (unfold inI at *; omega)) (by first | assumption | (unfold inI at *; omega)) (by first | assumption | (unfold inI at *; omega))) ?_
  dsimp only [Option.toList, List.cons_append, List.nil_append]
  refine e_ifneP (tgt := 12) dX9_take_6 (by decide) (fun c6 => ?_) (fun c6 => ?_)
  · exact absurd c6 (by omega)
  · refine e_bipush (by decide) dX9_take_9 ?_
    refine e_ireturn dX9_take_11 rfl rfl ?_
    rw [s_takeN (by omega)]
    exact kQc_0 (by unfold a_take; (repeat' split) <;> first | rfl | (exfalso; omega)) z
theorem k_take {G : kG} {d : Nat} {h : Nat → Option kC} {n : Nat} {Z : kCs} (g : rSt G) (z : rKI G h Z) (ok : kCok Z) {x : Int} (hx : inI x) : kCall G mX9_take (d + 4) 0 0 [.ref (gB G + 0), .int (jI x)] h n (kQc G h n (.int (jI (a_take Z x))) (s_take Z x)) := by
  by_cases c9 : 0 ≤ x ∧ x ≤ 1
  · rcases (show x = 0 ∨ x = 1 by omega) with c8 | c8
    · exact k_takeR g z ok c8
    · exact k_takeG g z ok c8
  · exact k_takeN g z ok hx c9
