/-! THE CLASS: IMAGES, TOLD -/
def kQh (G : kG) (h : Nat → Option kC) (n a : Nat) (S : kHd) : kPo := fun r h' n' => r = none ∧ rHd G h' a S ∧ (∀ j, j < a ∨ a + 24 < j → h' j = h j) ∧ n' = n
set_option maxHeartbeats 4000000 in
set_option maxRecDepth 100000 in
theorem k_copyH_tl {G : kG} {d : Nat} {h : Nat → Option kC} {n : Nat} {a a2 : Nat} {S S2 : kHd} (q : rHd G h a2 S2) (hd : a + 24 < a2 ∨ a2 + 24 < a) {h9 : Nat → Option kC} {x : Int} (g4 : rHn G h9 a S) (g5 : ∀ j, j < a ∨ a + 24 < j → h9 j = h j) (g6 : ∀ k, k < 6 → rBk G h9 (a + 7 + 3 * k) (a + 8 + 3 * k) (a + 9 + 3 * k) (hM S2 k) (hE S2 k) (ksum (hM S2 k) 64)) : kE G mX2_copyFrom (d + 3) 0 0 32 [some (.ref (gB G + a)), some (.ref (gB G + a2)), some (.int (jI x))] [] h9 n (kQh G h n a S2) := by
  have q9 : rHd G h9 a2 S2 := rHd_cg q (fun j h1 h2 => g5 j (by omega))
  obtain ⟨r1, ⟨f9, r2, r2f⟩, r3, r4, r5⟩ := id g4
  obtain ⟨q1, ⟨f8, q2, q2f⟩, q3, q4, q5⟩ := id q9.1
  have r31 := r3.1
  have r32 := r3.2
  have r41 := r4.1
  have r42 := r4.2
  have q31 := q3.1
  have q32 := q3.2
  have q41 := q4.1
  have q42 := q4.2
  refine e_aload_n rfl dX2_copyFrom_32 ?_
  refine e_getf fdX2_20 dX2_copyFrom_33 (by repeat (first | assumption | exact kup_s | refine kup_n (by omega) ?_)) rfl ?_
  refine e_aload_n rfl dX2_copyFrom_36 ?_
  refine e_getf fdX2_20 dX2_copyFrom_37 (by repeat (first | assumption | exact kup_s | refine kup_n (by omega) ?_)) rfl ?_
  refine eV1 mtX7_copyFrom miX7_copyFrom lkX2_39 dX2_copyFrom_40 (by repeat (first | assumption | exact kup_s | refine kup_n (by omega) ?_)) rfl rfl rfl (k_copyT r3 q3 (by omega) (by omega)) ?_
  dsimp only [Option.toList, List.cons_append, List.nil_append]
  refine e_aload_n rfl dX2_copyFrom_43 ?_
  refine e_getf fdX2_24 dX2_copyFrom_44 (by repeat (first | assumption | exact kup_s | refine kup_n (by omega) ?_)) rfl ?_
  refine e_aload_n rfl dX2_copyFrom_47 ?_
  refine e_getf fdX2_24 dX2_copyFrom_48 (by repeat (first | assumption | exact kup_s | refine kup_n (by omega) ?_)) rfl ?_
  refine eV1 mtX7_copyFrom miX7_copyFrom lkX2_39 dX2_copyFrom_51 (by repeat (first | assumption | exact kup_s | refine kup_n (by omega) ?_)) rfl rfl rfl (k_copyT (rTx_up (rTx_up r4 (by omega) (by omega)) (by omega) (by omega)) (rTx_up (rTx_up q4 (by omega) (by omega)) (by omega) (by omega)) (by omega) (by omega)) ?_
  dsimp only [Option.toList, List.cons_append, List.nil_append]
  refine e_aload_n rfl dX2_copyFrom_54 ?_
  refine e_getf fdX2_31 dX2_copyFrom_55 (by repeat (first | assumption | exact kup_s | refine kup_n (by omega) ?_)) rfl ?_
  refine e_iconst dX2_copyFrom_58 ?_
  refine e_aload_n rfl dX2_copyFrom_59 ?_
  refine e_getf fdX2_31 dX2_copyFrom_60 (by repeat (first | assumption | exact kup_s | refine kup_n (by omega) ?_)) rfl ?_
  refine e_iconst dX2_copyFrom_63 ?_
  refine e_aload_n rfl dX2_copyFrom_64 ?_
  refine e_getf fdX2_31 dX2_copyFrom_65 (by repeat (first | assumption | exact kup_s | refine kup_n (by omega) ?_)) rfl ?_
  refine e_alen dX2_copyFrom_68 (by repeat (first | assumption | exact kup_s | refine kup_n (by omega) ?_)) (fun _ => rfl) ?_
  refine e_copy lkX2_42 dX2_copyFrom_69 (by repeat (first | assumption | exact kup_s | refine kup_n (by omega) ?_)) (by repeat (first | assumption | exact kup_s | refine kup_n (by omega) ?_)) rfl ?_
  refine e_return dX2_copyFrom_72 rfl ?_
  refine ⟨rfl, ⟨⟨(by repeat (first | assumption | exact kup_s | refine kup_n (by omega) ?_)), ⟨f9, (by repeat (first | assumption | exact kup_s | refine kup_n (by omega) ?_)), r2f⟩, ⟨(by repeat (first | assumption | exact kup_s | refine kup_n (by omega) ?_)), (by repeat (first | assumption | exact kup_s | refine kup_n (by omega) ?_))⟩, ⟨(by repeat (first | assumption | exact kup_s | refine kup_n (by omega) ?_)), (by repeat (first | assumption | exact kup_s | refine kup_n (by omega) ?_))⟩, kup_s⟩, fun k hk => rBk_cg (g6 k hk) ((kup_o (by omega)).trans ((kup_o (by omega)).trans ((kup_o (by omega)).trans ((kup_o (by omega)).trans (kup_o (by omega)))))) ((kup_o (by omega)).trans ((kup_o (by omega)).trans ((kup_o (by omega)).trans ((kup_o (by omega)).trans (kup_o (by omega)))))) ((kup_o (by omega)).trans ((kup_o (by omega)).trans ((kup_o (by omega)).trans ((kup_o (by omega)).trans (kup_o (by omega))))))⟩, fun j hj => ((kup_o (by omega)).trans ((kup_o (by omega)).trans ((kup_o (by omega)).trans ((kup_o (by omega)).trans (kup_o (by omega)))))).trans (g5 j hj), rfl⟩
set_option maxHeartbeats 4000000 in
set_option maxRecDepth 100000 in
theorem k_copyH_lp {G : kG} {d : Nat} {h : Nat → Option kC} {n : Nat} {a a2 : Nat} {S S2 : kHd} (q : rHd G h a2 S2) (hd : a + 24 < a2 ∨ a2 + 24 < a)  : ∀ (f : Nat) (i : Nat) (z9 : Int) (h9 : Nat → Option kC), z9 = (i : Int) → i ≤ 6 → 6 - (i : Int) ≤ f → rHn G h9 a S → (∀ j, j < a ∨ a + 24 < j → h9 j = h j) → (∀ k, k < 6 → k < i → rBk G h9 (a + 7 + 3 * k) (a + 8 + 3 * k) (a + 9 + 3 * k) (hM S2 k) (hE S2 k) (ksum (hM S2 k) 64)) → (∀ k, k < 6 → ∃ A E t, rBk G h9 (a + 7 + 3 * k) (a + 8 + 3 * k) (a + 9 + 3 * k) A E t) → kE G mX2_copyFrom (d + 3) 0 0 2 [some (.ref (gB G + a)), some (.ref (gB G + a2)), some (.int (jI z9))] [] h9 n (kQh G h n a S2) := by
  intro f
  induction f with
  | zero =>
    intro i z9 h9 g1 g2 g3 g4 g5 g6 g7
    obtain ⟨r1, ⟨f9, r2, r2f⟩, r3, r4, r5⟩ := id g4
    refine e_iload_n rfl dX2_copyFrom_2 ?_
    refine e_aload_n rfl dX2_copyFrom_3 ?_
    refine e_getf fdX2_11 dX2_copyFrom_4 (by first | assumption | exact kup_s | exact kup_n (by omega) (by first | assumption | exact kup_s | exact kup_n (by omega) (by first | assumption | exact kup_s | exact kup_n (by omega) (by assumption)))) rfl ?_
    refine e_alen dX2_copyFrom_7 (by first | assumption | exact kup_s | exact kup_n (by omega) (by first | assumption | exact kup_s | exact kup_n (by omega) (by first | assumption | exact kup_s | exact kup_n (by omega) (by assumption)))) (fun _ => rfl) ?_
    refine e_icmp_ge (tgt := 32) dX2_copyFrom_8 (by decide) (by first | assumption | (unfold inI at *; omega)) (by first | assumption | (unfold inI at *; omega)) (fun c8 => ?_) (fun c8 => ?_)
    · exact k_copyH_tl q hd g4 g5 (fun k hk => g6 k hk (by omega))
    · exact absurd c8 (by omega)
  | succ f ih =>
    intro i z9 h9 g1 g2 g3 g4 g5 g6 g7
    subst g1
    have q9 : rHd G h9 a2 S2 := rHd_cg q (fun j h1 h2 => g5 j (by omega))
    obtain ⟨r1, ⟨f9, r2, r2f⟩, r3, r4, r5⟩ := id g4
    obtain ⟨q1, ⟨f8, q2, q2f⟩, q3, q4, q5⟩ := id q9.1
    refine e_iload_n rfl dX2_copyFrom_2 ?_
    refine e_aload_n rfl dX2_copyFrom_3 ?_
    refine e_getf fdX2_11 dX2_copyFrom_4 (by first | assumption | exact kup_s | exact kup_n (by omega) (by first | assumption | exact kup_s | exact kup_n (by omega) (by first | assumption | exact kup_s | exact kup_n (by omega) (by assumption)))) rfl ?_
    refine e_alen dX2_copyFrom_7 (by first | assumption | exact kup_s | exact kup_n (by omega) (by first | assumption | exact kup_s | exact kup_n (by omega) (by first | assumption | exact kup_s | exact kup_n (by omega) (by assumption)))) (fun _ => rfl) ?_
    refine e_icmp_ge (tgt := 32) dX2_copyFrom_8 (by decide) (by first | assumption | (unfold inI at *; omega)) (by first | assumption | (unfold inI at *; omega)) (fun c8 => ?_) (fun c8 => ?_)
    · exact k_copyH_tl q hd g4 g5 (fun k hk => g6 k hk (by omega))
    · obtain ⟨A9, E9, t9, rbA⟩ := g7 i (by omega)
      have rbB := q9.2 i (by omega)
      have rbA1 := rbA.1
      refine e_aload_n rfl dX2_copyFrom_11 ?_
      refine e_getf fdX2_11 dX2_copyFrom_12 (by first | assumption | exact kup_s | exact kup_n (by omega) (by first | assumption | exact kup_s | exact kup_n (by omega) (by first | assumption | exact kup_s | exact kup_n (by omega) (by assumption)))) rfl ?_
      refine e_iload_n rfl dX2_copyFrom_15 ?_
      refine e_aald (j := a + 7 + 3 * i) dX2_copyFrom_16 (by first | assumption | exact kup_s | exact kup_n (by omega) (by first | assumption | exact kup_s | exact kup_n (by omega) (by first | assumption | exact kup_s | exact kup_n (by omega) (by assumption)))) (fun _ => rfl) rfl (by omega) (by omega) (by rw [Int.toNat_natCast]; exact r2f i (by omega)) ?_
      refine e_aload_n rfl dX2_copyFrom_17 ?_
      refine e_getf fdX2_11 dX2_copyFrom_18 (by first | assumption | exact kup_s | exact kup_n (by omega) (by first | assumption | exact kup_s | exact kup_n (by omega) (by first | assumption | exact kup_s | exact kup_n (by omega) (by assumption)))) rfl ?_
      refine e_iload_n rfl dX2_copyFrom_21 ?_
      refine e_aald (j := a2 + 7 + 3 * i) dX2_copyFrom_22 (by first | assumption | exact kup_s | exact kup_n (by omega) (by first | assumption | exact kup_s | exact kup_n (by omega) (by first | assumption | exact kup_s | exact kup_n (by omega) (by assumption)))) (fun _ => rfl) rfl (by omega) (by omega) (by rw [Int.toNat_natCast]; exact q2f i (by omega)) ?_
      refine eV1 mtX0_copyFrom miX0_copyFrom lkX2_35 dX2_copyFrom_23 (by first | assumption | exact kup_s | exact kup_n (by omega) (by first | assumption | exact kup_s | exact kup_n (by omega) (by first | assumption | exact kup_s | exact kup_n (by omega) (by assumption)))) rfl rfl rfl (k_copyB rbA rbB (by omega) (by omega) (by omega) (by omega) (by omega) (by omega)) ?_
      dsimp only [Option.toList, List.cons_append, List.nil_append]
      refine e_iinc dX2_copyFrom_26 rfl rfl ?_
      dsimp only [List.set]
      refine e_goto (tgt := 2) dX2_copyFrom_29 (by decide) ?_
      refine ih (i + 1) _ _ (by omega) (by omega) (by omega) (rHn_cg g4 (fun j h1 h2 => ((kup_o (by omega)).trans ((kup_o (by omega)).trans (kup_o (by omega)))))) (fun j hj => ((kup_o (by omega)).trans ((kup_o (by omega)).trans (kup_o (by omega)))).trans (g5 j hj)) (fun k hk hki => ?_) (fun k hk => ?_)
      · by_cases e : k = i
        · subst e
          exact ⟨kup_s, kup_n (by omega) kup_s, kup_n (by omega) (kup_n (by omega) kup_s)⟩
        · exact rBk_cg (g6 k hk (by omega)) ((kup_o (by omega)).trans ((kup_o (by omega)).trans (kup_o (by omega)))) ((kup_o (by omega)).trans ((kup_o (by omega)).trans (kup_o (by omega)))) ((kup_o (by omega)).trans ((kup_o (by omega)).trans (kup_o (by omega))))
      · by_cases e : k = i
        · subst e
          exact ⟨_, _, _, kup_s, kup_n (by omega) kup_s, kup_n (by omega) (kup_n (by omega) kup_s)⟩
        · obtain ⟨A, E, t, r9⟩ := g7 k hk
          exact ⟨A, E, t, rBk_cg r9 ((kup_o (by omega)).trans ((kup_o (by omega)).trans (kup_o (by omega)))) ((kup_o (by omega)).trans ((kup_o (by omega)).trans (kup_o (by omega)))) ((kup_o (by omega)).trans ((kup_o (by omega)).trans (kup_o (by omega))))⟩
set_option maxHeartbeats 4000000 in
set_option maxRecDepth 100000 in
theorem k_copyH {G : kG} {d : Nat} {h : Nat → Option kC} {n : Nat} {a a2 : Nat} {S S2 : kHd} (q : rHd G h a2 S2) (hd : a + 24 < a2 ∨ a2 + 24 < a) (r : rHd G h a S) : kCall G mX2_copyFrom (d + 3) 0 0 [.ref (gB G + a), .ref (gB G + a2)] h n (kQh G h n a S2) := by
  show kE G mX2_copyFrom (d + 3) 0 0 0 [some (.ref (gB G + a)), some (.ref (gB G + a2)), none] [] h n _
  refine e_iconst dX2_copyFrom_0 ?_
  refine e_istore_n dX2_copyFrom_1 rfl rfl ?_
  dsimp only [List.set]
  exact k_copyH_lp q hd 10 0 0 h (by omega) (by omega) (by omega) r.1 (fun j _ => rfl) (fun k hk hk0 => absurd hk0 (Nat.not_lt_zero k)) (fun k hk => ⟨_, _, _, r.2 k hk⟩)
def upH (F : Nat → kHd) (i : Nat) (S : kHd) : Nat → kHd := fun j => if j = i then S else F j
def a_image (_ : kCs) (x : Int) : Int := if 0 ≤ x ∧ x ≤ 1 then 1 else -2
def s_image (Z : kCs) (x : Int) : kCs := if 0 ≤ x ∧ x ≤ 1 then (cN Z, cP Z, upH (cI Z) x.toNat (cN Z), up (cK Z) x.toNat 1) else Z
theorem s_imageN {Z : kCs} {x : Int} (h : ¬ (0 ≤ x ∧ x ≤ 1)) : s_image Z x = Z := if_neg h
def a_restore (Z : kCs) (x : Int) : Int := if 0 ≤ x ∧ x ≤ 1 then (if cK Z x.toNat = 0 then -3 else 1) else -2
def s_restore (Z : kCs) (x : Int) : kCs := if (0 ≤ x ∧ x ≤ 1) ∧ ¬ cK Z x.toNat = 0 then (cI Z x.toNat, Z.2) else Z
theorem s_restoreN {Z : kCs} {x : Int} (h : ¬ ((0 ≤ x ∧ x ≤ 1) ∧ ¬ cK Z x.toNat = 0)) : s_restore Z x = Z := if_neg h
def a_told (Z : kCs) (x : Int) : Int := if x = 0 then (cP Z).1 else if x = 1 then kpc (hR (cN Z)).1 (hR (cN Z)).2 else if x = 2 then kpc (hG (cN Z)).1 (hG (cN Z)).2 else if 3 ≤ x ∧ x ≤ 7 then hW (cN Z) (x - 3).toNat else if (10 ≤ x ∧ x ≤ 45) ∧ x % 10 ≤ 5 then (if x < 20 then ksum (hM (cN Z) (x % 10).toNat) 64 else hE (cN Z) (x % 10).toNat (x / 10 - 2).toNat) else -2
set_option maxHeartbeats 4000000 in
set_option maxRecDepth 100000 in
theorem k_image {G : kG} {d : Nat} {h : Nat → Option kC} {n : Nat} {Z : kCs} (g : rSt G) (z : rKI G h Z) (ok : kCok Z)  {x : Int} (hx : inI x) : kCall G mX9_image (d + 4) 0 0 [.ref (gB G + 0), .int (jI x)] h n (kQc G h n (.int (jI (a_image Z x))) (s_image Z x)) := by
  show kE G mX9_image (d + 4) 0 0 0 [some (.ref (gB G + 0)), some (.int (jI x))] [] h n _
  obtain ⟨⟨z0, ⟨f0, z28, z28f⟩, zu⟩, zp, zn, zi, zk, ⟨q, zq⟩, ⟨P, zP⟩, ⟨s, zs⟩, A9, E9, t9, zt⟩ := id z
  have zp1 := zp.1
  have zn1 := zn.1.1
  have zu1 := zu.1
  obtain ⟨okn, ⟨p0, p1, p2⟩, oki, okk⟩ := id ok
  refine e_iload_n rfl dX9_image_0 ?_
  refine eS1 mtX9_isImage msX9_isImage lkX9_272 dX9_image_1 rfl rfl (k_isImage (by first | assumption | (unfold inI at *; omega))) ?_
  dsimp only [Option.toList, List.cons_append, List.nil_append]
  refine e_ifneP (tgt := 10) dX9_image_4 (by decide) (fun c4 => ?_) (fun c4 => ?_)
  · refine e_aload_n rfl dX9_image_10 ?_
    refine e_getf fdX9_23 dX9_image_11 (by first | assumption | exact kup_s | exact kup_n (by omega) (by first | assumption | exact kup_s | exact kup_n (by omega) (by first | assumption | exact kup_s | exact kup_n (by omega) (by assumption)))) rfl ?_
    refine e_iload_n rfl dX9_image_14 ?_
    refine e_aald (j := 29 + 25 * x.toNat) dX9_image_15 (by first | assumption | exact kup_s | exact kup_n (by omega) (by first | assumption | exact kup_s | exact kup_n (by omega) (by first | assumption | exact kup_s | exact kup_n (by omega) (by assumption)))) (fun _ => rfl) rfl (by omega) (by omega) (z28f _ (by omega)) ?_
    refine e_aload_n rfl dX9_image_16 ?_
    refine e_getf fdX9_19 dX9_image_17 (by first | assumption | exact kup_s | exact kup_n (by omega) (by first | assumption | exact kup_s | exact kup_n (by omega) (by first | assumption | exact kup_s | exact kup_n (by omega) (by assumption)))) rfl ?_
    refine eV1R mtX2_copyFrom miX2_copyFrom lkX9_275 dX9_image_20 (zi x.toNat (by omega)).1.1 rfl rfl rfl (k_copyH zn (by omega) (zi x.toNat (by omega))) (fun r20 h20 n20 hp20 => ?_)
    obtain ⟨hr8, r8, hh8, hn8⟩ := hp20
    subst hr8
    subst hn8
    dsimp only [Option.toList, List.cons_append, List.nil_append]
    refine e_aload_n rfl dX9_image_23 ?_
    refine e_getf fdX9_27 dX9_image_24 ((hh8 0 (by omega)).trans z0) rfl ?_
    refine e_iload_n rfl dX9_image_27 ?_
    refine e_iconst dX9_image_28 ?_
    refine e_zast dX9_image_29 ((hh8 79 (by omega)).trans zk) (by omega) (by omega) (by decide) ?_
    refine e_iconst dX9_image_30 ?_
    refine e_ireturn dX9_image_31 rfl rfl ?_
    refine ⟨by unfold a_image; rw [if_pos (by omega)], ?_, fun j h1 _ => (kup_o (by omega)).trans (hh8 j (by omega)), by omega⟩
    have e9 : s_image Z x = (cN Z, cP Z, upH (cI Z) x.toNat (cN Z), up (cK Z) x.toNat 1) := if_pos (by omega)
    rw [e9]
    have hk : ∀ j, j ≠ 79 → (j < 29 + 25 * x.toNat ∨ 29 + 25 * x.toNat + 24 < j) → kup h20 79 (kza 2 (up (cK Z) x.toNat 1)) j = h j := fun j h1 h2 => (kup_o h1).trans (hh8 j h2)
    obtain ⟨r1, r2, r3, r4, r5, r6⟩ := id z
    refine ⟨rFx_cg r1 (hk _ (by omega) (by omega)) (hk _ (by omega) (by omega)) (fun j _ _ => hk j (by omega) (by omega)), rTx_cg r2 (hk _ (by omega) (by omega)) (hk _ (by omega) (by omega)), rHd_cg r3 (fun j _ _ => hk j (by omega) (by omega)), fun i hi => ?_, kup_s, rWk_cg r6 (fun j _ _ => hk j (by omega) (by omega))⟩
    show rHd G _ (29 + 25 * i) (upH (cI Z) x.toNat (cN Z) i)
    unfold upH
    by_cases e : i = x.toNat
    · rw [if_pos e, e]
      exact rHd_cg r8 (fun j _ _ => kup_o (by omega))
    · rw [if_neg e]
      exact rHd_cg (r4 i hi) (fun j _ _ => hk j (by omega) (by omega))
  · refine e_bipush (by decide) dX9_image_7 ?_
    refine e_ireturn dX9_image_9 rfl rfl ?_
    rw [s_imageN (by omega)]
    exact kQc_0 (by unfold a_image; (repeat' split) <;> first | rfl | (exfalso; omega)) z
set_option maxHeartbeats 4000000 in
set_option maxRecDepth 100000 in
theorem k_restore {G : kG} {d : Nat} {h : Nat → Option kC} {n : Nat} {Z : kCs} (g : rSt G) (z : rKI G h Z) (ok : kCok Z)  {x : Int} (hx : inI x) : kCall G mX9_restore (d + 4) 0 0 [.ref (gB G + 0), .int (jI x)] h n (kQc G h n (.int (jI (a_restore Z x))) (s_restore Z x)) := by
  show kE G mX9_restore (d + 4) 0 0 0 [some (.ref (gB G + 0)), some (.int (jI x))] [] h n _
  obtain ⟨⟨z0, ⟨f0, z28, z28f⟩, zu⟩, zp, zn, zi, zk, ⟨q, zq⟩, ⟨P, zP⟩, ⟨s, zs⟩, A9, E9, t9, zt⟩ := id z
  have zp1 := zp.1
  have zn1 := zn.1.1
  have zu1 := zu.1
  obtain ⟨okn, ⟨p0, p1, p2⟩, oki, okk⟩ := id ok
  refine e_iload_n rfl dX9_restore_0 ?_
  refine eS1 mtX9_isImage msX9_isImage lkX9_272 dX9_restore_1 rfl rfl (k_isImage (by first | assumption | (unfold inI at *; omega))) ?_
  dsimp only [Option.toList, List.cons_append, List.nil_append]
  refine e_ifneP (tgt := 10) dX9_restore_4 (by decide) (fun c4 => ?_) (fun c4 => ?_)
  · refine e_aload_n rfl dX9_restore_10 ?_
    refine e_getf fdX9_27 dX9_restore_11 (by first | assumption | exact kup_s | exact kup_n (by omega) (by first | assumption | exact kup_s | exact kup_n (by omega) (by first | assumption | exact kup_s | exact kup_n (by omega) (by assumption)))) rfl ?_
    refine e_iload_n rfl dX9_restore_14 ?_
    refine e_zald dX9_restore_15 (by first | assumption | exact kup_s | exact kup_n (by omega) (by first | assumption | exact kup_s | exact kup_n (by omega) (by first | assumption | exact kup_s | exact kup_n (by omega) (by assumption)))) (by omega) (by omega) ?_
    refine e_if_ne (tgt := 22) dX9_restore_16 (by decide) (by have := okk x.toNat (by omega); unfold inI; omega) (fun c16 => ?_) (fun c16 => ?_)
    · refine e_aload_n rfl dX9_restore_22 ?_
      refine e_getf fdX9_19 dX9_restore_23 (by first | assumption | exact kup_s | exact kup_n (by omega) (by first | assumption | exact kup_s | exact kup_n (by omega) (by first | assumption | exact kup_s | exact kup_n (by omega) (by assumption)))) rfl ?_
      refine e_aload_n rfl dX9_restore_26 ?_
      refine e_getf fdX9_23 dX9_restore_27 (by first | assumption | exact kup_s | exact kup_n (by omega) (by first | assumption | exact kup_s | exact kup_n (by omega) (by first | assumption | exact kup_s | exact kup_n (by omega) (by assumption)))) rfl ?_
      refine e_iload_n rfl dX9_restore_30 ?_
      refine e_aald (j := 29 + 25 * x.toNat) dX9_restore_31 (by first | assumption | exact kup_s | exact kup_n (by omega) (by first | assumption | exact kup_s | exact kup_n (by omega) (by first | assumption | exact kup_s | exact kup_n (by omega) (by assumption)))) (fun _ => rfl) rfl (by omega) (by omega) (z28f _ (by omega)) ?_
      refine eV1R mtX2_copyFrom miX2_copyFrom lkX9_275 dX9_restore_32 (by first | assumption | exact kup_s | exact kup_n (by omega) (by first | assumption | exact kup_s | exact kup_n (by omega) (by first | assumption | exact kup_s | exact kup_n (by omega) (by assumption)))) rfl rfl rfl (k_copyH (zi x.toNat (by omega)) (by omega) zn) (fun r32 h32 n32 hp32 => ?_)
      obtain ⟨hr8, r8, hh8, hn8⟩ := hp32
      subst hr8
      subst hn8
      dsimp only [Option.toList, List.cons_append, List.nil_append]
      refine e_iconst dX9_restore_35 ?_
      refine e_ireturn dX9_restore_36 rfl rfl ?_
      refine ⟨by unfold a_restore; rw [if_pos (by omega), if_neg (by assumption)], ?_, fun j h1 _ => hh8 j (by omega), by omega⟩
      have e9 : s_restore Z x = (cI Z x.toNat, Z.2) := if_pos ⟨by omega, by assumption⟩
      rw [e9]
      exact rKI_now z (fun j hj => hh8 j (by omega)) r8
    · refine e_bipush (by decide) dX9_restore_19 ?_
      refine e_ireturn dX9_restore_21 rfl rfl ?_
      rw [s_restoreN (by omega)]
      exact kQc_0 (by unfold a_restore; (repeat' split) <;> first | rfl | (exfalso; omega)) z
  · refine e_bipush (by decide) dX9_restore_7 ?_
    refine e_ireturn dX9_restore_9 rfl rfl ?_
    rw [s_restoreN (by omega)]
    exact kQc_0 (by unfold a_restore; (repeat' split) <;> first | rfl | (exfalso; omega)) z
set_option maxHeartbeats 4000000 in
set_option maxRecDepth 100000 in
theorem k_toldA {G : kG} {d : Nat} {h : Nat → Option kC} {n : Nat} {Z : kCs} (g : rSt G) (z : rKI G h Z) (ok : kCok Z) {x : Int} (hx : inI x) (c9 : ¬ (10 ≤ x ∧ x ≤ 45)) : kCall G mX9_told (d + 4) 0 0 [.ref (gB G + 0), .int (jI x)] h n (kQc G h n (.int (jI (a_told Z x))) (Z)) := by
  show kE G mX9_told (d + 4) 0 0 0 [some (.ref (gB G + 0)), some (.int (jI x)), none] [] h n _
  obtain ⟨⟨z0, ⟨f0, z28, z28f⟩, zu⟩, zp, zn, zi, zk, ⟨q, zq⟩, ⟨P, zP⟩, ⟨s, zs⟩, A9, E9, t9, zt⟩ := id z
  have zp1 := zp.1
  have zn1 := zn.1.1
  have zu1 := zu.1
  obtain ⟨okn, ⟨p0, p1, p2⟩, oki, okk⟩ := id ok
  have zr1 := zn.1.2.2.1.1
  have zg1 := zn.1.2.2.2.1.1
  refine e_iload_n rfl dX9_told_0 ?_
  refine e_if_ne (tgt := 12) dX9_told_1 (by decide) (by first | assumption | (unfold inI at *; omega)) (fun c1 => ?_) (fun c1 => ?_)
  · refine e_iload_n rfl dX9_told_12 ?_
    refine e_iconst dX9_told_13 ?_
    refine e_icmp_ne (tgt := 28) dX9_told_14 (by decide) (by first | assumption | (unfold inI at *; omega)) (by first | assumption | (unfold inI at *; omega)) (fun c14 => ?_) (fun c14 => ?_)
    · refine e_iload_n rfl dX9_told_28 ?_
      refine e_iconst dX9_told_29 ?_
      refine e_icmp_ne (tgt := 44) dX9_told_30 (by decide) (by first | assumption | (unfold inI at *; omega)) (by first | assumption | (unfold inI at *; omega)) (fun c30 => ?_) (fun c30 => ?_)
      · refine e_iload_n rfl dX9_told_44 ?_
        refine e_iconst dX9_told_45 ?_
        refine e_bipush (by decide) dX9_told_46 ?_
        refine eS3 mtX9_within msX9_within lkX9_69 dX9_told_48 rfl rfl (k_within (by first | assumption | (unfold inI at *; omega)) (by first | assumption | (unfold inI at *; omega)) (by first | assumption | (unfold inI at *; omega))) ?_
        dsimp only [Option.toList, List.cons_append, List.nil_append]
        refine e_ifeqP (tgt := 65) dX9_told_51 (by decide) (fun c51 => ?_) (fun c51 => ?_)
        · refine e_iload_n rfl dX9_told_65 ?_
          refine e_bipush (by decide) dX9_told_66 ?_
          refine e_bipush (by decide) dX9_told_68 ?_
          refine eS3 mtX9_within msX9_within lkX9_69 dX9_told_70 rfl rfl (k_within (by first | assumption | (unfold inI at *; omega)) (by first | assumption | (unfold inI at *; omega)) (by first | assumption | (unfold inI at *; omega))) ?_
          dsimp only [Option.toList, List.cons_append, List.nil_append]
          refine e_ifeqP (tgt := 90) dX9_told_73 (by decide) (fun c73 => ?_) (fun c73 => ?_)
          · refine e_null dX9_told_90 ?_
            refine e_astore_nN dX9_told_91 rfl rfl ?_
            dsimp only [List.set]
            refine e_aload_nN rfl dX9_told_92 ?_
            refine e_ifnonnullN dX9_told_93 ?_
            refine e_bipush (by decide) dX9_told_96 ?_
            refine e_ireturn dX9_told_98 rfl rfl ?_
            exact kQc_0 (by unfold a_told; (repeat' split) <;> first | rfl | (exfalso; omega)) z
          · exact absurd c73 (by omega)
        · refine e_aload_n rfl dX9_told_54 ?_
          refine e_getf fdX9_19 dX9_told_55 (by first | assumption | exact kup_s | exact kup_n (by omega) (by first | assumption | exact kup_s | exact kup_n (by omega) (by first | assumption | exact kup_s | exact kup_n (by omega) (by assumption)))) rfl ?_
          refine e_iload_n rfl dX9_told_58 ?_
          refine e_iconst dX9_told_59 ?_
          refine e_isub dX9_told_60 ?_
          refine eV1 mtX2_wayOf miX2_wayOf lkX9_97 dX9_told_61 (by first | assumption | exact kup_s | exact kup_n (by omega) (by first | assumption | exact kup_s | exact kup_n (by omega) (by first | assumption | exact kup_s | exact kup_n (by omega) (by assumption)))) rfl rfl rfl (k_wayOf zn.1 (by omega) (by omega)) ?_
          dsimp only [Option.toList, List.cons_append, List.nil_append]
          refine e_ireturn dX9_told_64 rfl rfl ?_
          exact kQc_0 (by unfold a_told; (repeat' split) <;> first | rfl | (exfalso; omega)) z
      · refine e_aload_n rfl dX9_told_33 ?_
        refine e_getf fdX9_19 dX9_told_34 (by first | assumption | exact kup_s | exact kup_n (by omega) (by first | assumption | exact kup_s | exact kup_n (by omega) (by first | assumption | exact kup_s | exact kup_n (by omega) (by assumption)))) rfl ?_
        refine e_getf fdX9_122 dX9_told_37 (by first | assumption | exact kup_s | exact kup_n (by omega) (by first | assumption | exact kup_s | exact kup_n (by omega) (by first | assumption | exact kup_s | exact kup_n (by omega) (by assumption)))) rfl ?_
        refine eV0 mtX7_pieces miX7_pieces lkX9_129 dX9_told_40 zn.1.2.2.2.1.1 rfl rfl rfl (k_pieces zn.1.2.2.2.1 okn.2.2.2.2.1 okn.2.2.2.2.2.1 okn.2.2.2.2.2.2.1) ?_
        dsimp only [Option.toList, List.cons_append, List.nil_append]
        refine e_ireturn dX9_told_43 rfl rfl ?_
        exact kQc_0 (by unfold a_told; (repeat' split) <;> first | rfl | (exfalso; omega)) z
    · refine e_aload_n rfl dX9_told_17 ?_
      refine e_getf fdX9_19 dX9_told_18 (by first | assumption | exact kup_s | exact kup_n (by omega) (by first | assumption | exact kup_s | exact kup_n (by omega) (by first | assumption | exact kup_s | exact kup_n (by omega) (by assumption)))) rfl ?_
      refine e_getf fdX9_119 dX9_told_21 (by first | assumption | exact kup_s | exact kup_n (by omega) (by first | assumption | exact kup_s | exact kup_n (by omega) (by first | assumption | exact kup_s | exact kup_n (by omega) (by assumption)))) rfl ?_
      refine eV0 mtX7_pieces miX7_pieces lkX9_129 dX9_told_24 zn.1.2.2.1.1 rfl rfl rfl (k_pieces zn.1.2.2.1 okn.2.2.2.1.1 okn.2.2.2.1.2.1 okn.2.2.2.1.2.2.1) ?_
      dsimp only [Option.toList, List.cons_append, List.nil_append]
      refine e_ireturn dX9_told_27 rfl rfl ?_
      exact kQc_0 (by unfold a_told; (repeat' split) <;> first | rfl | (exfalso; omega)) z
  · refine e_aload_n rfl dX9_told_4 ?_
    refine e_getf fdX9_10 dX9_told_5 (by first | assumption | exact kup_s | exact kup_n (by omega) (by first | assumption | exact kup_s | exact kup_n (by omega) (by first | assumption | exact kup_s | exact kup_n (by omega) (by assumption)))) rfl ?_
    refine e_getf fdX9_106 dX9_told_8 (by first | assumption | exact kup_s | exact kup_n (by omega) (by first | assumption | exact kup_s | exact kup_n (by omega) (by first | assumption | exact kup_s | exact kup_n (by omega) (by assumption)))) rfl ?_
    refine e_ireturn dX9_told_11 rfl rfl ?_
    exact kQc_0 (by unfold a_told; (repeat' split) <;> first | rfl | (exfalso; omega)) z
set_option maxHeartbeats 4000000 in
set_option maxRecDepth 100000 in
theorem k_toldB {G : kG} {d : Nat} {h : Nat → Option kC} {n : Nat} {Z : kCs} (g : rSt G) (z : rKI G h Z) (ok : kCok Z) {x : Int} (hx : inI x) (c9 : 10 ≤ x ∧ x ≤ 45) (c8 : x % 10 ≤ 5) : kCall G mX9_told (d + 4) 0 0 [.ref (gB G + 0), .int (jI x)] h n (kQc G h n (.int (jI (a_told Z x))) (Z)) := by
  show kE G mX9_told (d + 4) 0 0 0 [some (.ref (gB G + 0)), some (.int (jI x)), none] [] h n _
  obtain ⟨⟨z0, ⟨f0, z28, z28f⟩, zu⟩, zp, zn, zi, zk, ⟨q, zq⟩, ⟨P, zP⟩, ⟨s, zs⟩, A9, E9, t9, zt⟩ := id z
  have zp1 := zp.1
  have zn1 := zn.1.1
  have zu1 := zu.1
  obtain ⟨okn, ⟨p0, p1, p2⟩, oki, okk⟩ := id ok
  have zr1 := zn.1.2.2.1.1
  have zg1 := zn.1.2.2.2.1.1
  have zb := rHd_b zn (i := (x % 10).toNat) (by omega)
  have zb1 := zb.1
  refine e_iload_n rfl dX9_told_0 ?_
  refine e_if_ne (tgt := 12) dX9_told_1 (by decide) (by first | assumption | (unfold inI at *; omega)) (fun c1 => ?_) (fun c1 => ?_)
  · refine e_iload_n rfl dX9_told_12 ?_
    refine e_iconst dX9_told_13 ?_
    refine e_icmp_ne (tgt := 28) dX9_told_14 (by decide) (by first | assumption | (unfold inI at *; omega)) (by first | assumption | (unfold inI at *; omega)) (fun c14 => ?_) (fun c14 => ?_)
    · refine e_iload_n rfl dX9_told_28 ?_
      refine e_iconst dX9_told_29 ?_
      refine e_icmp_ne (tgt := 44) dX9_told_30 (by decide) (by first | assumption | (unfold inI at *; omega)) (by first | assumption | (unfold inI at *; omega)) (fun c30 => ?_) (fun c30 => ?_)
      · refine e_iload_n rfl dX9_told_44 ?_
        refine e_iconst dX9_told_45 ?_
        refine e_bipush (by decide) dX9_told_46 ?_
        refine eS3 mtX9_within msX9_within lkX9_69 dX9_told_48 rfl rfl (k_within (by first | assumption | (unfold inI at *; omega)) (by first | assumption | (unfold inI at *; omega)) (by first | assumption | (unfold inI at *; omega))) ?_
        dsimp only [Option.toList, List.cons_append, List.nil_append]
        refine e_ifeqP (tgt := 65) dX9_told_51 (by decide) (fun c51 => ?_) (fun c51 => ?_)
        · refine e_iload_n rfl dX9_told_65 ?_
          refine e_bipush (by decide) dX9_told_66 ?_
          refine e_bipush (by decide) dX9_told_68 ?_
          refine eS3 mtX9_within msX9_within lkX9_69 dX9_told_70 rfl rfl (k_within (by first | assumption | (unfold inI at *; omega)) (by first | assumption | (unfold inI at *; omega)) (by first | assumption | (unfold inI at *; omega))) ?_
          dsimp only [Option.toList, List.cons_append, List.nil_append]
          refine e_ifeqP (tgt := 90) dX9_told_73 (by decide) (fun c73 => ?_) (fun c73 => ?_)
          · exact absurd c73 (by omega)
          · refine e_aload_n rfl dX9_told_76 ?_
            refine e_getf fdX9_19 dX9_told_77 (by first | assumption | exact kup_s | exact kup_n (by omega) (by first | assumption | exact kup_s | exact kup_n (by omega) (by first | assumption | exact kup_s | exact kup_n (by omega) (by assumption)))) rfl ?_
            refine e_iload_n rfl dX9_told_80 ?_
            refine e_bipush (by decide) dX9_told_81 ?_
            refine e_iremN (by first | assumption | (unfold inI at *; omega)) (by first | assumption | (unfold inI at *; omega)) (by omega) (by omega) dX9_told_83 ?_
            refine eV1 mtX2_bookAt miX2_bookAt lkX9_61 dX9_told_84 (by first | assumption | exact kup_s | exact kup_n (by omega) (by first | assumption | exact kup_s | exact kup_n (by omega) (by first | assumption | exact kup_s | exact kup_n (by omega) (by assumption)))) rfl rfl rfl (k_bookAt zn.1 (by omega) (by omega)) ?_
            dsimp only [Option.toList, List.cons_append, List.nil_append]
            refine e_goto (tgt := 91) dX9_told_87 (by decide) ?_
            refine e_astore_n dX9_told_91 rfl rfl ?_
            dsimp only [List.set]
            refine e_aload_n rfl dX9_told_92 ?_
            refine e_ifnonnull (tgt := 99) dX9_told_93 (by decide) ?_
            refine e_iload_n rfl dX9_told_99 ?_
            refine e_bipush (by decide) dX9_told_100 ?_
            refine e_icmp_ge (tgt := 112) dX9_told_102 (by decide) (by first | assumption | (unfold inI at *; omega)) (by first | assumption | (unfold inI at *; omega)) (fun c102 => ?_) (fun c102 => ?_)
            · refine e_aload_n rfl dX9_told_112 ?_
              refine e_iload_n rfl dX9_told_113 ?_
              refine e_bipush (by decide) dX9_told_114 ?_
              refine e_idivN (by first | assumption | (unfold inI at *; omega)) (by first | assumption | (unfold inI at *; omega)) (by omega) (by omega) dX9_told_116 ?_
              refine e_iconst dX9_told_117 ?_
              refine e_isub dX9_told_118 ?_
              refine eV1 mtX0_entry miX0_entry lkX9_88 dX9_told_119 (by first | assumption | exact kup_s | exact kup_n (by omega) (by first | assumption | exact kup_s | exact kup_n (by omega) (by first | assumption | exact kup_s | exact kup_n (by omega) (by assumption)))) rfl rfl rfl (k_entry zb (by omega) (by omega)) ?_
              dsimp only [Option.toList, List.cons_append, List.nil_append]
              refine e_ireturn dX9_told_122 rfl rfl ?_
              exact kQc_0 (by unfold a_told; (repeat' split) <;> first | rfl | (exfalso; omega)) z
            · refine e_aload_n rfl dX9_told_105 ?_
              refine e_getf fdX9_205 dX9_told_106 (by first | assumption | exact kup_s | exact kup_n (by omega) (by first | assumption | exact kup_s | exact kup_n (by omega) (by first | assumption | exact kup_s | exact kup_n (by omega) (by assumption)))) rfl ?_
              refine e_goto (tgt := 122) dX9_told_109 (by decide) ?_
              refine e_ireturn dX9_told_122 rfl rfl ?_
              exact kQc_0 (by unfold a_told; (repeat' split) <;> first | rfl | (exfalso; omega)) z
        · exact absurd c51 (by omega)
      · exact absurd c30 (by omega)
    · exact absurd c14 (by omega)
  · exact absurd c1 (by omega)
set_option maxHeartbeats 4000000 in
set_option maxRecDepth 100000 in
theorem k_toldC {G : kG} {d : Nat} {h : Nat → Option kC} {n : Nat} {Z : kCs} (g : rSt G) (z : rKI G h Z) (ok : kCok Z) {x : Int} (hx : inI x) (c9 : 10 ≤ x ∧ x ≤ 45) (c8 : ¬ x % 10 ≤ 5) : kCall G mX9_told (d + 4) 0 0 [.ref (gB G + 0), .int (jI x)] h n (kQc G h n (.int (jI (a_told Z x))) (Z)) := by
  show kE G mX9_told (d + 4) 0 0 0 [some (.ref (gB G + 0)), some (.int (jI x)), none] [] h n _
  obtain ⟨⟨z0, ⟨f0, z28, z28f⟩, zu⟩, zp, zn, zi, zk, ⟨q, zq⟩, ⟨P, zP⟩, ⟨s, zs⟩, A9, E9, t9, zt⟩ := id z
  have zp1 := zp.1
  have zn1 := zn.1.1
  have zu1 := zu.1
  obtain ⟨okn, ⟨p0, p1, p2⟩, oki, okk⟩ := id ok
  have zr1 := zn.1.2.2.1.1
  have zg1 := zn.1.2.2.2.1.1
  refine e_iload_n rfl dX9_told_0 ?_
  refine e_if_ne (tgt := 12) dX9_told_1 (by decide) (by first | assumption | (unfold inI at *; omega)) (fun c1 => ?_) (fun c1 => ?_)
  · refine e_iload_n rfl dX9_told_12 ?_
    refine e_iconst dX9_told_13 ?_
    refine e_icmp_ne (tgt := 28) dX9_told_14 (by decide) (by first | assumption | (unfold inI at *; omega)) (by first | assumption | (unfold inI at *; omega)) (fun c14 => ?_) (fun c14 => ?_)
    · refine e_iload_n rfl dX9_told_28 ?_
      refine e_iconst dX9_told_29 ?_
      refine e_icmp_ne (tgt := 44) dX9_told_30 (by decide) (by first | assumption | (unfold inI at *; omega)) (by first | assumption | (unfold inI at *; omega)) (fun c30 => ?_) (fun c30 => ?_)
      · refine e_iload_n rfl dX9_told_44 ?_
        refine e_iconst dX9_told_45 ?_
        refine e_bipush (by decide) dX9_told_46 ?_
        refine eS3 mtX9_within msX9_within lkX9_69 dX9_told_48 rfl rfl (k_within (by first | assumption | (unfold inI at *; omega)) (by first | assumption | (unfold inI at *; omega)) (by first | assumption | (unfold inI at *; omega))) ?_
        dsimp only [Option.toList, List.cons_append, List.nil_append]
        refine e_ifeqP (tgt := 65) dX9_told_51 (by decide) (fun c51 => ?_) (fun c51 => ?_)
        · refine e_iload_n rfl dX9_told_65 ?_
          refine e_bipush (by decide) dX9_told_66 ?_
          refine e_bipush (by decide) dX9_told_68 ?_
          refine eS3 mtX9_within msX9_within lkX9_69 dX9_told_70 rfl rfl (k_within (by first | assumption | (unfold inI at *; omega)) (by first | assumption | (unfold inI at *; omega)) (by first | assumption | (unfold inI at *; omega))) ?_
          dsimp only [Option.toList, List.cons_append, List.nil_append]
          refine e_ifeqP (tgt := 90) dX9_told_73 (by decide) (fun c73 => ?_) (fun c73 => ?_)
          · exact absurd c73 (by omega)
          · refine e_aload_n rfl dX9_told_76 ?_
            refine e_getf fdX9_19 dX9_told_77 (by first | assumption | exact kup_s | exact kup_n (by omega) (by first | assumption | exact kup_s | exact kup_n (by omega) (by first | assumption | exact kup_s | exact kup_n (by omega) (by assumption)))) rfl ?_
            refine e_iload_n rfl dX9_told_80 ?_
            refine e_bipush (by decide) dX9_told_81 ?_
            refine e_iremN (by first | assumption | (unfold inI at *; omega)) (by first | assumption | (unfold inI at *; omega)) (by omega) (by omega) dX9_told_83 ?_
            refine eV1 mtX2_bookAt miX2_bookAt lkX9_61 dX9_told_84 (by first | assumption | exact kup_s | exact kup_n (by omega) (by first | assumption | exact kup_s | exact kup_n (by omega) (by first | assumption | exact kup_s | exact kup_n (by omega) (by assumption)))) rfl rfl rfl (k_bookAtN zn.1 (by unfold inI; omega) (by omega)) ?_
            dsimp only [Option.toList, List.cons_append, List.nil_append]
            refine e_goto (tgt := 91) dX9_told_87 (by decide) ?_
            refine e_astore_nN dX9_told_91 rfl rfl ?_
            dsimp only [List.set]
            refine e_aload_nN rfl dX9_told_92 ?_
            refine e_ifnonnullN dX9_told_93 ?_
            refine e_bipush (by decide) dX9_told_96 ?_
            refine e_ireturn dX9_told_98 rfl rfl ?_
            exact kQc_0 (by unfold a_told; (repeat' split) <;> first | rfl | (exfalso; omega)) z
        · exact absurd c51 (by omega)
      · exact absurd c30 (by omega)
    · exact absurd c14 (by omega)
  · exact absurd c1 (by omega)
theorem k_told {G : kG} {d : Nat} {h : Nat → Option kC} {n : Nat} {Z : kCs} (g : rSt G) (z : rKI G h Z) (ok : kCok Z) {x : Int} (hx : inI x) : kCall G mX9_told (d + 4) 0 0 [.ref (gB G + 0), .int (jI x)] h n (kQc G h n (.int (jI (a_told Z x))) (Z)) := by
  by_cases c9 : 10 ≤ x ∧ x ≤ 45
  · by_cases c8 : x % 10 ≤ 5
    · exact k_toldB g z ok hx c9 c8
    · exact k_toldC g z ok hx c9 c8
  · exact k_toldA g z ok hx c9
