/-! WORLDS FROM A SEED -/
def kpick (w : Int) : Nat → Int → Int → Int
  | 0, k, _ => k
  | f + 1, k, left => if left < kch w k then k else kpick w f (k + 1) (left - kch w k)
def ksd (s : Int) : Int := (s * 75 + 74) % 65537
def kp3 (W : Nat → Int) (x s : Int) : Int × Int := if ¬ x % 4 = 0 then (if ksd s % 10 < W 1 then (kinch x, ksd s) else (x, ksd s)) else (x, s)
def kp2 (W : Nat → Int) (x s : Int) : Int × Int := if W 0 ≤ ksd s % 10 then (-6, ksd s) else kp3 W x (ksd s)
def kp1 (W : Nat → Int) (l x s : Int) : Int × Int := if x < l then (if l - x ≤ W 2 then (if ksd s % 10 < W 3 then (l, ksd s) else kp2 W x (ksd s)) else kp2 W x s) else kp3 W x s
theorem ksd_in (s : Int) : 0 ≤ ksd s ∧ ksd s ≤ 65536 := by
  unfold ksd
  omega
theorem kp3_in {W : Nat → Int} {x s : Int} (h0 : 0 ≤ x) (h1 : x ≤ 63) (s0 : 0 ≤ s) (s1 : s ≤ 65536) : (0 ≤ (kp3 W x s).1 ∧ (kp3 W x s).1 ≤ 63) ∧ 0 ≤ (kp3 W x s).2 ∧ (kp3 W x s).2 ≤ 65536 := by
  have := kinch_in h0 h1
  have := ksd_in s
  unfold kp3
  (repeat' split) <;> refine ⟨⟨?_, ?_⟩, ?_, ?_⟩ <;> dsimp only <;> omega
theorem kp2_in {W : Nat → Int} {x s : Int} (h0 : 0 ≤ x) (h1 : x ≤ 63) : ((kp2 W x s).1 = -6 ∨ 0 ≤ (kp2 W x s).1 ∧ (kp2 W x s).1 ≤ 63) ∧ 0 ≤ (kp2 W x s).2 ∧ (kp2 W x s).2 ≤ 65536 := by
  have h2 := ksd_in s
  have h3 := kp3_in (W := W) h0 h1 h2.1 h2.2
  unfold kp2
  split
  · refine ⟨Or.inl rfl, ?_, ?_⟩ <;> dsimp only <;> omega
  · exact ⟨Or.inr h3.1, h3.2⟩
theorem kp1_in {W : Nat → Int} {l x s : Int} (l0 : 0 ≤ l) (l1 : l ≤ 63) (h0 : 0 ≤ x) (h1 : x ≤ 63) (s0 : 0 ≤ s) (s1 : s ≤ 65536) : ((kp1 W l x s).1 = -6 ∨ 0 ≤ (kp1 W l x s).1 ∧ (kp1 W l x s).1 ≤ 63) ∧ 0 ≤ (kp1 W l x s).2 ∧ (kp1 W l x s).2 ≤ 65536 := by
  have h2 := ksd_in s
  have h3 := kp3_in (W := W) h0 h1 s0 s1
  have h4 := kp2_in (W := W) (s := s) h0 h1
  have h5 := kp2_in (W := W) (s := ksd s) h0 h1
  unfold kp1
  split
  · split
    · split
      · refine ⟨Or.inr ⟨?_, ?_⟩, ?_, ?_⟩ <;> dsimp only <;> omega
      · exact h5
    · exact h4
  · exact ⟨Or.inr h3.1, h3.2⟩
/-- one man more: the MEN, the seed -/
def kmx (m w s : Int) : Int := m - w + kpick w (2 * w).toNat 0 (ksd s % 4 ^ w.toNat)
def kmk1 (W : Nat → Int) (l m w : Int) (q : (Nat → Int) × Int) : (Nat → Int) × Int :=
  if 0 ≤ kmx m w q.2 ∧ kmx m w q.2 ≤ 63 then
    (if (kp1 W l (kmx m w q.2) (ksd q.2)).1 = -6 then (q.1, (kp1 W l (kmx m w q.2) (ksd q.2)).2)
     else (up q.1 (kp1 W l (kmx m w q.2) (ksd q.2)).1.toNat (q.1 (kp1 W l (kmx m w q.2) (ksd q.2)).1.toNat + 1), (kp1 W l (kmx m w q.2) (ksd q.2)).2))
  else (q.1, ksd q.2)
def kmk (W : Nat → Int) (l m w s : Int) : Nat → (Nat → Int) × Int
  | 0 => (fun _ => 0, s)
  | i + 1 => kmk1 W l m w (kmk W l m w s i)
theorem kpick_in {w : Int} : ∀ {f : Nat} {k left : Int}, k ≤ kpick w f k left ∧ kpick w f k left ≤ k + f
  | 0, k, left => by unfold kpick; omega
  | f + 1, k, left => by
    have := kpick_in (w := w) (f := f) (k := k + 1) (left := left - kch w k)
    unfold kpick
    split <;> omega
theorem kmk1_in (W : Nat → Int) {l m w : Int} {q : (Nat → Int) × Int} {c : Int} (l0 : 0 ≤ l) (l1 : l ≤ 63) (ih : ∀ j : Nat, 0 ≤ q.1 j ∧ q.1 j ≤ c) : (∀ j : Nat, 0 ≤ (kmk1 W l m w q).1 j ∧ (kmk1 W l m w q).1 j ≤ c + 1) ∧ 0 ≤ (kmk1 W l m w q).2 ∧ (kmk1 W l m w q).2 ≤ 65536 := by
  have h1 := ksd_in q.2
  unfold kmk1
  split
  · rename_i c9
    have h2 := kp1_in (W := W) l0 l1 c9.1 c9.2 h1.1 h1.2
    split
    · exact ⟨fun j => by have := ih j; dsimp only; omega, h2.2⟩
    · refine ⟨fun j => ?_, h2.2⟩
      have a1 := ih j
      have a2 := ih (kp1 W l (kmx m w q.2) (ksd q.2)).1.toNat
      dsimp only [up]
      split <;> omega
  · exact ⟨fun j => by have := ih j; dsimp only; omega, h1⟩
theorem kmk_in (W : Nat → Int) {l m w s : Int} (l0 : 0 ≤ l) (l1 : l ≤ 63) (s0 : 0 ≤ s) (s1 : s ≤ 65536) : ∀ i : Nat, (∀ j : Nat, 0 ≤ (kmk W l m w s i).1 j ∧ (kmk W l m w s i).1 j ≤ i) ∧ 0 ≤ (kmk W l m w s i).2 ∧ (kmk W l m w s i).2 ≤ 65536
  | 0 => ⟨fun j => by show 0 ≤ (0 : Int) ∧ (0 : Int) ≤ 0; omega, s0, s1⟩
  | i + 1 => by
    have ih := kmk_in W (m := m) (w := w) l0 l1 s0 s1 i
    exact kmk1_in W l0 l1 ih.1
set_option maxHeartbeats 4000000 in
set_option maxRecDepth 100000 in
theorem k_heightOf_lp {G : kG} {d : Nat} {h : Nat → Option kC} {n : Nat} {a b : Nat} (r : rHu G h a b) {m w x : Int} (m0 : 0 ≤ m) (m1 : m ≤ 63) (w1 : 1 ≤ w) (w8 : w ≤ 8)  : ∀ (f : Nat) (k left : Int), 0 ≤ k → k + f = 2 * w → -100000 ≤ left ∧ left ≤ 100000 → kE G mX3_heightOf (d + 1) 0 0 6 [some (.ref (gB G + a)), some (.int (jI m)), some (.int (jI w)), some (.int (jI x)), some (.int (jI left)), some (.int (jI k))] [] h n (kre (some (.int (jI (m - w + kpick w f k left)))) h n) := by
  obtain ⟨r1, r2, r3⟩ := id r
  intro f
  induction f with
  | zero =>
    intro k left g1 g2 g3
    refine e_iload rfl dX3_heightOf_6 ?_
    refine e_iconst dX3_heightOf_8 ?_
    refine e_iload_n rfl dX3_heightOf_9 ?_
    refine e_imul dX3_heightOf_10 ?_
    refine e_icmp_ge (tgt := 44) dX3_heightOf_11 (by decide) (by first | assumption | (unfold inI at *; omega)) (by first | assumption | (unfold inI at *; omega)) (fun c11 => ?_) (fun c11 => ?_)
    · refine e_iload_n rfl dX3_heightOf_44 ?_
      refine e_iload_n rfl dX3_heightOf_45 ?_
      refine e_iadd dX3_heightOf_46 ?_
      refine e_ireturn dX3_heightOf_47 rfl rfl ?_
      exact ⟨by unfold kpick; rw [show m + w = m - w + k by omega], rfl, rfl⟩
    · exact absurd c11 (by omega)
  | succ f ih =>
    intro k left g1 g2 g3
    have q9 := kch_in w1 w8 k
    refine e_iload rfl dX3_heightOf_6 ?_
    refine e_iconst dX3_heightOf_8 ?_
    refine e_iload_n rfl dX3_heightOf_9 ?_
    refine e_imul dX3_heightOf_10 ?_
    refine e_icmp_ge (tgt := 44) dX3_heightOf_11 (by decide) (by first | assumption | (unfold inI at *; omega)) (by first | assumption | (unfold inI at *; omega)) (fun c11 => ?_) (fun c11 => ?_)
    · exact absurd c11 (by omega)
    · refine e_iload rfl dX3_heightOf_14 ?_
      refine e_aload_n rfl dX3_heightOf_16 ?_
      refine e_iload_n rfl dX3_heightOf_17 ?_
      refine e_iload rfl dX3_heightOf_18 ?_
      refine eV2 mtX3_waysOf miX3_waysOf lkX3_16 dX3_heightOf_20 (by first | assumption | exact kup_s | exact kup_n (by omega) (by first | assumption | exact kup_s | exact kup_n (by omega) (by first | assumption | exact kup_s | exact kup_n (by omega) (by assumption)))) rfl rfl rfl (k_waysOf (by assumption) (by first | assumption | (unfold inI at *; omega)) (by first | assumption | (unfold inI at *; omega)) (by omega) (by omega)) ?_
      dsimp only [Option.toList, List.cons_append, List.nil_append]
      refine e_isub dX3_heightOf_23 ?_
      refine e_istore dX3_heightOf_24 rfl rfl ?_
      dsimp only [List.set]
      refine e_iload rfl dX3_heightOf_26 ?_
      refine e_if_ge (tgt := 38) dX3_heightOf_28 (by decide) (by first | assumption | (unfold inI at *; omega)) (fun c28 => ?_) (fun c28 => ?_)
      · refine e_iinc dX3_heightOf_38 rfl rfl ?_
        dsimp only [List.set]
        refine e_goto (tgt := 6) dX3_heightOf_41 (by decide) ?_
        refine kE.mono (ih (k + 1) _ (by omega) (by omega) (by omega)) (fun r h' n' hq => ?_)
        obtain ⟨y1, y2, y3⟩ := hq
        refine ⟨?_, y2, y3⟩
        rw [y1]
        conv => rhs; unfold kpick
        rw [if_neg (by omega)]
      · refine e_iload_n rfl dX3_heightOf_31 ?_
        refine e_iload_n rfl dX3_heightOf_32 ?_
        refine e_isub dX3_heightOf_33 ?_
        refine e_iload rfl dX3_heightOf_34 ?_
        refine e_iadd dX3_heightOf_36 ?_
        refine e_ireturn dX3_heightOf_37 rfl rfl ?_
        exact ⟨by unfold kpick; rw [if_pos (by omega)], rfl, rfl⟩
set_option maxHeartbeats 4000000 in
set_option maxRecDepth 100000 in
theorem k_heightOf {G : kG} {d : Nat} {h : Nat → Option kC} {n : Nat} {a b : Nat} (r : rHu G h a b) {m w x : Int} (m0 : 0 ≤ m) (m1 : m ≤ 63) (w1 : 1 ≤ w) (w8 : w ≤ 8) (x0 : 0 ≤ x) (x1 : x ≤ 70000) : kCall G mX3_heightOf (d + 1) 0 0 [.ref (gB G + a), .int (jI m), .int (jI w), .int (jI x)] h n (kre (some (.int (jI (m - w + kpick w (2 * w).toNat 0 x)))) h n) := by
  show kE G mX3_heightOf (d + 1) 0 0 0 [some (.ref (gB G + a)), some (.int (jI m)), some (.int (jI w)), some (.int (jI x)), none, none] [] h n _
  obtain ⟨r1, r2, r3⟩ := id r
  refine e_iload_n rfl dX3_heightOf_0 ?_
  refine e_istore dX3_heightOf_1 rfl rfl ?_
  dsimp only [List.set]
  refine e_iconst dX3_heightOf_3 ?_
  refine e_istore dX3_heightOf_4 rfl rfl ?_
  dsimp only [List.set]
  exact k_heightOf_lp r m0 m1 w1 w8 (2 * w).toNat 0 x (by omega) (by omega) (by omega)
def kMa (G : kG) (s : Int) : kC := kob 3 [.ref (gB G + 80), .int (jI s)]
set_option maxHeartbeats 4000000 in
set_option maxRecDepth 100000 in
theorem k_draw {G : kG} {d : Nat} {h : Nat → Option kC} {n : Nat} {s : Int} (hm : h 93 = some (kMa G s)) (s0 : 0 ≤ s) (s1 : s ≤ 65536) {y : Int} (y0 : 0 < y) (y1 : y ≤ 65536) : kCall G mX4_draw d 0 0 [.ref (gB G + 93), .int (jI y)] h n (kre (some (.int (jI (ksd s % y)))) (kup h 93 (kMa G (ksd s))) n) := by
  show kE G mX4_draw d 0 0 0 [some (.ref (gB G + 93)), some (.int (jI y))] [] h n _
  unfold kMa at hm
  have z9 := ksd_in s
  refine e_aload_n rfl dX4_draw_0 ?_
  refine e_aload_n rfl dX4_draw_1 ?_
  refine e_getf fdX4_15 dX4_draw_2 (by first | assumption | exact kup_s | exact kup_n (by omega) (by first | assumption | exact kup_s | exact kup_n (by omega) (by first | assumption | exact kup_s | exact kup_n (by omega) (by assumption)))) rfl ?_
  refine e_bipush (by decide) dX4_draw_5 ?_
  refine e_imul dX4_draw_7 ?_
  refine e_bipush (by decide) dX4_draw_8 ?_
  refine e_iadd dX4_draw_10 ?_
  refine e_ldc (z := 65537) kcX4_19 (by decide) dX4_draw_11 ?_
  refine e_iremN (by first | assumption | (unfold inI at *; omega)) (by first | assumption | (unfold inI at *; omega)) (by omega) (by omega) dX4_draw_13 ?_
  refine e_putf pfX4_15 dX4_draw_14 (by first | assumption | exact kup_s | exact kup_n (by omega) (by first | assumption | exact kup_s | exact kup_n (by omega) (by first | assumption | exact kup_s | exact kup_n (by omega) (by assumption)))) rfl rfl rfl ?_
  dsimp only [List.set]
  rw [show (s * 75 + 74) % 65537 = ksd s from rfl]
  refine e_iload_n rfl dX4_draw_17 ?_
  refine e_if_gt (tgt := 25) dX4_draw_18 (by decide) (by first | assumption | (unfold inI at *; omega)) (fun c18 => ?_) (fun c18 => ?_)
  · refine e_aload_n rfl dX4_draw_25 ?_
    refine e_getf fdX4_15 dX4_draw_26 (by first | assumption | exact kup_s | exact kup_n (by omega) (by first | assumption | exact kup_s | exact kup_n (by omega) (by first | assumption | exact kup_s | exact kup_n (by omega) (by assumption)))) rfl ?_
    refine e_iload_n rfl dX4_draw_29 ?_
    refine e_iremN (by first | assumption | (unfold inI at *; omega)) (by first | assumption | (unfold inI at *; omega)) (by omega) (by omega) dX4_draw_30 ?_
    refine e_ireturn dX4_draw_31 rfl rfl ?_
    exact ⟨rfl, rfl, rfl⟩
  · exact absurd c18 (by omega)
theorem rTx_up {G : kG} {h : Nat → Option kC} {t s i : Nat} {c : Int} {F : Nat → Int} {e : kC} (r : rTx G h t s c F) (h1 : i ≠ t) (h2 : i ≠ s) : rTx G (kup h i e) t s c F := ⟨kup_n (by omega) r.1, kup_n (by omega) r.2⟩
theorem rHn_up {G : kG} {h : Nat → Option kC} {a i : Nat} {S : kHd} {e : kC} (r : rHn G h a S) (h1 : i < a ∨ a + 6 < i) : rHn G (kup h i e) a S := by
  obtain ⟨r1, ⟨f9, r2, r2f⟩, r3, r4, r5⟩ := r
  exact ⟨kup_n (by omega) r1, ⟨f9, kup_n (by omega) r2, r2f⟩, rTx_up r3 (by omega) (by omega), rTx_up r4 (by omega) (by omega), kup_n (by omega) r5⟩
theorem rHd_up {G : kG} {h : Nat → Option kC} {a i : Nat} {S : kHd} {e : kC} (r : rHd G h a S) (h1 : i < a ∨ a + 24 < i) : rHd G (kup h i e) a S := ⟨rHn_up r.1 (by omega), fun j hj => rBk_up (r.2 j hj) (by omega) (by omega) (by omega)⟩
def kplP (G : kG) (h : Nat → Option kC) (n : Nat) (q : Int × Int) : kPo := kre (some (.int (jI q.1))) (kup h 93 (kMa G q.2)) n
set_option maxHeartbeats 4000000 in
set_option maxRecDepth 100000 in
theorem k_place61 {G : kG} {d : Nat} {h : Nat → Option kC} {n : Nat} {s : Int} (hm : h 93 = some (kMa G s)) (s0 : 0 ≤ s) (s1 : s ≤ 65536) {a : Nat} {S : kHd} (r : rHn G h a S) (ha : a + 6 < 80) (ok : kHok S) {l x : Int} (l0 : 0 ≤ l) (l1 : l ≤ 63) (x0 : 0 ≤ x) (x1 : x ≤ 63) (e4 : Option Value) : kE G mX4_placeOf (d + 2) 0 0 61 [some (.ref (gB G + 93)), some (.int (jI x)), some (.int (jI l)), some (.ref (gB G + a)), e4] [] h n (kplP G h n (kp3 (hW S) x s)) := by
  unfold kMa at hm
  obtain ⟨⟨w00, w01⟩, ⟨w10, w11⟩, ⟨w20, w21⟩, ⟨w30, w31⟩, ⟨w40, w41⟩⟩ := id ok.2.2.1
  have z9 := ksd_in s
  have z8 := ksd_in (ksd s)
  have z7 := ksd_in (ksd (ksd s))
  refine e_iload_n rfl dX4_placeOf_61 ?_
  refine e_iconst dX4_placeOf_62 ?_
  refine e_iremN (by first | assumption | (unfold inI at *; omega)) (by first | assumption | (unfold inI at *; omega)) (by omega) (by omega) dX4_placeOf_63 ?_
  refine e_if_eq (tgt := 86) dX4_placeOf_64 (by decide) (by first | assumption | (unfold inI at *; omega)) (fun c64 => ?_) (fun c64 => ?_)
  · refine e_iload_n rfl dX4_placeOf_86 ?_
    refine e_ireturn dX4_placeOf_87 rfl rfl ?_
    have e9 : kp3 (hW S) x s = if ¬ x % 4 = 0 then (if ksd s % 10 < hW S 1 then (kinch x, ksd s) else (x, ksd s)) else (x, s) := rfl
    first | rw [if_neg (show ¬ ¬ x % 4 = 0 by omega)] at e9 | rw [if_pos (show ¬ x % 4 = 0 by omega), if_pos (show ksd s % 10 < hW S 1 by omega)] at e9 | rw [if_pos (show ¬ x % 4 = 0 by omega), if_neg (show ¬ ksd s % 10 < hW S 1 by omega)] at e9
    unfold kplP
    rw [e9]
    first | exact ⟨rfl, rfl, rfl⟩ | exact ⟨rfl, (kup_same hm).symm, rfl⟩
  · refine e_aload_n rfl dX4_placeOf_67 ?_
    refine e_bipush (by decide) dX4_placeOf_68 ?_
    refine eV1 mtX4_draw miX4_draw lkX4_31 dX4_placeOf_70 (by first | exact hm | exact kup_s) rfl rfl rfl (k_draw (by first | exact hm | exact kup_s) (by omega) (by omega) (by omega) (by omega)) ?_
    dsimp only [Option.toList, List.cons_append, List.nil_append]
    try rw [kup_kup]
    refine e_aload_n rfl dX4_placeOf_73 ?_
    refine e_iconst dX4_placeOf_74 ?_
    refine eV1 mtX2_wayOf miX2_wayOf lkX4_59 dX4_placeOf_75 (by first | exact r.1 | exact kup_n (by omega) r.1) rfl rfl rfl (k_wayOf (by first | exact r | exact rHn_up r (by omega)) (by omega) (by omega)) ?_
    dsimp only [Option.toList, List.cons_append, List.nil_append]
    rw [show (1 : Int).toNat = 1 from rfl]
    refine e_icmp_ge (tgt := 86) dX4_placeOf_78 (by decide) (by first | assumption | (unfold inI at *; omega)) (by first | assumption | (unfold inI at *; omega)) (fun c78 => ?_) (fun c78 => ?_)
    · refine e_iload_n rfl dX4_placeOf_86 ?_
      refine e_ireturn dX4_placeOf_87 rfl rfl ?_
      have e9 : kp3 (hW S) x s = if ¬ x % 4 = 0 then (if ksd s % 10 < hW S 1 then (kinch x, ksd s) else (x, ksd s)) else (x, s) := rfl
      first | rw [if_neg (show ¬ ¬ x % 4 = 0 by omega)] at e9 | rw [if_pos (show ¬ x % 4 = 0 by omega), if_pos (show ksd s % 10 < hW S 1 by omega)] at e9 | rw [if_pos (show ¬ x % 4 = 0 by omega), if_neg (show ¬ ksd s % 10 < hW S 1 by omega)] at e9
      unfold kplP
      rw [e9]
      first | exact ⟨rfl, rfl, rfl⟩ | exact ⟨rfl, (kup_same hm).symm, rfl⟩
    · refine e_iload_n rfl dX4_placeOf_81 ?_
      refine eSN1 mtX9_nearestInch msX9_nearestInch lnX4_62 dX4_placeOf_82 rfl rfl (k_nearestInch (by omega) (by omega)) ?_
      dsimp only [Option.toList, List.cons_append, List.nil_append]
      refine e_ireturn dX4_placeOf_85 rfl rfl ?_
      have e9 : kp3 (hW S) x s = if ¬ x % 4 = 0 then (if ksd s % 10 < hW S 1 then (kinch x, ksd s) else (x, ksd s)) else (x, s) := rfl
      first | rw [if_neg (show ¬ ¬ x % 4 = 0 by omega)] at e9 | rw [if_pos (show ¬ x % 4 = 0 by omega), if_pos (show ksd s % 10 < hW S 1 by omega)] at e9 | rw [if_pos (show ¬ x % 4 = 0 by omega), if_neg (show ¬ ksd s % 10 < hW S 1 by omega)] at e9
      unfold kplP
      rw [e9]
      first | exact ⟨rfl, rfl, rfl⟩ | exact ⟨rfl, (kup_same hm).symm, rfl⟩
set_option maxHeartbeats 4000000 in
set_option maxRecDepth 100000 in
theorem k_place44 {G : kG} {d : Nat} {h : Nat → Option kC} {n : Nat} {s : Int} (hm : h 93 = some (kMa G s)) (s0 : 0 ≤ s) (s1 : s ≤ 65536) {a : Nat} {S : kHd} (r : rHn G h a S) (ha : a + 6 < 80) (ok : kHok S) {l x : Int} (l0 : 0 ≤ l) (l1 : l ≤ 63) (x0 : 0 ≤ x) (x1 : x ≤ 63) (e4 : Option Value) : kE G mX4_placeOf (d + 2) 0 0 44 [some (.ref (gB G + 93)), some (.int (jI x)), some (.int (jI l)), some (.ref (gB G + a)), e4] [] h n (kplP G h n (kp2 (hW S) x s)) := by
  unfold kMa at hm
  obtain ⟨⟨w00, w01⟩, ⟨w10, w11⟩, ⟨w20, w21⟩, ⟨w30, w31⟩, ⟨w40, w41⟩⟩ := id ok.2.2.1
  have z9 := ksd_in s
  have z8 := ksd_in (ksd s)
  have z7 := ksd_in (ksd (ksd s))
  refine e_aload_n rfl dX4_placeOf_44 ?_
  refine e_bipush (by decide) dX4_placeOf_45 ?_
  refine eV1 mtX4_draw miX4_draw lkX4_31 dX4_placeOf_47 (by first | exact hm | exact kup_s) rfl rfl rfl (k_draw (by first | exact hm | exact kup_s) (by omega) (by omega) (by omega) (by omega)) ?_
  dsimp only [Option.toList, List.cons_append, List.nil_append]
  try rw [kup_kup]
  refine e_aload_n rfl dX4_placeOf_50 ?_
  refine e_iconst dX4_placeOf_51 ?_
  refine eV1 mtX2_wayOf miX2_wayOf lkX4_59 dX4_placeOf_52 (by first | exact r.1 | exact kup_n (by omega) r.1) rfl rfl rfl (k_wayOf (by first | exact r | exact rHn_up r (by omega)) (by omega) (by omega)) ?_
  dsimp only [Option.toList, List.cons_append, List.nil_append]
  rw [show (0 : Int).toNat = 0 from rfl]
  refine e_icmp_lt (tgt := 61) dX4_placeOf_55 (by decide) (by first | assumption | (unfold inI at *; omega)) (by first | assumption | (unfold inI at *; omega)) (fun c55 => ?_) (fun c55 => ?_)
  · have e9 : kp2 (hW S) x s = kp3 (hW S) x (ksd s) := if_neg (by omega)
    rw [e9]
    refine kE.mono (k_place61 kup_s (by omega) (by omega) (rHn_up r (by omega)) ha ok l0 l1 x0 x1 _) (fun r h' n' hq => ?_)
    obtain ⟨y1, y2, y3⟩ := hq
    exact ⟨y1, by rw [y2, kup_kup], y3⟩
  · refine e_bipush (by decide) dX4_placeOf_58 ?_
    refine e_ireturn dX4_placeOf_60 rfl rfl ?_
    have e9 : kp2 (hW S) x s = (-6, ksd s) := if_pos (by omega)
    unfold kplP
    rw [e9]
    exact ⟨rfl, rfl, rfl⟩
set_option maxHeartbeats 4000000 in
set_option maxRecDepth 100000 in
theorem k_placeOf {G : kG} {d : Nat} {h : Nat → Option kC} {n : Nat} {s : Int} (hm : h 93 = some (kMa G s)) (s0 : 0 ≤ s) (s1 : s ≤ 65536) {a : Nat} {S : kHd} (r : rHn G h a S) (ha : a + 6 < 80) (ok : kHok S) {l x : Int} (l0 : 0 ≤ l) (l1 : l ≤ 63) (x0 : 0 ≤ x) (x1 : x ≤ 63)  : kCall G mX4_placeOf (d + 2) 0 0 [.ref (gB G + 93), .int (jI x), .int (jI l), .ref (gB G + a)] h n (kplP G h n (kp1 (hW S) l x s)) := by
  show kE G mX4_placeOf (d + 2) 0 0 0 [some (.ref (gB G + 93)), some (.int (jI x)), some (.int (jI l)), some (.ref (gB G + a)), none] [] h n _
  unfold kMa at hm
  obtain ⟨⟨w00, w01⟩, ⟨w10, w11⟩, ⟨w20, w21⟩, ⟨w30, w31⟩, ⟨w40, w41⟩⟩ := id ok.2.2.1
  have z9 := ksd_in s
  have z8 := ksd_in (ksd s)
  have z7 := ksd_in (ksd (ksd s))
  refine e_iload_n rfl dX4_placeOf_0 ?_
  refine e_iload_n rfl dX4_placeOf_1 ?_
  refine e_icmp_ge (tgt := 61) dX4_placeOf_2 (by decide) (by first | assumption | (unfold inI at *; omega)) (by first | assumption | (unfold inI at *; omega)) (fun c2 => ?_) (fun c2 => ?_)
  · have e9 : kp1 (hW S) l x s = kp3 (hW S) x s := if_neg (by omega)
    rw [e9]
    exact k_place61 hm s0 s1 r ha ok l0 l1 x0 x1 _
  · refine e_iload_n rfl dX4_placeOf_5 ?_
    refine e_iload_n rfl dX4_placeOf_6 ?_
    refine e_isub dX4_placeOf_7 ?_
    refine e_aload_n rfl dX4_placeOf_8 ?_
    refine e_iconst dX4_placeOf_9 ?_
    refine eV1 mtX2_wayOf miX2_wayOf lkX4_59 dX4_placeOf_10 (by first | exact r.1 | exact kup_n (by omega) r.1) rfl rfl rfl (k_wayOf (by first | exact r | exact rHn_up r (by omega)) (by omega) (by omega)) ?_
    dsimp only [Option.toList, List.cons_append, List.nil_append]
    rw [show (2 : Int).toNat = 2 from rfl]
    refine e_icmp_gt (tgt := 20) dX4_placeOf_13 (by decide) (by first | assumption | (unfold inI at *; omega)) (by first | assumption | (unfold inI at *; omega)) (fun c13 => ?_) (fun c13 => ?_)
    · refine e_iconst dX4_placeOf_20 ?_
      refine e_istore dX4_placeOf_21 rfl rfl ?_
      dsimp only [List.set]
      refine e_iload rfl dX4_placeOf_23 ?_
      refine e_if_eq (tgt := 44) dX4_placeOf_25 (by decide) (by first | assumption | (unfold inI at *; omega)) (fun c25 => ?_) (fun c25 => ?_)
      · first | (exfalso; omega) | (rw [show kp1 (hW S) l x s = kp2 (hW S) x s by unfold kp1; rw [if_pos (by omega), if_neg (by omega)]]; exact k_place44 hm s0 s1 r ha ok l0 l1 x0 x1 _) | (rw [show kp1 (hW S) l x s = kp2 (hW S) x (ksd s) by unfold kp1; rw [if_pos (by omega), if_pos (by omega), if_neg (by omega)]]; exact kE.mono (k_place44 kup_s (by omega) (by omega) (rHn_up r (by omega)) ha ok l0 l1 x0 x1 _) (fun r h' n' hq => by obtain ⟨y1, y2, y3⟩ := hq; exact ⟨y1, by rw [y2, kup_kup], y3⟩))
      · refine e_aload_n rfl dX4_placeOf_28 ?_
        refine e_bipush (by decide) dX4_placeOf_29 ?_
        refine eV1 mtX4_draw miX4_draw lkX4_31 dX4_placeOf_31 (by first | exact hm | exact kup_s) rfl rfl rfl (k_draw (by first | exact hm | exact kup_s) (by omega) (by omega) (by omega) (by omega)) ?_
        dsimp only [Option.toList, List.cons_append, List.nil_append]
        try rw [kup_kup]
        refine e_aload_n rfl dX4_placeOf_34 ?_
        refine e_iconst dX4_placeOf_35 ?_
        refine eV1 mtX2_wayOf miX2_wayOf lkX4_59 dX4_placeOf_36 (by first | exact r.1 | exact kup_n (by omega) r.1) rfl rfl rfl (k_wayOf (by first | exact r | exact rHn_up r (by omega)) (by omega) (by omega)) ?_
        dsimp only [Option.toList, List.cons_append, List.nil_append]
        rw [show (3 : Int).toNat = 3 from rfl]
        refine e_icmp_ge (tgt := 44) dX4_placeOf_39 (by decide) (by first | assumption | (unfold inI at *; omega)) (by first | assumption | (unfold inI at *; omega)) (fun c39 => ?_) (fun c39 => ?_)
        · first | (exfalso; omega) | (rw [show kp1 (hW S) l x s = kp2 (hW S) x s by unfold kp1; rw [if_pos (by omega), if_neg (by omega)]]; exact k_place44 hm s0 s1 r ha ok l0 l1 x0 x1 _) | (rw [show kp1 (hW S) l x s = kp2 (hW S) x (ksd s) by unfold kp1; rw [if_pos (by omega), if_pos (by omega), if_neg (by omega)]]; exact kE.mono (k_place44 kup_s (by omega) (by omega) (rHn_up r (by omega)) ha ok l0 l1 x0 x1 _) (fun r h' n' hq => by obtain ⟨y1, y2, y3⟩ := hq; exact ⟨y1, by rw [y2, kup_kup], y3⟩))
        · refine e_iload_n rfl dX4_placeOf_42 ?_
          refine e_ireturn dX4_placeOf_43 rfl rfl ?_
          have e9 : kp1 (hW S) l x s = (l, ksd s) := by unfold kp1; rw [if_pos (by omega), if_pos (by omega), if_pos (by omega)]
          unfold kplP
          rw [e9]
          exact ⟨rfl, rfl, rfl⟩
    · refine e_iconst dX4_placeOf_16 ?_
      refine e_goto (tgt := 21) dX4_placeOf_17 (by decide) ?_
      refine e_istore dX4_placeOf_21 rfl rfl ?_
      dsimp only [List.set]
      refine e_iload rfl dX4_placeOf_23 ?_
      refine e_if_eq (tgt := 44) dX4_placeOf_25 (by decide) (by first | assumption | (unfold inI at *; omega)) (fun c25 => ?_) (fun c25 => ?_)
      · first | (exfalso; omega) | (rw [show kp1 (hW S) l x s = kp2 (hW S) x s by unfold kp1; rw [if_pos (by omega), if_neg (by omega)]]; exact k_place44 hm s0 s1 r ha ok l0 l1 x0 x1 _) | (rw [show kp1 (hW S) l x s = kp2 (hW S) x (ksd s) by unfold kp1; rw [if_pos (by omega), if_pos (by omega), if_neg (by omega)]]; exact kE.mono (k_place44 kup_s (by omega) (by omega) (rHn_up r (by omega)) ha ok l0 l1 x0 x1 _) (fun r h' n' hq => by obtain ⟨y1, y2, y3⟩ := hq; exact ⟨y1, by rw [y2, kup_kup], y3⟩))
      · refine e_aload_n rfl dX4_placeOf_28 ?_
        refine e_bipush (by decide) dX4_placeOf_29 ?_
        refine eV1 mtX4_draw miX4_draw lkX4_31 dX4_placeOf_31 (by first | exact hm | exact kup_s) rfl rfl rfl (k_draw (by first | exact hm | exact kup_s) (by omega) (by omega) (by omega) (by omega)) ?_
        dsimp only [Option.toList, List.cons_append, List.nil_append]
        try rw [kup_kup]
        refine e_aload_n rfl dX4_placeOf_34 ?_
        refine e_iconst dX4_placeOf_35 ?_
        refine eV1 mtX2_wayOf miX2_wayOf lkX4_59 dX4_placeOf_36 (by first | exact r.1 | exact kup_n (by omega) r.1) rfl rfl rfl (k_wayOf (by first | exact r | exact rHn_up r (by omega)) (by omega) (by omega)) ?_
        dsimp only [Option.toList, List.cons_append, List.nil_append]
        rw [show (3 : Int).toNat = 3 from rfl]
        refine e_icmp_ge (tgt := 44) dX4_placeOf_39 (by decide) (by first | assumption | (unfold inI at *; omega)) (by first | assumption | (unfold inI at *; omega)) (fun c39 => ?_) (fun c39 => ?_)
        · first | (exfalso; omega) | (rw [show kp1 (hW S) l x s = kp2 (hW S) x s by unfold kp1; rw [if_pos (by omega), if_neg (by omega)]]; exact k_place44 hm s0 s1 r ha ok l0 l1 x0 x1 _) | (rw [show kp1 (hW S) l x s = kp2 (hW S) x (ksd s) by unfold kp1; rw [if_pos (by omega), if_pos (by omega), if_neg (by omega)]]; exact kE.mono (k_place44 kup_s (by omega) (by omega) (rHn_up r (by omega)) ha ok l0 l1 x0 x1 _) (fun r h' n' hq => by obtain ⟨y1, y2, y3⟩ := hq; exact ⟨y1, by rw [y2, kup_kup], y3⟩))
        · refine e_iload_n rfl dX4_placeOf_42 ?_
          refine e_ireturn dX4_placeOf_43 rfl rfl ?_
          have e9 : kp1 (hW S) l x s = (l, ksd s) := by unfold kp1; rw [if_pos (by omega), if_pos (by omega), if_pos (by omega)]
          unfold kplP
          rw [e9]
          exact ⟨rfl, rfl, rfl⟩
/-- the heap with Maker's and a BOOK's cells told -/
def kfh (G : kG) (h : Nat → Option kC) (b : Nat) (s : Int) (A : Nat → Int) : Nat → Option kC := kup (kup (kup h 93 (kMa G s)) (b + 1) (kia 64 A)) b (kob 0 [.ref (gB G + (b + 1)), .ref (gB G + (b + 2)), .int (jI (ksum A 64))])
theorem kfh_s {G : kG} {h : Nat → Option kC} {b : Nat} {s s' : Int} {A : Nat → Int} (hb : b + 1 < 93 ∨ 93 < b) : kup (kfh G h b s A) 93 (kMa G s') = kfh G h b s' A := by
  unfold kfh
  rw [kup_swap (by omega), kup_swap (i := b + 1) (by omega), kup_kup]
theorem kfh_A {G : kG} {h : Nat → Option kC} {b : Nat} {s : Int} {A A' : Nat → Int} {t : Int} (ht : t = ksum A' 64) : kup (kup (kfh G h b s A) b (kob 0 [.ref (gB G + (b + 1)), .ref (gB G + (b + 2)), .int (jI t)])) (b + 1) (kia 64 A') = kfh G h b s A' := by
  unfold kfh
  rw [kup_kup, kup_swap (by omega), kup_kup, ht]
theorem kfh_93 {G : kG} {h : Nat → Option kC} {b : Nat} {s : Int} {A : Nat → Int} (hb : b + 1 < 93 ∨ 93 < b) : kfh G h b s A 93 = some (kMa G s) := kup_n (by omega) (kup_n (by omega) kup_s)
theorem kfh_b {G : kG} {h : Nat → Option kC} {b : Nat} {s : Int} {A : Nat → Int} {E : Nat → Int} (hb : b + 2 < 93 ∨ 93 < b) (he : h (b + 2) = some (kia 3 E)) : rBk G (kfh G h b s A) b (b + 1) (b + 2) A E (ksum A 64) := ⟨kup_s, kup_n (by omega) kup_s, kup_n (by omega) (kup_n (by omega) (kup_n (by omega) he))⟩
theorem kfh_n {G : kG} {h : Nat → Option kC} {b : Nat} {s : Int} {A : Nat → Int} {S : kHd} (hb : 9 < b) (r : rHn G h 3 S) : rHn G (kfh G h b s A) 3 S := rHn_up (rHn_up (rHn_up r (by omega)) (by omega)) (by omega)
theorem kfh_u {G : kG} {h : Nat → Option kC} {b : Nat} {s : Int} {A : Nat → Int} (hb : b + 2 < 80 ∨ 93 < b) (r : rHu G h 80 81) : rHu G (kfh G h b s A) 80 81 := rHu_up (rHu_up (rHu_up r (by omega) (by omega)) (by omega) (by omega)) (by omega) (by omega)
set_option maxHeartbeats 4000000 in
set_option maxRecDepth 100000 in
theorem k_fillM_lp {G : kG} {d : Nat} {h : Nat → Option kC} {n : Nat} {S : kHd} (rn : rHn G h 3 S) (ru : rHu G h 80 81) (ok : kHok S) {b : Nat} {E : Nat → Int} (he : h (b + 2) = some (kia 3 E)) (qe : kEok E) (hb9 : 9 < b) (hb : b + 2 < 80 ∨ 93 < b) {m w s n9 : Int} (m0 : 0 ≤ m) (m1 : m ≤ 63) (w1 : 1 ≤ w) (w8 : w ≤ 8) (s0 : 0 ≤ s) (s1 : s ≤ 65536) (n0 : 0 ≤ n9) (n1 : n9 ≤ 200)  : ∀ (f : Nat) (i : Nat) (z : Int) (e10 e11 : Option Value), z = (i : Int) → (i : Int) ≤ n9 → n9 - (i : Int) ≤ f → kE G mX4_fill (d + 4) 0 0 27 [some (.ref (gB G + 93)), some (.ref (gB G + b)), some (.ref (gB G + 3)), some (.int (jI s)), some (.int (jI m)), some (.int (jI w)), some (.int (jI n9)), some (.int (jI (kln E (hR S)))), some (.int (jI (4 ^ w.toNat : Int))), some (.int (jI z)), e10, e11] [] (kfh G h b (kmk (hW S) (kln E (hR S)) m w s i).2 (kmk (hW S) (kln E (hR S)) m w s i).1) n (kre (some (.int (jI (ksum (kmk (hW S) (kln E (hR S)) m w s n9.toNat).1 64)))) (kfh G h b (kmk (hW S) (kln E (hR S)) m w s n9.toNat).2 (kmk (hW S) (kln E (hR S)) m w s n9.toNat).1) n) := by
  have tl := kln_in (E := E) ok.2.2.2.1
  have t4 : (4 : Int) ≤ 4 ^ w.toNat ∧ (4 : Int) ^ w.toNat ≤ 65536 := by rcases (show w = 1 ∨ w = 2 ∨ w = 3 ∨ w = 4 ∨ w = 5 ∨ w = 6 ∨ w = 7 ∨ w = 8 by omega) with q | q | q | q | q | q | q | q <;> subst q <;> decide
  intro f
  induction f with
  | zero =>
    intro i z e10 e11 g1 g2 g3
    refine e_iload rfl dX4_fill_27 ?_
    refine e_iload rfl dX4_fill_29 ?_
    refine e_icmp_ge (tgt := 104) dX4_fill_31 (by decide) (by first | assumption | (unfold inI at *; omega)) (by first | assumption | (unfold inI at *; omega)) (fun c31 => ?_) (fun c31 => ?_)
    · refine e_aload_n rfl dX4_fill_104 ?_
      refine e_getf fdX4_56 dX4_fill_105 (kfh_b (by omega) he).1 rfl ?_
      refine e_ireturn dX4_fill_108 rfl rfl ?_
      exact ⟨by rw [show i = n9.toNat by omega], by rw [show i = n9.toNat by omega], rfl⟩
    · exact absurd c31 (by omega)
  | succ f ih =>
    intro i z e10 e11 g1 g2 g3
    subst g1
    have q9 := kmk_in (hW S) (m := m) (w := w) tl.1 tl.2 s0 s1 i
    have q8 := ksd_in (kmk (hW S) (kln E (hR S)) m w s i).2
    have q7 := kpick_in (w := w) (f := (2 * w).toNat) (k := 0) (left := ksd (kmk (hW S) (kln E (hR S)) m w s i).2 % 4 ^ w.toNat)
    have q6 := Int.emod_nonneg (ksd (kmk (hW S) (kln E (hR S)) m w s i).2) (show (4 ^ w.toNat : Int) ≠ 0 by omega)
    have q5 := Int.emod_lt_of_pos (ksd (kmk (hW S) (kln E (hR S)) m w s i).2) (show (0 : Int) < 4 ^ w.toNat by omega)
    refine e_iload rfl dX4_fill_27 ?_
    refine e_iload rfl dX4_fill_29 ?_
    refine e_icmp_ge (tgt := 104) dX4_fill_31 (by decide) (by first | assumption | (unfold inI at *; omega)) (by first | assumption | (unfold inI at *; omega)) (fun c31 => ?_) (fun c31 => ?_)
    · refine e_aload_n rfl dX4_fill_104 ?_
      refine e_getf fdX4_56 dX4_fill_105 (kfh_b (by omega) he).1 rfl ?_
      refine e_ireturn dX4_fill_108 rfl rfl ?_
      exact ⟨by rw [show i = n9.toNat by omega], by rw [show i = n9.toNat by omega], rfl⟩
    · refine e_aload_n rfl dX4_fill_34 ?_
      refine e_getf fdX4_9 dX4_fill_35 (kfh_93 (by omega)) rfl ?_
      refine e_iload rfl dX4_fill_38 ?_
      refine e_iload rfl dX4_fill_40 ?_
      refine e_aload_n rfl dX4_fill_42 ?_
      refine e_iload rfl dX4_fill_43 ?_
      refine eV1 mtX4_draw miX4_draw lkX4_31 dX4_fill_45 (kfh_93 (by omega)) rfl rfl rfl (k_draw (kfh_93 (by omega)) (by omega) (by omega) (by omega) (by omega)) ?_
      dsimp only [Option.toList, List.cons_append, List.nil_append]
      rw [kfh_s (by omega)]
      refine eV3 mtX3_heightOf miX3_heightOf lkX4_35 dX4_fill_48 (kfh_u hb ru).1 rfl rfl rfl (k_heightOf (kfh_u hb ru) m0 m1 w1 w8 (by omega) (by omega)) ?_
      dsimp only [Option.toList, List.cons_append, List.nil_append]
      rw [show m - w + kpick w (2 * w).toNat 0 (ksd (kmk (hW S) (kln E (hR S)) m w s i).2 % 4 ^ w.toNat) = kmx m w (kmk (hW S) (kln E (hR S)) m w s i).2 from rfl]
      have q4 : -8 ≤ kmx m w (kmk (hW S) (kln E (hR S)) m w s i).2 ∧ kmx m w (kmk (hW S) (kln E (hR S)) m w s i).2 ≤ 80 := by unfold kmx; omega
      refine e_istore dX4_fill_51 rfl rfl ?_
      dsimp only [List.set]
      refine e_iload rfl dX4_fill_53 ?_
      refine eSN1 mtX9_isHeight msX9_isHeight lnX4_41 dX4_fill_55 rfl rfl (k_isHeight (by first | assumption | (unfold inI at *; omega))) ?_
      dsimp only [Option.toList, List.cons_append, List.nil_append]
      refine e_ifeqP (tgt := 73) dX4_fill_58 (by decide) (fun c58 => ?_) (fun c58 => ?_)
      · refine e_bipush (by decide) dX4_fill_73 ?_
        refine e_istore dX4_fill_75 rfl rfl ?_
        dsimp only [List.set]
        refine e_iload rfl dX4_fill_77 ?_
        refine e_bipush (by decide) dX4_fill_79 ?_
        refine e_icmp_eq (tgt := 98) dX4_fill_81 (by decide) (by first | assumption | (unfold inI at *; omega)) (by first | assumption | (unfold inI at *; omega)) (fun c81 => ?_) (fun c81 => ?_)
        · refine e_iinc dX4_fill_98 rfl rfl ?_
          dsimp only [List.set]
          refine e_goto (tgt := 27) dX4_fill_101 (by decide) ?_
          first | (exfalso; omega) | (have q2 := fun e11 => ih (i + 1) ((i : Int) + 1) (some (.int (jI (kmx m w (kmk (hW S) (kln E (hR S)) m w s i).2)))) e11 (by omega) (by omega) (by omega); have e9 : kmk (hW S) (kln E (hR S)) m w s (i + 1) = kmk1 (hW S) (kln E (hR S)) m w (kmk (hW S) (kln E (hR S)) m w s i) := rfl; unfold kmk1 at e9; (first | rw [if_pos (show 0 ≤ kmx m w (kmk (hW S) (kln E (hR S)) m w s i).2 ∧ kmx m w (kmk (hW S) (kln E (hR S)) m w s i).2 ≤ 63 by omega), if_pos (by omega)] at e9 | rw [if_pos (show 0 ≤ kmx m w (kmk (hW S) (kln E (hR S)) m w s i).2 ∧ kmx m w (kmk (hW S) (kln E (hR S)) m w s i).2 ≤ 63 by omega), if_neg (by omega)] at e9 | rw [if_neg (show ¬ (0 ≤ kmx m w (kmk (hW S) (kln E (hR S)) m w s i).2 ∧ kmx m w (kmk (hW S) (kln E (hR S)) m w s i).2 ≤ 63) by omega)] at e9); rw [e9] at q2; exact q2 _)
        · refine e_aload_n rfl dX4_fill_84 ?_
          refine e_iload rfl dX4_fill_85 ?_
          refine e_aload_n rfl dX4_fill_87 ?_
          refine e_iload rfl dX4_fill_88 ?_
          refine eV1 mtX0_menAt miX0_menAt lkX4_49 dX4_fill_90 (kfh_b (by omega) he).1 rfl rfl rfl (k_menAtB (kfh_b (by omega) he) (by omega) (by omega)) ?_
          dsimp only [Option.toList, List.cons_append, List.nil_append]
          refine e_iconst dX4_fill_93 ?_
          refine e_iadd dX4_fill_94 ?_
          refine eV2 mtX0_put miX0_put lkX4_52 dX4_fill_95 (kfh_b (by omega) he).1 rfl rfl rfl (k_put (kfh_b (by omega) he) (by omega) (by omega) (by omega)) ?_
          dsimp only [Option.toList, List.cons_append, List.nil_append]
          rw [kfh_A (by rw [ksum_up (by omega)]; omega)]
          refine e_iinc dX4_fill_98 rfl rfl ?_
          dsimp only [List.set]
          refine e_goto (tgt := 27) dX4_fill_101 (by decide) ?_
          first | (exfalso; omega) | (have q2 := fun e11 => ih (i + 1) ((i : Int) + 1) (some (.int (jI (kmx m w (kmk (hW S) (kln E (hR S)) m w s i).2)))) e11 (by omega) (by omega) (by omega); have e9 : kmk (hW S) (kln E (hR S)) m w s (i + 1) = kmk1 (hW S) (kln E (hR S)) m w (kmk (hW S) (kln E (hR S)) m w s i) := rfl; unfold kmk1 at e9; (first | rw [if_pos (show 0 ≤ kmx m w (kmk (hW S) (kln E (hR S)) m w s i).2 ∧ kmx m w (kmk (hW S) (kln E (hR S)) m w s i).2 ≤ 63 by omega), if_pos (by omega)] at e9 | rw [if_pos (show 0 ≤ kmx m w (kmk (hW S) (kln E (hR S)) m w s i).2 ∧ kmx m w (kmk (hW S) (kln E (hR S)) m w s i).2 ≤ 63 by omega), if_neg (by omega)] at e9 | rw [if_neg (show ¬ (0 ≤ kmx m w (kmk (hW S) (kln E (hR S)) m w s i).2 ∧ kmx m w (kmk (hW S) (kln E (hR S)) m w s i).2 ≤ 63) by omega)] at e9); rw [e9] at q2; exact q2 _)
      · refine e_aload_n rfl dX4_fill_61 ?_
        refine e_iload rfl dX4_fill_62 ?_
        refine e_iload rfl dX4_fill_64 ?_
        refine e_aload_n rfl dX4_fill_66 ?_
        refine eV3 mtX4_placeOf miX4_placeOf lkX4_45 dX4_fill_67 (kfh_93 (by omega)) rfl rfl rfl (k_placeOf (kfh_93 (by omega)) (by omega) (by omega) (kfh_n hb9 rn) (by omega) ok tl.1 tl.2 (by omega) (by omega)) ?_
        dsimp only [Option.toList, List.cons_append, List.nil_append]
        have q3 := kp1_in (W := hW S) (l := kln E (hR S)) (x := kmx m w (kmk (hW S) (kln E (hR S)) m w s i).2) (s := ksd (kmk (hW S) (kln E (hR S)) m w s i).2) tl.1 tl.2 (by omega) (by omega) (by omega) (by omega)
        rw [kfh_s (by omega)]
        refine e_goto (tgt := 75) dX4_fill_70 (by decide) ?_
        refine e_istore dX4_fill_75 rfl rfl ?_
        dsimp only [List.set]
        refine e_iload rfl dX4_fill_77 ?_
        refine e_bipush (by decide) dX4_fill_79 ?_
        refine e_icmp_eq (tgt := 98) dX4_fill_81 (by decide) (by first | assumption | (unfold inI at *; omega)) (by first | assumption | (unfold inI at *; omega)) (fun c81 => ?_) (fun c81 => ?_)
        · refine e_iinc dX4_fill_98 rfl rfl ?_
          dsimp only [List.set]
          refine e_goto (tgt := 27) dX4_fill_101 (by decide) ?_
          first | (exfalso; omega) | (have q2 := fun e11 => ih (i + 1) ((i : Int) + 1) (some (.int (jI (kmx m w (kmk (hW S) (kln E (hR S)) m w s i).2)))) e11 (by omega) (by omega) (by omega); have e9 : kmk (hW S) (kln E (hR S)) m w s (i + 1) = kmk1 (hW S) (kln E (hR S)) m w (kmk (hW S) (kln E (hR S)) m w s i) := rfl; unfold kmk1 at e9; (first | rw [if_pos (show 0 ≤ kmx m w (kmk (hW S) (kln E (hR S)) m w s i).2 ∧ kmx m w (kmk (hW S) (kln E (hR S)) m w s i).2 ≤ 63 by omega), if_pos (by omega)] at e9 | rw [if_pos (show 0 ≤ kmx m w (kmk (hW S) (kln E (hR S)) m w s i).2 ∧ kmx m w (kmk (hW S) (kln E (hR S)) m w s i).2 ≤ 63 by omega), if_neg (by omega)] at e9 | rw [if_neg (show ¬ (0 ≤ kmx m w (kmk (hW S) (kln E (hR S)) m w s i).2 ∧ kmx m w (kmk (hW S) (kln E (hR S)) m w s i).2 ≤ 63) by omega)] at e9); rw [e9] at q2; exact q2 _)
        · refine e_aload_n rfl dX4_fill_84 ?_
          refine e_iload rfl dX4_fill_85 ?_
          refine e_aload_n rfl dX4_fill_87 ?_
          refine e_iload rfl dX4_fill_88 ?_
          refine eV1 mtX0_menAt miX0_menAt lkX4_49 dX4_fill_90 (kfh_b (by omega) he).1 rfl rfl rfl (k_menAtB (kfh_b (by omega) he) (by omega) (by omega)) ?_
          dsimp only [Option.toList, List.cons_append, List.nil_append]
          refine e_iconst dX4_fill_93 ?_
          refine e_iadd dX4_fill_94 ?_
          refine eV2 mtX0_put miX0_put lkX4_52 dX4_fill_95 (kfh_b (by omega) he).1 rfl rfl rfl (k_put (kfh_b (by omega) he) (by omega) (by omega) (by omega)) ?_
          dsimp only [Option.toList, List.cons_append, List.nil_append]
          rw [kfh_A (by rw [ksum_up (by omega)]; omega)]
          refine e_iinc dX4_fill_98 rfl rfl ?_
          dsimp only [List.set]
          refine e_goto (tgt := 27) dX4_fill_101 (by decide) ?_
          first | (exfalso; omega) | (have q2 := fun e11 => ih (i + 1) ((i : Int) + 1) (some (.int (jI (kmx m w (kmk (hW S) (kln E (hR S)) m w s i).2)))) e11 (by omega) (by omega) (by omega); have e9 : kmk (hW S) (kln E (hR S)) m w s (i + 1) = kmk1 (hW S) (kln E (hR S)) m w (kmk (hW S) (kln E (hR S)) m w s i) := rfl; unfold kmk1 at e9; (first | rw [if_pos (show 0 ≤ kmx m w (kmk (hW S) (kln E (hR S)) m w s i).2 ∧ kmx m w (kmk (hW S) (kln E (hR S)) m w s i).2 ≤ 63 by omega), if_pos (by omega)] at e9 | rw [if_pos (show 0 ≤ kmx m w (kmk (hW S) (kln E (hR S)) m w s i).2 ∧ kmx m w (kmk (hW S) (kln E (hR S)) m w s i).2 ≤ 63 by omega), if_neg (by omega)] at e9 | rw [if_neg (show ¬ (0 ≤ kmx m w (kmk (hW S) (kln E (hR S)) m w s i).2 ∧ kmx m w (kmk (hW S) (kln E (hR S)) m w s i).2 ≤ 63) by omega)] at e9); rw [e9] at q2; exact q2 _)
set_option maxHeartbeats 4000000 in
set_option maxRecDepth 100000 in
theorem k_fillM {G : kG} {d : Nat} {h : Nat → Option kC} {n : Nat} {S : kHd} (rn : rHn G h 3 S) (ru : rHu G h 80 81) (ok : kHok S) {b : Nat} {A E : Nat → Int} {t s9 : Int} (hm : h 93 = some (kMa G s9)) (rb : rBk G h b (b + 1) (b + 2) A E t) (qe : kEok E) (hb9 : 9 < b) (hb : b + 2 < 80 ∨ 93 < b) {m w s n9 : Int} (m0 : 0 ≤ m) (m1 : m ≤ 63) (w1 : 1 ≤ w) (w8 : w ≤ 8) (s0 : 0 ≤ s) (s1 : s ≤ 65536) (n0 : 0 ≤ n9) (n1 : n9 ≤ 200)  : kCall G mX4_fill (d + 4) 0 0 [.ref (gB G + 93), .ref (gB G + b), .ref (gB G + 3), .int (jI s), .int (jI m), .int (jI w), .int (jI n9)] h n (kre (some (.int (jI (ksum (kmk (hW S) (kln E (hR S)) m w s n9.toNat).1 64)))) (kfh G h b (kmk (hW S) (kln E (hR S)) m w s n9.toNat).2 (kmk (hW S) (kln E (hR S)) m w s n9.toNat).1) n) := by
  show kE G mX4_fill (d + 4) 0 0 0 [some (.ref (gB G + 93)), some (.ref (gB G + b)), some (.ref (gB G + 3)), some (.int (jI s)), some (.int (jI m)), some (.int (jI w)), some (.int (jI n9)), none, none, none, none, none] [] h n _
  have tl := kln_in (E := E) ok.2.2.2.1
  have t4 : (4 : Int) ≤ 4 ^ w.toNat ∧ (4 : Int) ^ w.toNat ≤ 65536 := by rcases (show w = 1 ∨ w = 2 ∨ w = 3 ∨ w = 4 ∨ w = 5 ∨ w = 6 ∨ w = 7 ∨ w = 8 by omega) with q | q | q | q | q | q | q | q <;> subst q <;> decide
  obtain ⟨rb1, rb2, rb3⟩ := id rb
  unfold kMa at hm
  refine e_aload_n rfl dX4_fill_0 ?_
  refine e_iload_n rfl dX4_fill_1 ?_
  refine e_putf pfX4_15 dX4_fill_2 (by first | assumption | exact kup_s | exact kup_n (by omega) (by first | assumption | exact kup_s | exact kup_n (by omega) (by first | assumption | exact kup_s | exact kup_n (by omega) (by assumption)))) rfl rfl rfl ?_
  dsimp only [List.set]
  refine e_aload_n rfl dX4_fill_5 ?_
  refine eV0 mtX0_clearMen miX0_clearMen lkX4_20 dX4_fill_6 (kup_n (by omega) rb1) rfl rfl rfl (k_clearMen (rBk_up rb (by omega) (by omega) (by omega)) (by omega)) ?_
  dsimp only [Option.toList, List.cons_append, List.nil_append]
  refine e_fix (i := b + 1) (fun _ => 0) (kup_n (by omega) kup_s) (fun j hj => if_pos hj) ?_
  have e9 : kup (kup (kup (kup h 93 (kob 3 [.ref (gB G + 80), .int (jI s)])) (b + 1) (kia 64 (fun j => if j < 64 then 0 else A j))) b (kob 0 [.ref (gB G + (b + 1)), .ref (gB G + (b + 2)), .int (jI 0)])) (b + 1) (kia 64 (fun _ => 0)) = kfh G h b s (fun _ => 0) := by
    unfold kfh
    rw [kup_swap (i := b) (by omega), kup_kup]
    rfl
  rw [e9]
  refine e_aload_n rfl dX4_fill_9 ?_
  refine e_aload_n rfl dX4_fill_10 ?_
  refine eV1 mtX2_lineOf miX2_lineOf lkX4_25 dX4_fill_11 (kfh_n hb9 rn).1 rfl rfl rfl (k_lineOf (kfh_n hb9 rn) ok (kfh_b (by omega) rb3) qe) ?_
  dsimp only [Option.toList, List.cons_append, List.nil_append]
  refine e_istore dX4_fill_14 rfl rfl ?_
  dsimp only [List.set]
  refine e_iconst dX4_fill_16 ?_
  refine e_iconst dX4_fill_17 ?_
  refine e_iload rfl dX4_fill_18 ?_
  refine e_imul dX4_fill_20 ?_
  refine e_ishl (v := (4 ^ w.toNat : Int)) (by rcases (show w = 1 ∨ w = 2 ∨ w = 3 ∨ w = 4 ∨ w = 5 ∨ w = 6 ∨ w = 7 ∨ w = 8 by omega) with q | q | q | q | q | q | q | q <;> subst q <;> decide) dX4_fill_21 ?_
  refine e_istore dX4_fill_22 rfl rfl ?_
  dsimp only [List.set]
  refine e_iconst dX4_fill_24 ?_
  refine e_istore dX4_fill_25 rfl rfl ?_
  dsimp only [List.set]
  exact k_fillM_lp rn ru ok rb3 qe hb9 hb m0 m1 w1 w8 s0 s1 n0 n1 300 0 0 none none (by omega) (by omega) (by omega)
