/-! FOUND -/
theorem ks2_at {A : Nat → Int} {w k : Int} {a m : Nat} (hm : m < 64) : ks2 A w k (64 * a + m) = kmf A m w a k := by
  unfold ks2
  rw [show (64 * a + m) % 64 = m by omega, show (64 * a + m) / 64 = a by omega]
theorem ks2_0 {A : Nat → Int} {w k : Int} {j : Nat} (hj : j < 64) : ks2 A w k j = kso A w 0 k j := by
  unfold ks2 kso
  rw [show j % 64 = j by omega, show j / 64 = 0 by omega]
  rfl
theorem ks2_skip {A : Nat → Int} {w k : Int} (w1 : 1 ≤ w) (w8 : w ≤ 8) (k0 : 0 ≤ k) {a m : Nat} (ha : 1 ≤ a) (hm : m < 64) (h : (m : Int) + w < a ∨ (a : Int) ≤ m - w) : kbm (ks2 A w k) (64 * a + m + 1) = kbm (ks2 A w k) (64 * a + m) := by
  refine kbm_skip ?_
  rw [ks2_at hm]
  have e0 : kmf A m w 0 k = ks2 A w k m := (ks2_0 hm).symm
  have h1 : kmf A m w a k = -5 ∨ kmf A m w a k = kmf A m w 0 k := by
    rcases h with h | h
    · exact kmf_below w1 w8 k0 h
    · exact Or.inr (kmf_above h)
  rcases h1 with h1 | h1
  · exact Or.inl h1
  · by_cases e : kmf A m w a k = -5
    · exact Or.inl e
    · right
      rw [h1, e0]
      exact kbm_min (ks2 A w k) (show m < 64 * a + m by omega) (by rw [← e0, ← h1]; exact e)
theorem ks2_skips {A : Nat → Int} {w k : Int} (w1 : 1 ≤ w) (w8 : w ≤ 8) (k0 : 0 ≤ k) {a m : Nat} (ha : 1 ≤ a) : ∀ {e : Nat}, m + e ≤ 64 → (∀ j : Nat, m ≤ j → j < m + e → (j : Int) + w < a ∨ (a : Int) ≤ j - w) → kbm (ks2 A w k) (64 * a + (m + e)) = kbm (ks2 A w k) (64 * a + m)
  | 0, _, _ => rfl
  | e + 1, h1, h2 => by
    have ih := ks2_skips (A := A) w1 w8 k0 ha (m := m) (e := e) (by omega) (fun j j1 j2 => h2 j j1 (by omega))
    have s := ks2_skip (A := A) w1 w8 k0 ha (show m + e < 64 by omega) (h2 (m + e) (by omega) (by omega))
    rw [← ih, ← s]
    rfl
def kJ2 (A : Nat → Int) (w k : Int) (fl : Int × Int) (i : Nat) (q : Int × Int × Int × Int × Int) : Prop := 0 ≤ kbm (ks2 A w k) i ∧ q.1 = kbm (ks2 A w k) i / 64 ∧ q.2.1 = kbm (ks2 A w k) i % 64 ∧ q.2.2.1 = ks2 A w k (kbm (ks2 A w k) i).toNat ∧ q.2.2.2 = fl
theorem ks2_in {A : Nat → Int} (hA : kAok A) {w k : Int} (w1 : 1 ≤ w) (w8 : w ≤ 8) (k0 : 0 ≤ k) (k1 : k ≤ 9) (i : Nat) : ks2 A w k i = -5 ∨ (0 ≤ ks2 A w k i ∧ ks2 A w k i ≤ 4200000) := kmf_in hA w1 w8 k0 k1
theorem ks2_best {A : Nat → Int} (hA : kAok A) {w k : Int} (w1 : 1 ≤ w) (w8 : w ≤ 8) (k0 : 0 ≤ k) (k1 : k ≤ 9) {i : Nat} (h : 0 ≤ kbm (ks2 A w k) i) : 0 ≤ ks2 A w k (kbm (ks2 A w k) i).toNat ∧ ks2 A w k (kbm (ks2 A w k) i).toNat ≤ 4200000 := by
  rcases ks2_in hA w1 w8 k0 k1 (kbm (ks2 A w k) i).toNat with y | y
  · rcases kbm_ok (ks2 A w k) i with x | x
    · omega
    · exact absurd y x
  · exact y
theorem kof_J2 {A : Nat → Int} {w k : Int} {a m : Nat} {q : Int × Int × Int × Int × Int} {fl : Int × Int} (hA : kAok A) (w1 : 1 ≤ w) (w8 : w ≤ 8) (k0 : 0 ≤ k) (k1 : k ≤ 9) (hm : m < 64) (h : kJ2 A w k fl (64 * a + m) q) : kJ2 A w k fl (64 * a + m + 1) (kof q a m (kmf A m w a k)) := by
  have h0 : kmf A m w a k = ks2 A w k (64 * a + m) := (ks2_at hm).symm
  rw [h0]
  have h2 := ks2_in hA w1 w8 k0 k1 (64 * a + m)
  have h3 := ks2_best hA w1 w8 k0 k1 h.1
  unfold kJ2 at h ⊢
  by_cases e : ks2 A w k (64 * a + m) = -5
  · rw [kbm_skip (Or.inl e), show kof q a m (ks2 A w k (64 * a + m)) = q from if_neg (fun z => z.1 e)]
    exact h
  · by_cases e3 : kbm (ks2 A w k) (64 * a + m) = -1 ∨ ks2 A w k (64 * a + m) < ks2 A w k (kbm (ks2 A w k) (64 * a + m)).toNat
    · have e1 : kbm (ks2 A w k) (64 * a + m + 1) = ((64 * a + m : Nat) : Int) := by
        show (if _ then _ else _) = _
        rw [if_neg e, if_pos e3]
      have e2 : kof q a m (ks2 A w k (64 * a + m)) = ((a : Int), (m : Int), ks2 A w k (64 * a + m), q.2.2.2.1, q.2.2.2.2) := if_pos ⟨e, by omega⟩
      rw [e1, e2]
      refine ⟨by omega, ?_, ?_, by rw [Int.toNat_natCast], h.2.2.2.2⟩
      · show (a : Int) = _
        omega
      · show (m : Int) = _
        omega
    · have e1 : kbm (ks2 A w k) (64 * a + m + 1) = kbm (ks2 A w k) (64 * a + m) := by
        show (if _ then _ else _) = _
        rw [if_neg e, if_neg e3]
      have e2 : kof q a m (ks2 A w k (64 * a + m)) = q := if_neg (fun z => by omega)
      rw [e1, e2]
      exact h
set_option maxHeartbeats 4000000 in
set_option maxRecDepth 100000 in
theorem k_seekL_in {G : kG} {d : Nat} {h : Nat → Option kC} {n : Nat} (ru : rHu G h 80 81) {b : Nat} {A E : Nat → Int} (rb : rBk G h b (b + 1) (b + 2) A E (ksum A 64)) (hb : b + 2 < 80 ∨ 92 < b) (hA : kAok A) {w k : Int} (w1 : 1 ≤ w) (w8 : w ≤ 8) (k0 : 0 ≤ k) (k1 : k ≤ 9) {fl : Int × Int} {a : Nat} (ha : 1 ≤ a) (ha1 : a < 64) {to : Int} (hto : to ≤ 63) (hk9 : ∀ (x : Int) (P : Nat → Int) (q : Int × Int × Int × Int × Int), x = to + 1 → kJ2 A w k fl (64 * a + x.toNat) q → kE G mX8_seekLine (d + 3) 0 0 73 [some (.ref (gB G + 91)), some (.ref (gB G + b)), some (.int (jI w)), some (.int (jI k)), some (.int (jI a)), some (.int (jI to)), some (.int (jI x))] [] (kuh G h P q) n (fun r h' n' => ∃ (P' : Nat → Int) (q' : Int × Int × Int × Int × Int), r = none ∧ h' = kuh G h P' q' ∧ n' = n ∧ kJ2 A w k fl 4096 q'))  : ∀ (f : Nat) (x : Int) (P : Nat → Int) (q : Int × Int × Int × Int × Int), 0 ≤ x → x ≤ to + 1 → to + 1 - x ≤ f → kJ2 A w k fl (64 * a + x.toNat) q → kE G mX8_seekLine (d + 3) 0 0 41 [some (.ref (gB G + 91)), some (.ref (gB G + b)), some (.int (jI w)), some (.int (jI k)), some (.int (jI a)), some (.int (jI to)), some (.int (jI x))] [] (kuh G h P q) n (fun r h' n' => ∃ (P' : Nat → Int) (q' : Int × Int × Int × Int × Int), r = none ∧ h' = kuh G h P' q' ∧ n' = n ∧ kJ2 A w k fl 4096 q') := by
  have tA := kA_sum hA
  intro f
  induction f with
  | zero =>
    intro x P q g1 g2 g3 g4
    refine e_iload rfl dX8_seekLine_41 ?_
    refine e_iload rfl dX8_seekLine_43 ?_
    refine e_icmp_gt (tgt := 73) dX8_seekLine_45 (by decide) (by first | assumption | (unfold inI at *; omega)) (by first | assumption | (unfold inI at *; omega)) (fun c45 => ?_) (fun c45 => ?_)
    · exact hk9 x P q (by omega) g4
    · exact absurd c45 (by omega)
  | succ f ih =>
    intro x P q g1 g2 g3 g4
    have q8 := kmf_in hA (m := x) (l := (a : Int)) w1 w8 k0 k1
    have q7 : inI q.2.2.1 := by
      have z0 := g4
      unfold kJ2 at z0
      have z1 := ks2_best hA w1 w8 k0 k1 z0.1
      unfold inI
      omega
    refine e_iload rfl dX8_seekLine_41 ?_
    refine e_iload rfl dX8_seekLine_43 ?_
    refine e_icmp_gt (tgt := 73) dX8_seekLine_45 (by decide) (by first | assumption | (unfold inI at *; omega)) (by first | assumption | (unfold inI at *; omega)) (fun c45 => ?_) (fun c45 => ?_)
    · exact hk9 x P q (by omega) g4
    · refine e_aload_n rfl dX8_seekLine_48 ?_
      refine e_iload rfl dX8_seekLine_49 ?_
      refine e_iload rfl dX8_seekLine_51 ?_
      refine e_aload_n rfl dX8_seekLine_53 ?_
      refine e_aload_n rfl dX8_seekLine_54 ?_
      refine e_iload rfl dX8_seekLine_55 ?_
      refine e_iload_n rfl dX8_seekLine_57 ?_
      refine e_iload rfl dX8_seekLine_58 ?_
      refine e_iload_n rfl dX8_seekLine_60 ?_
      refine eV5R mtX8_misfitOf miX8_misfitOf lkX8_50 dX8_seekLine_61 kuh_9o rfl rfl rfl (k_misfitOf (kuh_hu P q ru) kuh_91 (kuh_bk P q rb hb) hb hA kuh_92 (by omega) (by omega) w1 w8 (by omega) (by omega) k0 k1) (fun r61 h61 n61 hp61 => ?_)
      obtain ⟨P9, hr9, hh9, hn9⟩ := hp61
      subst hr9
      subst hh9
      subst hn9
      rw [kuh_p]
      dsimp only [Option.toList, List.cons_append, List.nil_append]
      refine eV3 mtX8_offer miX8_offer lkX8_54 dX8_seekLine_64 kuh_9o rfl rfl rfl (k_offer kuh_91 q7 (by unfold inI; omega)) ?_
      dsimp only [Option.toList, List.cons_append, List.nil_append]
      rw [kuh_u]
      refine e_iinc dX8_seekLine_67 rfl rfl ?_
      dsimp only [List.set]
      refine e_goto (tgt := 41) dX8_seekLine_70 (by decide) ?_
      have q5 := kof_J2 hA w1 w8 k0 k1 (show x.toNat < 64 by omega) g4
      rw [show ((x.toNat : Nat) : Int) = x by omega] at q5
      exact ih (x + 1) _ _ (by omega) (by omega) (by omega) (by rw [show 64 * a + (x + 1).toNat = 64 * a + x.toNat + 1 by omega]; exact q5)
set_option maxHeartbeats 4000000 in
set_option maxRecDepth 100000 in
theorem k_seekL_out {G : kG} {d : Nat} {h : Nat → Option kC} {n : Nat} (ru : rHu G h 80 81) {b : Nat} {A E : Nat → Int} (rb : rBk G h b (b + 1) (b + 2) A E (ksum A 64)) (hb : b + 2 < 80 ∨ 92 < b) (hA : kAok A) {w k : Int} (w1 : 1 ≤ w) (w8 : w ≤ 8) (k0 : 0 ≤ k) (k1 : k ≤ 9) {fl : Int × Int}  : ∀ (f : Nat) (a : Nat) (z : Int) (P : Nat → Int) (q : Int × Int × Int × Int × Int) (e5 e6 : Option Value), z = (a : Int) → 1 ≤ a ∧ a ≤ 64 → 64 - (a : Int) ≤ f → kJ2 A w k fl (64 * a) q → kE G mX8_seekLine (d + 3) 0 0 11 [some (.ref (gB G + 91)), some (.ref (gB G + b)), some (.int (jI w)), some (.int (jI k)), some (.int (jI z)), e5, e6] [] (kuh G h P q) n (fun r h' n' => ∃ (P' : Nat → Int) (q' : Int × Int × Int × Int × Int), r = none ∧ h' = kuh G h P' q' ∧ n' = n ∧ kJ2 A w k fl 4096 q') := by
  have tA := kA_sum hA
  intro f
  induction f with
  | zero =>
    intro a z P q e5 e6 g1 g2 g3 g4
    refine e_iload rfl dX8_seekLine_11 ?_
    refine e_bipush (by decide) dX8_seekLine_13 ?_
    refine e_icmp_ge (tgt := 79) dX8_seekLine_15 (by decide) (by first | assumption | (unfold inI at *; omega)) (by first | assumption | (unfold inI at *; omega)) (fun c15 => ?_) (fun c15 => ?_)
    · refine e_return dX8_seekLine_79 rfl ?_
      exact ⟨P, q, rfl, rfl, rfl, by rw [show (4096 : Nat) = 64 * a by omega]; exact g4⟩
    · exact absurd c15 (by omega)
  | succ f ih =>
    intro a z P q e5 e6 g1 g2 g3 g4
    subst g1
    refine e_iload rfl dX8_seekLine_11 ?_
    refine e_bipush (by decide) dX8_seekLine_13 ?_
    refine e_icmp_ge (tgt := 79) dX8_seekLine_15 (by decide) (by first | assumption | (unfold inI at *; omega)) (by first | assumption | (unfold inI at *; omega)) (fun c15 => ?_) (fun c15 => ?_)
    · refine e_return dX8_seekLine_79 rfl ?_
      exact ⟨P, q, rfl, rfl, rfl, by rw [show (4096 : Nat) = 64 * a by omega]; exact g4⟩
    · refine e_bipush (by decide) dX8_seekLine_18 ?_
      refine e_iload rfl dX8_seekLine_20 ?_
      refine e_iload_n rfl dX8_seekLine_22 ?_
      refine e_iadd dX8_seekLine_23 ?_
      refine e_iconst dX8_seekLine_24 ?_
      refine e_isub dX8_seekLine_25 ?_
      refine e_mmin (by first | assumption | (unfold inI at *; omega)) (by first | assumption | (unfold inI at *; omega)) lkX8_25 dX8_seekLine_26 rfl ?_
      refine e_istore dX8_seekLine_29 rfl rfl ?_
      dsimp only [List.set]
      refine e_iconst dX8_seekLine_31 ?_
      refine e_iload rfl dX8_seekLine_32 ?_
      refine e_iload_n rfl dX8_seekLine_34 ?_
      refine e_isub dX8_seekLine_35 ?_
      refine e_mmax (by first | assumption | (unfold inI at *; omega)) (by first | assumption | (unfold inI at *; omega)) lkX8_19 dX8_seekLine_36 rfl ?_
      refine e_istore dX8_seekLine_39 rfl rfl ?_
      dsimp only [List.set]
      have q9 : kmini 63 ((a : Int) + w - 1) ≤ 63 ∧ kmini 63 ((a : Int) + w - 1) ≤ (a : Int) + w - 1 ∧ (kmini 63 ((a : Int) + w - 1) = 63 ∨ kmini 63 ((a : Int) + w - 1) = (a : Int) + w - 1) := by unfold kmini; split <;> omega
      have q8 : 0 ≤ kmaxi 0 ((a : Int) - w) ∧ (a : Int) - w ≤ kmaxi 0 ((a : Int) - w) ∧ (kmaxi 0 ((a : Int) - w) = 0 ∨ kmaxi 0 ((a : Int) - w) = (a : Int) - w) := by unfold kmaxi; split <;> omega
      refine k_seekL_in ru rb hb hA w1 w8 k0 k1 (by omega) (by omega) (by omega) (fun x P2 q2 hx hj => ?_) 100 _ _ _ (by omega) (by omega) (by omega) ?_
      · subst hx
        refine e_iinc dX8_seekLine_73 rfl rfl ?_
        dsimp only [List.set]
        refine e_goto (tgt := 11) dX8_seekLine_76 (by decide) ?_
        refine ih (a + 1) _ _ _ _ _ (by omega) (by omega) (by omega) ?_
        have s := ks2_skips (A := A) w1 w8 k0 (a := a) (m := (kmini 63 ((a : Int) + w - 1) + 1).toNat) (e := 64 - (kmini 63 ((a : Int) + w - 1) + 1).toNat) (by omega) (by omega) (fun j j1 j2 => by omega)
        rw [show 64 * a + ((kmini 63 ((a : Int) + w - 1) + 1).toNat + (64 - (kmini 63 ((a : Int) + w - 1) + 1).toNat)) = 64 * (a + 1) by omega] at s
        unfold kJ2 at hj ⊢
        rw [s]
        exact hj
      · have s := ks2_skips (A := A) w1 w8 k0 (a := a) (m := 0) (e := (kmaxi 0 ((a : Int) - w)).toNat) (by omega) (by omega) (fun j j1 j2 => by omega)
        rw [Nat.zero_add, Nat.add_zero] at s
        unfold kJ2 at g4 ⊢
        rw [s]
        exact g4
set_option maxHeartbeats 4000000 in
set_option maxRecDepth 100000 in
theorem k_seekLine {G : kG} {d : Nat} {h : Nat → Option kC} {n : Nat} {q : Int × Int × Int × Int × Int} {P : Nat → Int} (hu : h 91 = some (kUn G q)) (hp : h 92 = some (kla 64 P)) (ru : rHu G h 80 81) {b : Nat} {A E : Nat → Int} (rb : rBk G h b (b + 1) (b + 2) A E (ksum A 64)) (hb : b + 2 < 80 ∨ 92 < b) (hA : kAok A) {w k : Int} (w1 : 1 ≤ w) (w8 : w ≤ 8) (k0 : 0 ≤ k) (k1 : k ≤ 9)  : kCall G mX8_seekLine (d + 4) 0 0 [.ref (gB G + 91), .ref (gB G + b), .int (jI w), .int (jI k)] h n (kfP G h n (kbm (ks2 A w k) 4096 / 64, kbm (ks2 A w k) 4096 % 64, ks2 A w k (kbm (ks2 A w k) 4096).toNat, q.2.2.2)) := by
  show kE G mX8_seekLine (d + 4) 0 0 0 [some (.ref (gB G + 91)), some (.ref (gB G + b)), some (.int (jI w)), some (.int (jI k)), none, none, none] [] h n _
  have tA := kA_sum hA
  have hu0 := hu
  unfold kUn at hu
  refine e_aload_n rfl dX8_seekLine_0 ?_
  refine e_aload_n rfl dX8_seekLine_1 ?_
  refine e_iload_n rfl dX8_seekLine_2 ?_
  refine e_iconst dX8_seekLine_3 ?_
  refine e_iload_n rfl dX8_seekLine_4 ?_
  refine eV4R mtX8_seekMiddle miX8_seekMiddle lkX8_58 dX8_seekLine_5 (by first | assumption | exact kup_s | exact kup_n (by omega) (by first | assumption | exact kup_s | exact kup_n (by omega) (by first | assumption | exact kup_s | exact kup_n (by omega) (by assumption)))) rfl rfl rfl (k_seekMiddle hu0 hp ru rb hb hA w1 w8 (by omega) (by omega) k0 k1) (fun r5 h5 n5 hp5 => ?_)
  obtain ⟨P9, hr9, hh9, hn9⟩ := hp5
  subst hr9
  subst hh9
  subst hn9
  dsimp only [Option.toList, List.cons_append, List.nil_append]
  refine e_iconst dX8_seekLine_8 ?_
  refine e_istore dX8_seekLine_9 rfl rfl ?_
  dsimp only [List.set]
  have z6 := kbm_min (kso A w 0 k) (show 63 < 64 by omega) (kso_last hA w1 w8 (by omega) k0 k1)
  have z7 := kbm_in (kso A w 0 k) 64
  have z8 : kbm (ks2 A w k) 64 = kbm (kso A w 0 k) 64 := kbm_cong (fun j hj => ks2_0 hj)
  refine kE.mono (k_seekL_out (d := d + 1) ru rb hb hA w1 w8 k0 k1 (fl := q.2.2.2) 100 1 1 P9 _ _ _ (by omega) (by omega) (by omega) ?_) (fun r h' n' hq => ?_)
  · unfold kJ2
    rw [show 64 * 1 = 64 from rfl, z8]
    refine ⟨by omega, ?_, ?_, ?_, rfl⟩
    · show (0 : Int) = _
      omega
    · show kbm (kso A w 0 k) 64 = _
      omega
    · show kso A w 0 k _ = _
      exact (ks2_0 (by omega)).symm
  · obtain ⟨P2, ⟨y1, y2, y3, y4⟩, z1, z2, z3, a0, a1, a2, a3, a4⟩ := hq
    refine ⟨P2, z1, ?_, z3⟩
    dsimp only at a1 a2 a3 a4
    rw [z2, a1, a2, a3, a4]
