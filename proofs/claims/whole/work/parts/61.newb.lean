/-! NEW OBJECTS: texts, BOOKS, HOLDINGS -/
theorem ksum_z : ∀ k : Nat, ksum (fun _ => 0) k = 0
  | 0 => rfl
  | k + 1 => by rw [ksum_s, ksum_z k]; rfl
def kS0 : kHd := (fun _ _ => 0, fun _ j => kFE j, fun _ => 0, (0, fun _ => 0), (0, fun _ => 0))
def kQn (G : kG) (h : Nat → Option kC) (i : Nat) : kPo := fun r h' n' => r = none ∧ n' = i + 25 ∧ rHd G h' i kS0 ∧ ∀ j, j < i → h' j = h j
/-- a HOLDING that is being made, k BOOKS being there -/
def kHb (G : kG) (h h9 : Nat → Option kC) (i k : Nat) (f : Nat → Option Nat) : Prop :=
  h9 i = some (kob 1 [.ref (gB G + (i + 1)), .ref (gB G + (i + 2)), .ref (gB G + (i + 4)), .ref (gB G + (i + 6))]) ∧ h9 (i + 1) = some (kra 3 6 f) ∧ (∀ j, j < k → f j = some (gB G + (i + 7 + 3 * j))) ∧
  rTx G h9 (i + 2) (i + 3) 0 (fun _ => 0) ∧ rTx G h9 (i + 4) (i + 5) 0 (fun _ => 0) ∧ h9 (i + 6) = some (kia 5 (fun _ => 0)) ∧ (∀ j, j < k → rBk G h9 (i + 7 + 3 * j) (i + 8 + 3 * j) (i + 9 + 3 * j) (fun _ => 0) kFE 0) ∧ ∀ j, j < i → h9 j = h j
set_option maxHeartbeats 4000000 in
set_option maxRecDepth 100000 in
theorem n_text {G : kG} {d : Nat} {h : Nat → Option kC} {n : Nat} {i : Nat} (hi : h i = some (kob 5 [.null, .int (jI 0)])) (hn : i < n) : kCall G mX7_init (d + 1) 1 60 [.ref (gB G + i)] h n (kre none (kup (kup h n (kia 60 (fun _ => 0))) i (kob 5 [.ref (gB G + n), .int (jI 0)])) (n + 1)) := by
  show kE G mX7_init (d + 1) 1 60 0 [some (.ref (gB G + i))] [] h n _
  refine e_aload_n rfl dX7_init_0 ?_
  refine e_objInit lkX7_3 dX7_init_1 rfl ?_
  refine e_aload_n rfl dX7_init_4 ?_
  refine e_bipush (by decide) dX7_init_5 ?_
  refine e_na (N := 60) dX7_init_7 rfl rfl rfl ?_
  refine e_putF pfX7_9 dX7_init_9 rfl (by repeat (first | assumption | exact kup_s | refine kup_n (by omega) ?_)) rfl rfl rfl ?_
  dsimp only [List.set]
  refine e_return dX7_init_12 rfl ?_
  exact ⟨rfl, rfl, rfl⟩
set_option maxHeartbeats 4000000 in
set_option maxRecDepth 100000 in
theorem n_book {G : kG} {d : Nat} {h : Nat → Option kC} {n : Nat} (g : rSt G) {i : Nat} (hi : h i = some (kob 0 [.null, .null, .int (jI 0)])) (hn : i < n) : kCall G mX0_init (d + 1) 2 67 [.ref (gB G + i)] h n (kre none (kup (kup (kup h n (kia 64 (fun _ => 0))) (n + 1) (kia 3 kFE)) i (kob 0 [.ref (gB G + n), .ref (gB G + (n + 1)), .int (jI 0)])) (n + 2)) := by
  show kE G mX0_init (d + 1) 2 67 0 [some (.ref (gB G + i))] [] h n _
  refine e_aload_n rfl dX0_init_0 ?_
  refine e_objInit lkX0_3 dX0_init_1 rfl ?_
  refine e_aload_n rfl dX0_init_4 ?_
  refine e_bipush (by decide) dX0_init_5 ?_
  refine e_na (N := 64) dX0_init_7 rfl rfl rfl ?_
  refine e_putF pfX0_9 dX0_init_9 rfl (by repeat (first | assumption | exact kup_s | refine kup_n (by omega) ?_)) rfl rfl rfl ?_
  dsimp only [List.set]
  refine e_aload_n rfl dX0_init_12 ?_
  refine e_getsN (k := 1) lfX0_15 rfl dX0_init_13 ?_
  refine e_clone (E := kFE) lkX0_18 dX0_init_16 g.2.1 (fun j _ => rfl) rfl rfl rfl ?_
  refine e_castI cwX0_19 dX0_init_19 kup_s ?_
  refine e_putF pfX0_23 dX0_init_22 rfl (by repeat (first | assumption | exact kup_s | refine kup_n (by omega) ?_)) rfl rfl rfl ?_
  dsimp only [List.set]
  refine e_return dX0_init_25 rfl ?_
  refine ⟨rfl, ?_, rfl⟩
  rw [kup_swap (i := i) (j := n + 1) (by omega), kup_kup]
set_option maxHeartbeats 4000000 in
set_option maxRecDepth 100000 in
theorem n_hold_lp {G : kG} {d : Nat} {h : Nat → Option kC} (g : rSt G) {i : Nat}  : ∀ (f : Nat) (k : Nat) (z : Int) (h9 : Nat → Option kC) (fr : Nat → Option Nat), z = (k : Int) → k + f = 6 → kHb G h h9 i k fr → kE G mX2_init (d + 2) (3 * f) (70 * f) 47 [some (.ref (gB G + i)), some (.int (jI z))] [] h9 (i + 7 + 3 * k) (kQn G h i) := by
  intro f
  induction f with
  | zero =>
    intro k z h9 fr g1 g2 g3
    obtain ⟨b1, b2, b3, b4, b5, b6, b7, b8⟩ := id g3
    obtain ⟨b41, b42⟩ := id b4
    obtain ⟨b51, b52⟩ := id b5
    refine e_iload_n rfl dX2_init_47 ?_
    refine e_aload_n rfl dX2_init_48 ?_
    refine e_getf fdX2_11 dX2_init_49 (by first | assumption | exact kup_s | exact kup_n (by omega) (by first | assumption | exact kup_s | exact kup_n (by omega) (by first | assumption | exact kup_s | exact kup_n (by omega) (by assumption)))) rfl ?_
    refine e_alen dX2_init_52 (by first | assumption | exact kup_s | exact kup_n (by omega) (by first | assumption | exact kup_s | exact kup_n (by omega) (by first | assumption | exact kup_s | exact kup_n (by omega) (by assumption)))) (fun _ => rfl) ?_
    refine e_icmp_ge (tgt := 75) dX2_init_53 (by decide) (by first | assumption | (unfold inI at *; omega)) (by first | assumption | (unfold inI at *; omega)) (fun c53 => ?_) (fun c53 => ?_)
    · refine e_return dX2_init_75 rfl ?_
      have e9 : k = 6 := by omega
      subst e9
      refine ⟨rfl, rfl, ⟨⟨b1, ⟨fr, b2, b3⟩, b4, b5, b6⟩, fun j hj => ?_⟩, b8⟩
      have q9 := b7 j hj
      show rBk G h9 _ _ _ (fun _ => 0) kFE (ksum (fun _ => 0) 64)
      rw [ksum_z]
      exact q9
    · exact absurd c53 (by omega)
  | succ f ih =>
    intro k z h9 fr g1 g2 g3
    obtain ⟨b1, b2, b3, b4, b5, b6, b7, b8⟩ := id g3
    obtain ⟨b41, b42⟩ := id b4
    obtain ⟨b51, b52⟩ := id b5
    subst g1
    refine e_iload_n rfl dX2_init_47 ?_
    refine e_aload_n rfl dX2_init_48 ?_
    refine e_getf fdX2_11 dX2_init_49 (by first | assumption | exact kup_s | exact kup_n (by omega) (by first | assumption | exact kup_s | exact kup_n (by omega) (by first | assumption | exact kup_s | exact kup_n (by omega) (by assumption)))) rfl ?_
    refine e_alen dX2_init_52 (by first | assumption | exact kup_s | exact kup_n (by omega) (by first | assumption | exact kup_s | exact kup_n (by omega) (by first | assumption | exact kup_s | exact kup_n (by omega) (by assumption)))) (fun _ => rfl) ?_
    refine e_icmp_ge (tgt := 75) dX2_init_53 (by decide) (by first | assumption | (unfold inI at *; omega)) (by first | assumption | (unfold inI at *; omega)) (fun c53 => ?_) (fun c53 => ?_)
    · exact absurd c53 (by omega)
    · refine e_aload_n rfl dX2_init_56 ?_
      refine e_getf fdX2_11 dX2_init_57 (by repeat (first | assumption | exact kup_s | refine kup_n (by omega) ?_)) rfl ?_
      refine e_iload_n rfl dX2_init_60 ?_
      refine e_ob [.null, .null, .int (jI 0)] nwX2_9 dX2_init_61 (fun j9 hj9 => by rcases (show j9 = 0 ∨ j9 = 1 ∨ j9 = 2 by omega) with rfl | rfl | rfl <;> rfl) (Nat.ble_eq_true_of_le (by omega)) (Nat.ble_eq_true_of_le (by omega)) ?_
      refine e_dup rfl dX2_init_64 ?_
      refine eJN0 (c1 := 2) (s1 := 67) mtX0_init rfl rfl miX0_init lnX2_34 dX2_init_65 rfl rfl (Nat.ble_eq_true_of_le (by omega)) (Nat.ble_eq_true_of_le (by omega)) (n_book g kup_s (by omega)) (fun r65 h65 n65 hp65 => ?_)
      obtain ⟨rfl, rfl, rfl⟩ := hp65
      dsimp only [Option.toList, List.nil_append]
      refine e_aast dX2_init_68 (by repeat (first | assumption | exact kup_s | refine kup_n (by omega) ?_)) (by repeat (first | assumption | exact kup_s | refine kup_n (by omega) ?_)) rfl (fun _ => rfl) (by omega) (by omega) ?_
      rw [Int.toNat_natCast]
      refine e_iinc dX2_init_69 rfl rfl ?_
      dsimp only [List.set]
      refine e_goto (tgt := 47) dX2_init_72 (by decide) ?_
      refine kE.less (c0 := 3 * f) (s0 := 70 * f) ?_ (by omega) (by omega)
      rw [show i + 7 + 3 * k + 1 + 2 = i + 7 + 3 * (k + 1) by omega]
      refine ih (k + 1) ((k : Int) + 1) _ _ (by omega) (by omega) ⟨(by repeat (first | assumption | exact kup_s | refine kup_n (by omega) ?_)), kup_s, fun j hj => ?_, ⟨(by repeat (first | assumption | exact kup_s | refine kup_n (by omega) ?_)), (by repeat (first | assumption | exact kup_s | refine kup_n (by omega) ?_))⟩, ⟨(by repeat (first | assumption | exact kup_s | refine kup_n (by omega) ?_)), (by repeat (first | assumption | exact kup_s | refine kup_n (by omega) ?_))⟩, (by repeat (first | assumption | exact kup_s | refine kup_n (by omega) ?_)), fun j hj => ?_, fun j hj => ?_⟩
      · unfold va_up
        by_cases e : j = k
        · rw [if_pos (by omega), e]
        · rw [if_neg (by omega)]
          exact b3 j (by omega)
      · by_cases e : j = k
        · subst e
          rw [show i + 8 + 3 * j = i + 7 + 3 * j + 1 by omega, show i + 9 + 3 * j = i + 7 + 3 * j + 1 + 1 by omega]
          exact ⟨kup_n (by omega) kup_s, (by repeat (first | assumption | exact kup_s | refine kup_n (by omega) ?_)), (by repeat (first | assumption | exact kup_s | refine kup_n (by omega) ?_))⟩
        · exact rBk_cg (b7 j (by omega)) ((kup_o (by omega)).trans ((kup_o (by omega)).trans ((kup_o (by omega)).trans ((kup_o (by omega)).trans (kup_o (by omega)))))) ((kup_o (by omega)).trans ((kup_o (by omega)).trans ((kup_o (by omega)).trans ((kup_o (by omega)).trans (kup_o (by omega)))))) ((kup_o (by omega)).trans ((kup_o (by omega)).trans ((kup_o (by omega)).trans ((kup_o (by omega)).trans (kup_o (by omega))))))
      · exact ((kup_o (by omega)).trans ((kup_o (by omega)).trans ((kup_o (by omega)).trans ((kup_o (by omega)).trans (kup_o (by omega)))))).trans (b8 j hj)
set_option maxHeartbeats 4000000 in
set_option maxRecDepth 100000 in
theorem n_hold {G : kG} {d : Nat} {h : Nat → Option kC} {n : Nat} (g : rSt G) {i : Nat} (hi : h i = some (kob 1 [.null, .null, .null, .null])) (hn : n = i + 1) : kCall G mX2_init (d + 2) 24 555 [.ref (gB G + i)] h n (kQn G h i) := by
  show kE G mX2_init (d + 2) 24 555 0 [some (.ref (gB G + i)), none] [] h n _
  subst hn
  refine e_aload_n rfl dX2_init_0 ?_
  refine e_objInit lkX2_3 dX2_init_1 rfl ?_
  refine e_aload_n rfl dX2_init_4 ?_
  refine e_bipush (by decide) dX2_init_5 ?_
  refine e_nar (t := 3) (N := 6) cwX2_9 la_1 (fun _ => rfl) dX2_init_7 rfl rfl rfl ?_
  refine e_putF pfX2_11 dX2_init_10 rfl (by repeat (first | assumption | exact kup_s | refine kup_n (by omega) ?_)) rfl rfl rfl ?_
  dsimp only [List.set]
  refine e_aload_n rfl dX2_init_13 ?_
  refine e_ob [.null, .int (jI 0)] nwX2_17 dX2_init_14 (fun j9 hj9 => by rcases (show j9 = 0 ∨ j9 = 1 by omega) with rfl | rfl <;> rfl) rfl rfl ?_
  refine e_dup rfl dX2_init_17 ?_
  refine eJN0 (c1 := 1) (s1 := 60) mtX7_init rfl rfl miX7_init lnX2_19 dX2_init_18 rfl rfl rfl rfl (n_text (by repeat (first | assumption | exact kup_s | refine kup_n (by omega) ?_)) (by omega)) (fun r18 h18 n18 hp18 => ?_)
  obtain ⟨rfl, rfl, rfl⟩ := hp18
  dsimp only [Option.toList, List.nil_append]
  refine e_putF pfX2_20 dX2_init_21 rfl (by repeat (first | assumption | exact kup_s | refine kup_n (by omega) ?_)) rfl rfl rfl ?_
  dsimp only [List.set]
  refine e_aload_n rfl dX2_init_24 ?_
  refine e_ob [.null, .int (jI 0)] nwX2_17 dX2_init_25 (fun j9 hj9 => by rcases (show j9 = 0 ∨ j9 = 1 by omega) with rfl | rfl <;> rfl) rfl rfl ?_
  refine e_dup rfl dX2_init_28 ?_
  refine eJN0 (c1 := 1) (s1 := 60) mtX7_init rfl rfl miX7_init lnX2_19 dX2_init_29 rfl rfl rfl rfl (n_text (by repeat (first | assumption | exact kup_s | refine kup_n (by omega) ?_)) (by omega)) (fun r29 h29 n29 hp29 => ?_)
  obtain ⟨rfl, rfl, rfl⟩ := hp29
  dsimp only [Option.toList, List.nil_append]
  refine e_putF pfX2_24 dX2_init_32 rfl (by repeat (first | assumption | exact kup_s | refine kup_n (by omega) ?_)) rfl rfl rfl ?_
  dsimp only [List.set]
  refine e_aload_n rfl dX2_init_35 ?_
  refine e_getsN (k := 0) lfX2_27 rfl dX2_init_36 ?_
  refine e_tlen (k := 0) dX2_init_39 g.1 ?_
  refine e_na (N := 5) dX2_init_40 rfl rfl rfl ?_
  refine e_putF pfX2_31 dX2_init_42 rfl (by repeat (first | assumption | exact kup_s | refine kup_n (by omega) ?_)) rfl rfl rfl ?_
  dsimp only [List.set]
  refine e_iconst dX2_init_45 ?_
  refine e_istore_n dX2_init_46 rfl rfl ?_
  dsimp only [List.set]
  exact kE.less (n_hold_lp g 6 0 0 _ (fun _ => none) (by omega) (by omega) ⟨(by repeat (first | assumption | exact kup_s | refine kup_n (by omega) ?_)), (by repeat (first | assumption | exact kup_s | refine kup_n (by omega) ?_)), fun j hj => absurd hj (Nat.not_lt_zero j), ⟨(by repeat (first | assumption | exact kup_s | refine kup_n (by omega) ?_)), (by repeat (first | assumption | exact kup_s | refine kup_n (by omega) ?_))⟩, ⟨(by repeat (first | assumption | exact kup_s | refine kup_n (by omega) ?_)), (by repeat (first | assumption | exact kup_s | refine kup_n (by omega) ?_))⟩, (by repeat (first | assumption | exact kup_s | refine kup_n (by omega) ?_)), fun j hj => absurd hj (Nat.not_lt_zero j), fun j hj => (by repeat (first | rfl | refine (kup_o (by omega)).trans ?_))⟩) (by decide) (by decide)
