/-! NEW OBJECTS: THE CLASS -/
def kZ0 : kCs := (kS0, (0, fun _ => 0), fun _ => kS0, fun _ => 0)
/-- the object that is being made, k IMAGES being there -/
def kIb (G : kG) (h9 : Nat → Option kC) (k : Nat) (f : Nat → Option Nat) : Prop :=
  h9 0 = some (kob 7 [.ref (gB G + 1), .ref (gB G + 3), .ref (gB G + 28), .null, .null, .null, .null, .null]) ∧ rTx G h9 1 2 0 (fun _ => 0) ∧ rHd G h9 3 kS0 ∧ h9 28 = some (kra 4 2 f) ∧ (∀ j, j < k → f j = some (gB G + (29 + 25 * j))) ∧ ∀ j, j < k → rHd G h9 (29 + 25 * j) kS0
set_option maxHeartbeats 4000000 in
set_option maxRecDepth 100000 in
theorem n_undo {G : kG} {d : Nat} {h : Nat → Option kC} {n : Nat} {i b : Nat} (hi : h i = some (kob 6 [.null, .null, .int (jI 0), .int (jI 0), .int (jI 0), .int (jI 0), .int (jI 0)])) (hn : i < n) : kCall G mX8_init (d + 1) 1 64 [.ref (gB G + i), .ref (gB G + b)] h n (kre none (kup (kup h n (kla 64 (fun _ => 0))) i (kob 6 [.ref (gB G + b), .ref (gB G + n), .int (jI 0), .int (jI 0), .int (jI 0), .int (jI 0), .int (jI 0)])) (n + 1)) := by
  show kE G mX8_init (d + 1) 1 64 0 [some (.ref (gB G + i)), some (.ref (gB G + b))] [] h n _
  refine e_aload_n rfl dX8_init_0 ?_
  refine e_objInit lkX8_3 dX8_init_1 rfl ?_
  refine e_aload_n rfl dX8_init_4 ?_
  refine e_bipush (by decide) dX8_init_5 ?_
  refine e_nal (N := 64) dX8_init_7 rfl rfl rfl ?_
  refine e_putF pfX8_9 dX8_init_9 rfl (by repeat (first | assumption | exact kup_s | refine kup_n (by omega) ?_)) rfl rfl rfl ?_
  dsimp only [List.set]
  refine e_aload_n rfl dX8_init_12 ?_
  refine e_aload_n rfl dX8_init_13 ?_
  refine e_putF pfX8_15 dX8_init_14 rfl (by repeat (first | assumption | exact kup_s | refine kup_n (by omega) ?_)) rfl rfl rfl ?_
  dsimp only [List.set]
  rw [kup_kup]
  refine e_return dX8_init_17 rfl ?_
  exact ⟨rfl, rfl, rfl⟩
set_option maxHeartbeats 4000000 in
set_option maxRecDepth 100000 in
theorem n_maker {G : kG} {d : Nat} {h : Nat → Option kC} {n : Nat} {i b : Nat} (hi : h i = some (kob 3 [.null, .int (jI 0)])) : kCall G mX4_init (d + 1) 0 0 [.ref (gB G + i), .ref (gB G + b)] h n (kre none (kup h i (kob 3 [.ref (gB G + b), .int (jI 0)])) n) := by
  show kE G mX4_init (d + 1) 0 0 0 [some (.ref (gB G + i)), some (.ref (gB G + b))] [] h n _
  refine e_aload_n rfl dX4_init_0 ?_
  refine e_objInit lkX4_3 dX4_init_1 rfl ?_
  refine e_aload_n rfl dX4_init_4 ?_
  refine e_aload_n rfl dX4_init_5 ?_
  refine e_putF pfX4_9 dX4_init_6 rfl (by repeat (first | assumption | exact kup_s | refine kup_n (by omega) ?_)) rfl rfl rfl ?_
  dsimp only [List.set]
  refine e_return dX4_init_9 rfl ?_
  exact ⟨rfl, rfl, rfl⟩
set_option maxHeartbeats 4000000 in
set_option maxRecDepth 100000 in
theorem n_class_tl {G : kG} {d : Nat} {h : Nat → Option kC} (g : rSt G) {h9 : Nat → Option kC} {fr : Nat → Option Nat} (ib : kIb G h9 2 fr) {e1 : Option Value} : kE G mX9_init (d + 3) (18) (308) 64 [some (.ref (gB G + 0)), e1] [] h9 (79) (fun r h' n' => r = none ∧ n' = 97 ∧ rKI G h' kZ0) := by
  obtain ⟨b1, b2, b3, b4, b5, b6⟩ := id ib
  refine e_aload_n rfl dX9_init_64 ?_
  refine e_iconst dX9_init_65 ?_
  refine e_naz (N := 2) dX9_init_66 rfl rfl rfl ?_
  refine e_putF pfX9_27 dX9_init_68 rfl (by repeat (first | assumption | exact kup_s | refine kup_n (by omega) ?_)) rfl rfl rfl ?_
  dsimp only [List.set]
  refine e_aload_n rfl dX9_init_71 ?_
  refine e_ob [.null] nwX9_31 dX9_init_72 (fun j9 hj9 => by rcases (show j9 = 0 by omega) with rfl <;> rfl) rfl rfl ?_
  refine e_dup rfl dX9_init_75 ?_
  refine eJ0 (c1 := 10) (s1 := 162) mtX3_init rfl rfl miX3_init lkX9_33 dX9_init_76 rfl rfl rfl rfl (n_humps kup_s rfl) (fun r76 h76 n76 hp76 => ?_)
  obtain ⟨hr76, hn76, u76, k76⟩ := hp76
  subst hr76
  subst hn76
  dsimp only [Option.toList, List.nil_append]
  have f0 : h76 0 = some (kob 7 [.ref (gB G + 1), .ref (gB G + 3), .ref (gB G + 28), .ref (gB G + 79), .null, .null, .null, .null]) := (k76 0 (by omega)).trans (by repeat (first | assumption | exact kup_s | refine kup_n (by omega) ?_))
  have kk : ∀ j, j ≠ 0 → j < 79 → h76 j = h9 j := fun j j0 j1 => (k76 j (by omega)).trans (((kup_o (by omega)).trans ((kup_o (by omega)).trans (kup_o (by omega)))))
  have f79 : h76 79 = some (kza 2 (fun _ => 0)) := (k76 79 (by omega)).trans (by repeat (first | assumption | exact kup_s | refine kup_n (by omega) ?_))
  refine e_putF pfX9_34 dX9_init_79 rfl f0 rfl rfl rfl ?_
  dsimp only [List.set]
  refine e_aload_n rfl dX9_init_82 ?_
  refine e_ob [.null, .null, .int (jI 0), .int (jI 0), .int (jI 0), .int (jI 0), .int (jI 0)] nwX9_38 dX9_init_83 (fun j9 hj9 => by rcases (show j9 = 0 ∨ j9 = 1 ∨ j9 = 2 ∨ j9 = 3 ∨ j9 = 4 ∨ j9 = 5 ∨ j9 = 6 by omega) with rfl | rfl | rfl | rfl | rfl | rfl | rfl <;> rfl) rfl rfl ?_
  refine e_dup rfl dX9_init_86 ?_
  refine e_aload_n rfl dX9_init_87 ?_
  refine e_getf fdX9_34 dX9_init_88 (by repeat (first | assumption | exact kup_s | refine kup_n (by omega) ?_)) rfl ?_
  refine eJ1 (c1 := 1) (s1 := 64) mtX8_init rfl rfl miX8_init lkX9_40 dX9_init_91 rfl rfl rfl rfl (n_undo kup_s (by omega)) (fun r91 h91 n91 hp91 => ?_)
  obtain ⟨rfl, rfl, rfl⟩ := hp91
  dsimp only [Option.toList, List.nil_append]
  refine e_putF pfX9_43 dX9_init_94 rfl (by repeat (first | assumption | exact kup_s | refine kup_n (by omega) ?_)) rfl rfl rfl ?_
  dsimp only [List.set]
  refine e_aload_n rfl dX9_init_97 ?_
  refine e_ob [.null, .int (jI 0)] nwX9_47 dX9_init_98 (fun j9 hj9 => by rcases (show j9 = 0 ∨ j9 = 1 by omega) with rfl | rfl <;> rfl) rfl rfl ?_
  refine e_dup rfl dX9_init_101 ?_
  refine e_aload_n rfl dX9_init_102 ?_
  refine e_getf fdX9_34 dX9_init_103 (by repeat (first | assumption | exact kup_s | refine kup_n (by omega) ?_)) rfl ?_
  refine eJ1 (c1 := 0) (s1 := 0) mtX4_init rfl rfl miX4_init lkX9_49 dX9_init_106 rfl rfl rfl rfl (n_maker kup_s) (fun r106 h106 n106 hp106 => ?_)
  obtain ⟨rfl, rfl, rfl⟩ := hp106
  dsimp only [Option.toList, List.nil_append]
  refine e_putF pfX9_50 dX9_init_109 rfl (by repeat (first | assumption | exact kup_s | refine kup_n (by omega) ?_)) rfl rfl rfl ?_
  dsimp only [List.set]
  refine e_aload_n rfl dX9_init_112 ?_
  refine e_ob [.null, .null, .int (jI 0)] nwX9_54 dX9_init_113 (fun j9 hj9 => by rcases (show j9 = 0 ∨ j9 = 1 ∨ j9 = 2 by omega) with rfl | rfl | rfl <;> rfl) rfl rfl ?_
  refine e_dup rfl dX9_init_116 ?_
  refine eJN0 (c1 := 2) (s1 := 67) mtX0_init rfl rfl miX0_init lnX9_56 dX9_init_117 rfl rfl rfl rfl (n_book g kup_s (by omega)) (fun r117 h117 n117 hp117 => ?_)
  obtain ⟨rfl, rfl, rfl⟩ := hp117
  dsimp only [Option.toList, List.nil_append]
  refine e_putF pfX9_57 dX9_init_120 rfl (by repeat (first | assumption | exact kup_s | refine kup_n (by omega) ?_)) rfl rfl rfl ?_
  dsimp only [List.set]
  refine e_return dX9_init_123 rfl ?_
  refine ⟨rfl, rfl, ?_⟩
  generalize hh : kup _ _ _ = h8
  have ko : ∀ j, j ≠ 0 → j < 91 → h8 j = h76 j := fun j j0 j1 => by rw [← hh]; exact (by repeat (first | rfl | refine (kup_o (by omega)).trans ?_))
  have kn : ∀ j, j ≠ 0 → j < 79 → h8 j = h9 j := fun j j0 j1 => (ko j j0 (by omega)).trans (kk j j0 j1)
  have e0 : h8 0 = some (kob 7 [.ref (gB G + 1), .ref (gB G + 3), .ref (gB G + 28), .ref (gB G + 79), .ref (gB G + 80), .ref (gB G + 91), .ref (gB G + 93), .ref (gB G + 94)]) := by rw [← hh]; exact kup_s
  have e91 : h8 91 = some (kUn G (0, 0, 0, 0, 0)) := by rw [← hh]; exact (by repeat (first | assumption | exact kup_s | refine kup_n (by omega) ?_))
  have e92 : h8 92 = some (kla 64 (fun _ => 0)) := by rw [← hh]; exact (by repeat (first | assumption | exact kup_s | refine kup_n (by omega) ?_))
  have e93 : h8 93 = some (kMa G 0) := by rw [← hh]; exact (by repeat (first | assumption | exact kup_s | refine kup_n (by omega) ?_))
  have e94 : rBk G h8 94 95 96 (fun _ => 0) kFE 0 := by rw [← hh]; exact ⟨(by repeat (first | assumption | exact kup_s | refine kup_n (by omega) ?_)), (by repeat (first | assumption | exact kup_s | refine kup_n (by omega) ?_)), (by repeat (first | assumption | exact kup_s | refine kup_n (by omega) ?_))⟩
  refine ⟨⟨e0, ⟨fr, (kn 28 (by omega) (by omega)).trans b4, b5⟩, rHu_cg u76 (ko 80 (by omega) (by omega)) (fun j j0 j1 => ko j (by omega) (by omega))⟩, rTx_cg b2 (kn 1 (by omega) (by omega)) (kn 2 (by omega) (by omega)), rHd_cg b3 (fun j j0 j1 => kn j (by omega) (by omega)), fun i hi => rHd_cg (b6 i hi) (fun j j0 j1 => kn j (by omega) (by omega)), (ko 79 (by omega) (by omega)).trans f79, ⟨_, e91⟩, ⟨_, e92⟩, ⟨_, e93⟩, _, _, _, e94⟩
set_option maxHeartbeats 4000000 in
set_option maxRecDepth 100000 in
theorem n_im_lp {G : kG} {d : Nat} {h : Nat → Option kC} (g : rSt G)  : ∀ (f : Nat) (k : Nat) (z : Int) (h9 : Nat → Option kC) (fr : Nat → Option Nat), z = (k : Int) → k + f = 2 → kIb G h9 k fr → kE G mX9_init (d + 3) (25 * f + 18) (559 * f + 308) 36 [some (.ref (gB G + 0)), some (.int (jI z))] [] h9 (29 + 25 * k) (fun r h' n' => r = none ∧ n' = 97 ∧ rKI G h' kZ0) := by
  intro f
  induction f with
  | zero =>
    intro k z h9 fr g1 g2 g3
    obtain ⟨b1, b2, b3, b4, b5, b6⟩ := id g3
    refine e_iload_n rfl dX9_init_36 ?_
    refine e_aload_n rfl dX9_init_37 ?_
    refine e_getf fdX9_23 dX9_init_38 (by first | assumption | exact kup_s | exact kup_n (by omega) (by first | assumption | exact kup_s | exact kup_n (by omega) (by first | assumption | exact kup_s | exact kup_n (by omega) (by assumption)))) rfl ?_
    refine e_alen dX9_init_41 (by first | assumption | exact kup_s | exact kup_n (by omega) (by first | assumption | exact kup_s | exact kup_n (by omega) (by first | assumption | exact kup_s | exact kup_n (by omega) (by assumption)))) (fun _ => rfl) ?_
    refine e_icmp_ge (tgt := 64) dX9_init_42 (by decide) (by first | assumption | (unfold inI at *; omega)) (by first | assumption | (unfold inI at *; omega)) (fun c42 => ?_) (fun c42 => ?_)
    · have e9 : k = 2 := by omega
      subst e9
      exact kE.less (n_class_tl (h := h) g g3) (by omega) (by omega)
    · exact absurd c42 (by omega)
  | succ f ih =>
    intro k z h9 fr g1 g2 g3
    obtain ⟨b1, b2, b3, b4, b5, b6⟩ := id g3
    subst g1
    refine e_iload_n rfl dX9_init_36 ?_
    refine e_aload_n rfl dX9_init_37 ?_
    refine e_getf fdX9_23 dX9_init_38 (by first | assumption | exact kup_s | exact kup_n (by omega) (by first | assumption | exact kup_s | exact kup_n (by omega) (by first | assumption | exact kup_s | exact kup_n (by omega) (by assumption)))) rfl ?_
    refine e_alen dX9_init_41 (by first | assumption | exact kup_s | exact kup_n (by omega) (by first | assumption | exact kup_s | exact kup_n (by omega) (by first | assumption | exact kup_s | exact kup_n (by omega) (by assumption)))) (fun _ => rfl) ?_
    refine e_icmp_ge (tgt := 64) dX9_init_42 (by decide) (by first | assumption | (unfold inI at *; omega)) (by first | assumption | (unfold inI at *; omega)) (fun c42 => ?_) (fun c42 => ?_)
    · exact absurd c42 (by omega)
    · refine e_aload_n rfl dX9_init_45 ?_
      refine e_getf fdX9_23 dX9_init_46 (by first | assumption | exact kup_s | exact kup_n (by omega) (by first | assumption | exact kup_s | exact kup_n (by omega) (by first | assumption | exact kup_s | exact kup_n (by omega) (by assumption)))) rfl ?_
      refine e_iload_n rfl dX9_init_49 ?_
      refine e_ob [.null, .null, .null, .null] nwX9_16 dX9_init_50 (fun j9 hj9 => by rcases (show j9 = 0 ∨ j9 = 1 ∨ j9 = 2 ∨ j9 = 3 by omega) with rfl | rfl | rfl | rfl <;> rfl) (Nat.ble_eq_true_of_le (by omega)) (Nat.ble_eq_true_of_le (by omega)) ?_
      refine e_dup rfl dX9_init_53 ?_
      refine eJ0 (c1 := 24) (s1 := 555) mtX2_init rfl rfl miX2_init lkX9_18 dX9_init_54 rfl rfl (Nat.ble_eq_true_of_le (by omega)) (Nat.ble_eq_true_of_le (by omega)) (n_hold g kup_s rfl) (fun r54 h54 n54 hp54 => ?_)
      obtain ⟨hr54, hn54, r54', k54⟩ := hp54
      subst hr54
      subst hn54
      dsimp only [Option.toList, List.nil_append]
      refine e_aast dX9_init_57 ((k54 28 (by omega)).trans (kup_n (by omega) b4)) r54'.1.1 rfl (fun _ => rfl) (by omega) (by omega) ?_
      rw [Int.toNat_natCast]
      refine e_iinc dX9_init_58 rfl rfl ?_
      dsimp only [List.set]
      refine e_goto (tgt := 36) dX9_init_61 (by decide) ?_
      refine kE.less (c0 := 25 * f + 18) (s0 := 559 * f + 308) ?_ (by omega) (by omega)
      rw [show 29 + 25 * k + 25 = 29 + 25 * (k + 1) by omega]
      have kq : ∀ j, j ≠ 28 → j < 29 + 25 * k → kup h54 28 (kra 4 2 (va_up fr k (some (gB G + (29 + 25 * k))))) j = h9 j := fun j j0 j1 => (kup_o j0).trans ((k54 j j1).trans (kup_o (by omega)))
      refine ih (k + 1) ((k : Int) + 1) _ _ (by omega) (by omega) ⟨(kq 0 (by omega) (by omega)).trans b1, rTx_cg b2 (kq 1 (by omega) (by omega)) (kq 2 (by omega) (by omega)), rHd_cg b3 (fun j j0 j1 => kq j (by omega) (by omega)), kup_s, fun j hj => ?_, fun j hj => ?_⟩
      · unfold va_up
        by_cases e : j = k
        · rw [if_pos e, e]
        · rw [if_neg e]
          exact b5 j (by omega)
      · by_cases e : j = k
        · rw [e]
          exact rHd_cg r54' (fun j j0 j1 => kup_o (by omega))
        · exact rHd_cg (b6 j (by omega)) (fun j j0 j1 => kq j (by omega) (by omega))
set_option maxHeartbeats 4000000 in
set_option maxRecDepth 100000 in
theorem n_class {G : kG} {d : Nat} {h : Nat → Option kC} {n : Nat} (g : rSt G) (hi : h 0 = some (kob 7 [.null, .null, .null, .null, .null, .null, .null, .null])) (hn : n = 1) : kCall G mX9_init (d + 3) 96 2049 [.ref (gB G + 0)] h n (fun r h' n' => r = none ∧ n' = 97 ∧ rKI G h' kZ0) := by
  show kE G mX9_init (d + 3) 96 2049 0 [some (.ref (gB G + 0)), none] [] h n _
  subst hn
  refine e_aload_n rfl dX9_init_0 ?_
  refine e_objInit lkX9_1 dX9_init_1 rfl ?_
  refine e_aload_n rfl dX9_init_4 ?_
  refine e_ob [.null, .int (jI 0)] nwX9_7 dX9_init_5 (fun j9 hj9 => by rcases (show j9 = 0 ∨ j9 = 1 by omega) with rfl | rfl <;> rfl) rfl rfl ?_
  refine e_dup rfl dX9_init_8 ?_
  refine eJN0 (c1 := 1) (s1 := 60) mtX7_init rfl rfl miX7_init lnX9_9 dX9_init_9 rfl rfl rfl rfl (n_text kup_s (by omega)) (fun r9 h9 n9 hp9 => ?_)
  obtain ⟨rfl, rfl, rfl⟩ := hp9
  dsimp only [Option.toList, List.nil_append]
  refine e_putF pfX9_10 dX9_init_12 rfl (by repeat (first | assumption | exact kup_s | refine kup_n (by omega) ?_)) rfl rfl rfl ?_
  dsimp only [List.set]
  refine e_aload_n rfl dX9_init_15 ?_
  refine e_ob [.null, .null, .null, .null] nwX9_16 dX9_init_16 (fun j9 hj9 => by rcases (show j9 = 0 ∨ j9 = 1 ∨ j9 = 2 ∨ j9 = 3 by omega) with rfl | rfl | rfl | rfl <;> rfl) rfl rfl ?_
  refine e_dup rfl dX9_init_19 ?_
  refine eJ0 (c1 := 24) (s1 := 555) mtX2_init rfl rfl miX2_init lkX9_18 dX9_init_20 rfl rfl rfl rfl (n_hold g kup_s rfl) (fun r20 h20 n20 hp20 => ?_)
  obtain ⟨hr20, hn20, r3, k3⟩ := hp20
  have hn20 : n20 = 28 := hn20
  subst hr20
  subst hn20
  dsimp only [Option.toList, List.nil_append]
  have f0 : h20 0 = some (kob 7 [.ref (gB G + 1), .null, .null, .null, .null, .null, .null, .null]) := (k3 0 (by omega)).trans (by repeat (first | assumption | exact kup_s | refine kup_n (by omega) ?_))
  have f1 : rTx G h20 1 2 0 (fun _ => 0) := ⟨(k3 1 (by omega)).trans (by repeat (first | assumption | exact kup_s | refine kup_n (by omega) ?_)), (k3 2 (by omega)).trans (by repeat (first | assumption | exact kup_s | refine kup_n (by omega) ?_))⟩
  refine e_putF pfX9_19 dX9_init_23 rfl f0 rfl rfl rfl ?_
  dsimp only [List.set]
  refine e_aload_n rfl dX9_init_26 ?_
  refine e_iconst dX9_init_27 ?_
  refine e_nar (t := 4) (N := 2) cwX9_16 la_7 (fun _ => rfl) dX9_init_28 rfl rfl rfl ?_
  refine e_putF pfX9_23 dX9_init_31 rfl (by repeat (first | assumption | exact kup_s | refine kup_n (by omega) ?_)) rfl rfl rfl ?_
  dsimp only [List.set]
  refine e_iconst dX9_init_34 ?_
  refine e_istore_n dX9_init_35 rfl rfl ?_
  dsimp only [List.set]
  exact kE.less (n_im_lp (h := h) g 2 0 0 _ (fun _ => none) (by omega) (by omega) ⟨(by repeat (first | assumption | exact kup_s | refine kup_n (by omega) ?_)), rTx_cg f1 (by repeat (first | rfl | refine (kup_o (by omega)).trans ?_)) (by repeat (first | rfl | refine (kup_o (by omega)).trans ?_)), rHd_cg r3 (fun j j0 j1 => (by repeat (first | rfl | refine (kup_o (by omega)).trans ?_))), (by repeat (first | assumption | exact kup_s | refine kup_n (by omega) ?_)), fun j hj => absurd hj (Nat.not_lt_zero j), fun j hj => absurd hj (Nat.not_lt_zero j)⟩) (by decide) (by decide)
