theorem kuh_o {G : kG} {h : Nat → Option kC} {P : Nat → Int} {q : Int × Int × Int × Int × Int} {a b c d e : Int} : kup (kuh G h P q) 91 (kob 6 [.ref (gB G + 80), .ref (gB G + 92), .int (jI a), .int (jI b), .int (jI c), .int (jI d), .int (jI e)]) = kuh G h P (a, b, c, d, e) := kup_kup
def kfi (so : Nat → Int) (t mid : Int) (i : Nat) : Int := if 0 ≤ ksp so t i ∧ ksp so t i < mid then ksp so t i else mid
def kla9 (so : Nat → Int) (t mid : Int) (i : Nat) : Int := if mid < ksq so t i then ksq so t i else mid
theorem kfi_no {so : Nat → Int} {t mid : Int} {i : Nat} (h : ¬ (so i ≠ -5 ∧ so i ≤ t)) : kfi so t mid (i + 1) = kfi so t mid i ∧ kla9 so t mid (i + 1) = kla9 so t mid i := by
  have h1 := ksp_in so t i
  have e1 : ksp so t (i + 1) = ksp so t i := by
    show (if _ then _ else if _ then _ else _) = _
    rw [if_neg h]
    split <;> omega
  have e2 : ksq so t (i + 1) = ksq so t i := if_neg h
  unfold kfi kla9
  rw [e1, e2]
  exact ⟨rfl, rfl⟩
theorem kfi_yes {so : Nat → Int} {t mid : Int} {i : Nat} (h : so i ≠ -5 ∧ so i ≤ t) : kfi so t mid (i + 1) = kmini (kfi so t mid i) i ∧ kla9 so t mid (i + 1) = kmaxi (kla9 so t mid i) i := by
  have h1 := ksp_in so t i
  have h2 := ksq_in so t i
  have e1 : ksp so t (i + 1) = if 0 ≤ ksp so t i then ksp so t i else (i : Int) := by
    show (if _ then _ else if _ then _ else _) = _
    rw [if_pos h]
  have e2 : ksq so t (i + 1) = (i : Int) := if_pos h
  unfold kfi kla9 kmini kmaxi
  rw [e1, e2]
  constructor <;> (repeat' split) <;> omega
set_option maxHeartbeats 4000000 in
set_option maxRecDepth 100000 in
theorem k_seekS_lp {G : kG} {d : Nat} {h : Nat → Option kC} {n : Nat} (ru : rHu G h 80 81) {b : Nat} {A E : Nat → Int} (rb : rBk G h b (b + 1) (b + 2) A E (ksum A 64)) (hb : b + 2 < 80 ∨ 92 < b) (hA : kAok A) {w l k : Int} (w1 : 1 ≤ w) (w8 : w ≤ 8) (l0 : 0 ≤ l) (l1 : l ≤ 63) (k0 : 0 ≤ k) (k1 : k ≤ 9) {sl : Int} (s0 : 0 ≤ sl) (s1 : sl ≤ 999)  : ∀ (f : Nat) (i : Nat) (z : Int) (P : Nat → Int) (e7 : Option Value), z = (i : Int) → i ≤ 64 → 64 - (i : Int) ≤ f → kE G mX8_seekSpan (d + 3) 0 0 28 [some (.ref (gB G + 91)), some (.ref (gB G + b)), some (.int (jI w)), some (.int (jI l)), some (.int (jI k)), some (.int (jI sl)), some (.int (jI z)), e7] [] (kuh G h P (l, kbm (kso A w l k) 64, kso A w l k (kbm (kso A w l k) 64).toNat, kfi (kso A w l k) (kso A w l k (kbm (kso A w l k) 64).toNat + sl) (kbm (kso A w l k) 64) i, kla9 (kso A w l k) (kso A w l k (kbm (kso A w l k) 64).toNat + sl) (kbm (kso A w l k) 64) i)) n (kfP G h n (l, (kbm (kso A w l k) 64), (kso A w l k (kbm (kso A w l k) 64).toNat), ksp (kso A w l k) (kso A w l k (kbm (kso A w l k) 64).toNat + sl) 64, ksq (kso A w l k) (kso A w l k (kbm (kso A w l k) 64).toNat + sl) 64)) := by
  have tA := kA_sum hA
  have z7 := kbm_in (kso A w l k) 64
  have z6 := kbm_min (kso A w l k) (show 63 < 64 by omega) (kso_last hA w1 w8 l1 k0 k1)
  have z5 : 0 ≤ kso A w l k (kbm (kso A w l k) 64).toNat ∧ kso A w l k (kbm (kso A w l k) 64).toNat ≤ 4200000 := by
    rcases kmf_in hA (m := ((kbm (kso A w l k) 64).toNat : Int)) (l := l) w1 w8 k0 k1 with y | y
    · rcases kbm_ok (kso A w l k) 64 with x | x
      · exact absurd x z6.1
      · exact absurd y x
    · exact y
  intro f
  induction f with
  | zero =>
    intro i z P e7 g1 g2 g3
    refine e_iload rfl dX8_seekSpan_28 ?_
    refine e_bipush (by decide) dX8_seekSpan_30 ?_
    refine e_icmp_ge (tgt := 99) dX8_seekSpan_32 (by decide) (by first | assumption | (unfold inI at *; omega)) (by first | assumption | (unfold inI at *; omega)) (fun c32 => ?_) (fun c32 => ?_)
    · refine e_return dX8_seekSpan_99 rfl ?_
      exact ⟨P, rfl, by rw [show i = 64 by omega]; have z4 := ksp_le (so := kso A w l k) (t := (kso A w l k (kbm (kso A w l k) 64).toNat + sl)) (j := (kbm (kso A w l k) 64).toNat) ⟨by omega, by omega⟩ (show (kbm (kso A w l k) 64).toNat < 64 by omega); rw [show kfi (kso A w l k) (kso A w l k (kbm (kso A w l k) 64).toNat + sl) (kbm (kso A w l k) 64) 64 = ksp (kso A w l k) (kso A w l k (kbm (kso A w l k) 64).toNat + sl) 64 by unfold kfi; split <;> omega, show kla9 (kso A w l k) (kso A w l k (kbm (kso A w l k) 64).toNat + sl) (kbm (kso A w l k) 64) 64 = ksq (kso A w l k) (kso A w l k (kbm (kso A w l k) 64).toNat + sl) 64 by unfold kla9; split <;> omega], rfl⟩
    · exact absurd c32 (by omega)
  | succ f ih =>
    intro i z P e7 g1 g2 g3
    subst g1
    have q8 := kmf_in hA (m := (i : Int)) (l := l) w1 w8 k0 k1
    have q4 : kmf A (i : Int) w l k = kso A w l k i := rfl
    have q3 : inI (kfi (kso A w l k) (kso A w l k (kbm (kso A w l k) 64).toNat + sl) (kbm (kso A w l k) 64) i) ∧ inI (kla9 (kso A w l k) (kso A w l k (kbm (kso A w l k) 64).toNat + sl) (kbm (kso A w l k) 64) i) := by
      have y1 := ksp_in (kso A w l k) (kso A w l k (kbm (kso A w l k) 64).toNat + sl) i
      have y2 := ksq_in (kso A w l k) (kso A w l k (kbm (kso A w l k) 64).toNat + sl) i
      unfold kfi kla9 inI
      constructor <;> split <;> omega
    refine e_iload rfl dX8_seekSpan_28 ?_
    refine e_bipush (by decide) dX8_seekSpan_30 ?_
    refine e_icmp_ge (tgt := 99) dX8_seekSpan_32 (by decide) (by first | assumption | (unfold inI at *; omega)) (by first | assumption | (unfold inI at *; omega)) (fun c32 => ?_) (fun c32 => ?_)
    · refine e_return dX8_seekSpan_99 rfl ?_
      exact ⟨P, rfl, by rw [show i = 64 by omega]; have z4 := ksp_le (so := kso A w l k) (t := (kso A w l k (kbm (kso A w l k) 64).toNat + sl)) (j := (kbm (kso A w l k) 64).toNat) ⟨by omega, by omega⟩ (show (kbm (kso A w l k) 64).toNat < 64 by omega); rw [show kfi (kso A w l k) (kso A w l k (kbm (kso A w l k) 64).toNat + sl) (kbm (kso A w l k) 64) 64 = ksp (kso A w l k) (kso A w l k (kbm (kso A w l k) 64).toNat + sl) 64 by unfold kfi; split <;> omega, show kla9 (kso A w l k) (kso A w l k (kbm (kso A w l k) 64).toNat + sl) (kbm (kso A w l k) 64) 64 = ksq (kso A w l k) (kso A w l k (kbm (kso A w l k) 64).toNat + sl) 64 by unfold kla9; split <;> omega], rfl⟩
    · refine e_aload_n rfl dX8_seekSpan_35 ?_
      refine e_aload_n rfl dX8_seekSpan_36 ?_
      refine e_iload rfl dX8_seekSpan_37 ?_
      refine e_iload_n rfl dX8_seekSpan_39 ?_
      refine e_iload_n rfl dX8_seekSpan_40 ?_
      refine e_iload rfl dX8_seekSpan_41 ?_
      refine eV5R mtX8_misfitOf miX8_misfitOf lkX8_50 dX8_seekSpan_43 kuh_9o rfl rfl rfl (k_misfitOf (kuh_hu P _ ru) kuh_91 (kuh_bk P _ rb hb) hb hA kuh_92 (by omega) (by omega) w1 w8 l0 l1 k0 k1) (fun r43 h43 n43 hp43 => ?_)
      obtain ⟨P9, hr9, hh9, hn9⟩ := hp43
      subst hr9
      subst hh9
      subst hn9
      rw [kuh_p]
      dsimp only [Option.toList, List.cons_append, List.nil_append]
      refine e_istore dX8_seekSpan_46 rfl rfl ?_
      dsimp only [List.set]
      refine e_iload rfl dX8_seekSpan_48 ?_
      refine e_bipush (by decide) dX8_seekSpan_50 ?_
      refine e_icmp_eq (tgt := 93) dX8_seekSpan_52 (by decide) (by unfold inI; omega) (by first | assumption | (unfold inI at *; omega)) (fun c52 => ?_) (fun c52 => ?_)
      · refine e_iinc dX8_seekSpan_93 rfl rfl ?_
        dsimp only [List.set]
        refine e_goto (tgt := 28) dX8_seekSpan_96 (by decide) ?_
        have q2 := ih (i + 1) ((i : Int) + 1) P9 (some (.int (jI (kmf A (i : Int) w l k)))) (by omega) (by omega) (by omega)
        first | (rw [(kfi_no (show ¬ (kso A w l k i ≠ -5 ∧ kso A w l k i ≤ (kso A w l k (kbm (kso A w l k) 64).toNat + sl)) by omega)).1, (kfi_no (show ¬ (kso A w l k i ≠ -5 ∧ kso A w l k i ≤ (kso A w l k (kbm (kso A w l k) 64).toNat + sl)) by omega)).2] at q2; exact q2) | (rw [(kfi_yes (show kso A w l k i ≠ -5 ∧ kso A w l k i ≤ (kso A w l k (kbm (kso A w l k) 64).toNat + sl) by omega)).1, (kfi_yes (show kso A w l k i ≠ -5 ∧ kso A w l k i ≤ (kso A w l k (kbm (kso A w l k) 64).toNat + sl) by omega)).2] at q2; exact q2)
      · refine e_iload rfl dX8_seekSpan_55 ?_
        refine e_aload_n rfl dX8_seekSpan_57 ?_
        refine e_getf fdX8_47 dX8_seekSpan_58 kuh_9o rfl ?_
        try dsimp only
        refine e_iload rfl dX8_seekSpan_61 ?_
        refine e_iadd dX8_seekSpan_63 ?_
        refine e_icmp_gt (tgt := 93) dX8_seekSpan_64 (by decide) (by unfold inI; omega) (by unfold inI; omega) (fun c64 => ?_) (fun c64 => ?_)
        · refine e_iinc dX8_seekSpan_93 rfl rfl ?_
          dsimp only [List.set]
          refine e_goto (tgt := 28) dX8_seekSpan_96 (by decide) ?_
          have q2 := ih (i + 1) ((i : Int) + 1) P9 (some (.int (jI (kmf A (i : Int) w l k)))) (by omega) (by omega) (by omega)
          first | (rw [(kfi_no (show ¬ (kso A w l k i ≠ -5 ∧ kso A w l k i ≤ (kso A w l k (kbm (kso A w l k) 64).toNat + sl)) by omega)).1, (kfi_no (show ¬ (kso A w l k i ≠ -5 ∧ kso A w l k i ≤ (kso A w l k (kbm (kso A w l k) 64).toNat + sl)) by omega)).2] at q2; exact q2) | (rw [(kfi_yes (show kso A w l k i ≠ -5 ∧ kso A w l k i ≤ (kso A w l k (kbm (kso A w l k) 64).toNat + sl) by omega)).1, (kfi_yes (show kso A w l k i ≠ -5 ∧ kso A w l k i ≤ (kso A w l k (kbm (kso A w l k) 64).toNat + sl) by omega)).2] at q2; exact q2)
        · refine e_aload_n rfl dX8_seekSpan_67 ?_
          refine e_aload_n rfl dX8_seekSpan_68 ?_
          refine e_getf fdX8_65 dX8_seekSpan_69 kuh_9o rfl ?_
          try dsimp only
          refine e_iload rfl dX8_seekSpan_72 ?_
          refine e_mmin q3.1 (by first | assumption | (unfold inI at *; omega)) lkX8_25 dX8_seekSpan_74 rfl ?_
          refine e_putf pfX8_65 dX8_seekSpan_77 kuh_9o rfl rfl rfl ?_
          dsimp only [List.set]
          rw [kuh_o]
          try dsimp only
          refine e_aload_n rfl dX8_seekSpan_80 ?_
          refine e_aload_n rfl dX8_seekSpan_81 ?_
          refine e_getf fdX8_68 dX8_seekSpan_82 kuh_9o rfl ?_
          try dsimp only
          refine e_iload rfl dX8_seekSpan_85 ?_
          refine e_mmax q3.2 (by first | assumption | (unfold inI at *; omega)) lkX8_19 dX8_seekSpan_87 rfl ?_
          refine e_putf pfX8_68 dX8_seekSpan_90 kuh_9o rfl rfl rfl ?_
          dsimp only [List.set]
          rw [kuh_o]
          try dsimp only
          refine e_iinc dX8_seekSpan_93 rfl rfl ?_
          dsimp only [List.set]
          refine e_goto (tgt := 28) dX8_seekSpan_96 (by decide) ?_
          have q2 := ih (i + 1) ((i : Int) + 1) P9 (some (.int (jI (kmf A (i : Int) w l k)))) (by omega) (by omega) (by omega)
          first | (rw [(kfi_no (show ¬ (kso A w l k i ≠ -5 ∧ kso A w l k i ≤ (kso A w l k (kbm (kso A w l k) 64).toNat + sl)) by omega)).1, (kfi_no (show ¬ (kso A w l k i ≠ -5 ∧ kso A w l k i ≤ (kso A w l k (kbm (kso A w l k) 64).toNat + sl)) by omega)).2] at q2; exact q2) | (rw [(kfi_yes (show kso A w l k i ≠ -5 ∧ kso A w l k i ≤ (kso A w l k (kbm (kso A w l k) 64).toNat + sl) by omega)).1, (kfi_yes (show kso A w l k i ≠ -5 ∧ kso A w l k i ≤ (kso A w l k (kbm (kso A w l k) 64).toNat + sl) by omega)).2] at q2; exact q2)
set_option maxHeartbeats 4000000 in
set_option maxRecDepth 100000 in
theorem k_seekSpan {G : kG} {d : Nat} {h : Nat → Option kC} {n : Nat} {q : Int × Int × Int × Int × Int} {P : Nat → Int} (hu : h 91 = some (kUn G q)) (hp : h 92 = some (kla 64 P)) (ru : rHu G h 80 81) {b : Nat} {A E : Nat → Int} (rb : rBk G h b (b + 1) (b + 2) A E (ksum A 64)) (hb : b + 2 < 80 ∨ 92 < b) (hA : kAok A) {w l k : Int} (w1 : 1 ≤ w) (w8 : w ≤ 8) (l0 : 0 ≤ l) (l1 : l ≤ 63) (k0 : 0 ≤ k) (k1 : k ≤ 9) {sl : Int} (s0 : 0 ≤ sl) (s1 : sl ≤ 999)  : kCall G mX8_seekSpan (d + 4) 0 0 [.ref (gB G + 91), .ref (gB G + b), .int (jI w), .int (jI l), .int (jI k), .int (jI sl)] h n (kfP G h n (l, (kbm (kso A w l k) 64), (kso A w l k (kbm (kso A w l k) 64).toNat), ksp (kso A w l k) (kso A w l k (kbm (kso A w l k) 64).toNat + sl) 64, ksq (kso A w l k) (kso A w l k (kbm (kso A w l k) 64).toNat + sl) 64)) := by
  show kE G mX8_seekSpan (d + 4) 0 0 0 [some (.ref (gB G + 91)), some (.ref (gB G + b)), some (.int (jI w)), some (.int (jI l)), some (.int (jI k)), some (.int (jI sl)), none, none] [] h n _
  have tA := kA_sum hA
  have z7 := kbm_in (kso A w l k) 64
  have z6 := kbm_min (kso A w l k) (show 63 < 64 by omega) (kso_last hA w1 w8 l1 k0 k1)
  have z5 : 0 ≤ kso A w l k (kbm (kso A w l k) 64).toNat ∧ kso A w l k (kbm (kso A w l k) 64).toNat ≤ 4200000 := by
    rcases kmf_in hA (m := ((kbm (kso A w l k) 64).toNat : Int)) (l := l) w1 w8 k0 k1 with y | y
    · rcases kbm_ok (kso A w l k) 64 with x | x
      · exact absurd x z6.1
      · exact absurd y x
    · exact y
  have hu0 := hu
  unfold kUn at hu
  refine e_aload_n rfl dX8_seekSpan_0 ?_
  refine e_aload_n rfl dX8_seekSpan_1 ?_
  refine e_iload_n rfl dX8_seekSpan_2 ?_
  refine e_iload_n rfl dX8_seekSpan_3 ?_
  refine e_iload rfl dX8_seekSpan_4 ?_
  refine eV4R mtX8_seekMiddle miX8_seekMiddle lkX8_58 dX8_seekSpan_6 (by first | assumption | exact kup_s | exact kup_n (by omega) (by first | assumption | exact kup_s | exact kup_n (by omega) (by first | assumption | exact kup_s | exact kup_n (by omega) (by assumption)))) rfl rfl rfl (k_seekMiddle hu0 hp ru rb hb hA w1 w8 l0 l1 k0 k1) (fun r6 h6 n6 hp6 => ?_)
  obtain ⟨P9, hr9, hh9, hn9⟩ := hp6
  subst hr9
  subst hh9
  subst hn9
  dsimp only [Option.toList, List.cons_append, List.nil_append]
  refine e_aload_n rfl dX8_seekSpan_9 ?_
  refine e_aload_n rfl dX8_seekSpan_10 ?_
  refine e_getf fdX8_62 dX8_seekSpan_11 kuh_9o rfl ?_
  try dsimp only
  refine e_putf pfX8_65 dX8_seekSpan_14 kuh_9o rfl rfl rfl ?_
  dsimp only [List.set]
  rw [kuh_o]
  try dsimp only
  refine e_aload_n rfl dX8_seekSpan_17 ?_
  refine e_aload_n rfl dX8_seekSpan_18 ?_
  refine e_getf fdX8_62 dX8_seekSpan_19 kuh_9o rfl ?_
  try dsimp only
  refine e_putf pfX8_68 dX8_seekSpan_22 kuh_9o rfl rfl rfl ?_
  dsimp only [List.set]
  rw [kuh_o]
  try dsimp only
  refine e_iconst dX8_seekSpan_25 ?_
  refine e_istore dX8_seekSpan_26 rfl rfl ?_
  dsimp only [List.set]
  have q2 := k_seekS_lp (n := n6) (d := d + 1) ru rb hb hA w1 w8 l0 l1 k0 k1 s0 s1 100 0 0 P9 none (by omega) (by omega) (by omega)
  rw [show kfi (kso A w l k) (kso A w l k (kbm (kso A w l k) 64).toNat + sl) (kbm (kso A w l k) 64) 0 = (kbm (kso A w l k) 64) by unfold kfi; rw [if_neg (by unfold ksp; omega)], show kla9 (kso A w l k) (kso A w l k (kbm (kso A w l k) 64).toNat + sl) (kbm (kso A w l k) 64) 0 = (kbm (kso A w l k) 64) by unfold kla9; rw [if_neg (by unfold ksq; omega)]] at q2
  exact q2
