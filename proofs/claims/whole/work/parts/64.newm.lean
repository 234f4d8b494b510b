/-! NEW OBJECTS: THE REFERENCE -/
def kMl0 (G : kG) (t : Nat) : List Value := [if 0 < t then .ref (gB G + 98) else .null, if 1 < t then .ref (gB G + 99) else .null, if 2 < t then .ref (gB G + 100) else .null, if 3 < t then .ref (gB G + 101) else .null, if 4 < t then .ref (gB G + 102) else .null, if 5 < t then .ref (gB G + 103) else .null, .int (jI 0), if 6 < t then .ref (gB G + 104) else .null, if 7 < t then .ref (gB G + 105) else .null, .int (jI 0), if 8 < t then .ref (gB G + 106) else .null, if 9 < t then .ref (gB G + 107) else .null, if 10 < t then .ref (gB G + 108) else .null, .int (jI 0), if 11 < t then .ref (gB G + 109) else .null, if 12 < t then .ref (gB G + 110) else .null, .int (jI 0), if 13 < t then .ref (gB G + 111) else .null, .int (jI 0), .int (jI 0), .int (jI 0), .int (jI 0), .int (jI 0), .long (jL 0), .long (jL 0), .long (jL 0), .long (jL 0), .int (jI 0), if 14 < t then .ref (gB G + 112) else .null, if 15 < t then .ref (gB G + 113) else .null, if 16 < t then .ref (gB G + 114) else .null, .int (jI 0), .int (jI 0)]
def kra9 (t : Nat) : kC := if t = 16 then kza 2 (fun _ => 0) else kia (ksz (98 + t)) (fun _ => 0)
/-- t rows being there -/
def kIh (G : kG) (h : Nat → Option kC) (t : Nat) : Nat → Option kC := fun j => if j = 97 then some (kob 8 (kMl0 G t)) else if 98 ≤ j ∧ j < 98 + t then some (kra9 (j - 98)) else h j
theorem kIh_97 {G : kG} {h : Nat → Option kC} {t : Nat} : kIh G h t 97 = some (kob 8 (kMl0 G t)) := if_pos rfl
theorem kIh_s {G : kG} {h : Nat → Option kC} {t : Nat} : kup (kup (kIh G h t) (98 + t) (kra9 t)) 97 (kob 8 (kMl0 G (t + 1))) = kIh G h (t + 1) := by
  funext j
  unfold kup kIh
  by_cases e1 : j = 97
  · rw [if_pos e1, if_pos e1]
  · rw [if_neg e1, if_neg e1, if_neg e1]
    by_cases e2 : j = 98 + t
    · rw [if_pos e2, if_pos (by omega), show j - 98 = t by omega]
    · rw [if_neg e2]
      by_cases e3 : 98 ≤ j ∧ j < 98 + t
      · rw [if_pos e3, if_pos (by omega)]
      · rw [if_neg e3, if_neg (by omega)]
theorem kIh_e {G : kG} {h : Nat → Option kC} : kIh G h 17 = kmh G h (fun _ => 0) (fun _ _ => 0) := by
  funext j
  unfold kIh kmh
  by_cases e1 : j = 97
  · rw [if_pos e1, if_pos e1]
    rfl
  · rw [if_neg e1, if_neg e1]
    by_cases e2 : 98 ≤ j ∧ j ≤ 113
    · rw [if_pos (by omega), if_pos e2]
      unfold kra9
      rw [if_neg (by omega), show 98 + (j - 98) = j by omega]
    · rw [if_neg e2]
      by_cases e3 : j = 114
      · rw [if_pos (by omega), if_pos e3, e3]
        rfl
      · rw [if_neg (by omega), if_neg e3]
def kF0 : Nat → Nat → Int := up2 (fun _ _ => 0) 100 (fun j => if j < 6 then 25 else 0)
theorem rMD_0 : rMD (fun _ => 0) kF0 kZ0 := by
  refine ⟨⟨fun b x _ _ => rfl, fun b hb => ⟨rfl, ?_, rfl⟩, fun k _ => rfl, ⟨rfl, by decide, by decide, rfl, fun k _ => ⟨Int.le_refl 0, Int.le_refl 0⟩, fun k hk => ?_, fun k hk => ?_, fun y a => rfl⟩, rfl, by decide, fun k hk => ?_, fun a _ => ?_⟩, rfl, fun j _ => rfl, fun i _ => rfl, fun i _ h => absurd rfl h⟩
  · show (if b < 6 then (25 : Int) else 0) = 25
    rw [if_pos hb]
  · exact absurd hk (by dsimp only; omega)
  · exact absurd hk (by dsimp only; omega)
  · exact absurd hk (by dsimp only; omega)
  · show (0 : Int) = (if (0 : Int) = a then 0 else 0)
    split <;> rfl
theorem kCok_0 : kCok kZ0 := by
  have hS : kHok kS0 := by
    refine ⟨fun i _ j _ => ?_, fun i _ => ?_, ?_, ?_, ?_⟩
    · show (0 : Int) ≤ 0 ∧ (0 : Int) ≤ 999
      decide
    · show (0 ≤ kFE 0 ∧ kFE 0 ≤ 99) ∧ (14 ≤ kFE 1 ∧ kFE 1 ≤ 40) ∧ (0 ≤ kFE 2 ∧ kFE 2 ≤ 2)
      decide
    · show ((0 : Int) ≤ 0 ∧ (0 : Int) ≤ 9) ∧ ((0 : Int) ≤ 0 ∧ (0 : Int) ≤ 9) ∧ ((0 : Int) ≤ 0 ∧ (0 : Int) ≤ 4) ∧ ((0 : Int) ≤ 0 ∧ (0 : Int) ≤ 10) ∧ ((0 : Int) ≤ 0 ∧ (0 : Int) ≤ 10)
      decide
    · refine ⟨Int.le_refl 0, by decide, fun j _ => ?_, Or.inl rfl, ?_, ?_⟩
      · show (0 : Int) ≤ 0 ∧ (0 : Int) ≤ 126
        decide
      · show (0 : Int) ≤ 0 ∧ (0 : Int) ≤ 999
        decide
      · show (0 : Int) ≤ 0 ∧ (0 : Int) ≤ 999
        decide
    · refine ⟨Int.le_refl 0, by decide, fun j _ => ?_, Or.inl rfl, ?_, ?_⟩
      · show (0 : Int) ≤ 0 ∧ (0 : Int) ≤ 126
        decide
      · show (0 : Int) ≤ 0 ∧ (0 : Int) ≤ 999
        decide
      · show (0 : Int) ≤ 0 ∧ (0 : Int) ≤ 999
        decide
  refine ⟨hS, ⟨Int.le_refl 0, by decide, fun j _ => ?_⟩, fun i _ => hS, fun i _ => Or.inl rfl⟩
  show (0 : Int) ≤ 0 ∧ (0 : Int) ≤ 126
  decide
theorem kAg_s {k : Nat} (hk : k < 6) : up2 (up2 (fun _ _ => 0) 100 (fun j => if j < k then 25 else 0)) 100 (up (up2 (fun _ _ => 0) 100 (fun j => if j < k then (25 : Int) else 0) 100) k 25) = up2 (fun _ _ => 0) 100 (fun j => if j < k + 1 then 25 else 0) := by
  rw [up2_s, up2_up2]
  congr 1
  funext j
  unfold up
  by_cases e : j = k
  · rw [if_pos e, if_pos (by omega)]
  · rw [if_neg e]
    by_cases e2 : j < k
    · dsimp only
      rw [if_pos e2, if_pos (by omega)]
    · dsimp only
      rw [if_neg e2, if_neg (by omega)]
set_option maxHeartbeats 4000000 in
set_option maxRecDepth 100000 in
theorem n_mod_lp {G : kG} {d : Nat} {h : Nat → Option kC} {n : Nat}  : ∀ (f : Nat) (k : Nat) (z : Int), z = (k : Int) → k ≤ 6 → 6 - k ≤ f → kE G mX10_init d (0) (0) 142 [some (.ref (gB G + 97)), some (.int (jI z))] [] (kmh G h (fun _ => 0) (up2 (fun _ _ => 0) 100 (fun j => if j < k then 25 else 0))) (n) (kre none (kmh G h (fun _ => 0) kF0) n) := by
  intro f
  induction f with
  | zero =>
    intro k z g1 g2 g3
    refine e_iload_n rfl dX10_init_142 ?_
    refine e_bipush (by decide) dX10_init_143 ?_
    refine e_icmp_ge (tgt := 162) dX10_init_145 (by decide) (by first | assumption | (unfold inI at *; omega)) (by first | assumption | (unfold inI at *; omega)) (fun c145 => ?_) (fun c145 => ?_)
    · refine e_return dX10_init_162 rfl ?_
      have e9 : k = 6 := by omega
      subst e9
      exact ⟨rfl, rfl, rfl⟩
    · exact absurd c145 (by omega)
  | succ f ih =>
    intro k z g1 g2 g3
    subst g1
    refine e_iload_n rfl dX10_init_142 ?_
    refine e_bipush (by decide) dX10_init_143 ?_
    refine e_icmp_ge (tgt := 162) dX10_init_145 (by decide) (by first | assumption | (unfold inI at *; omega)) (by first | assumption | (unfold inI at *; omega)) (fun c145 => ?_) (fun c145 => ?_)
    · refine e_return dX10_init_162 rfl ?_
      have e9 : k = 6 := by omega
      subst e9
      exact ⟨rfl, rfl, rfl⟩
    · refine e_aload_n rfl dX10_init_148 ?_
      refine e_getf fdX10_16 dX10_init_149 kmh_97 rfl ?_
      refine e_iload_n rfl dX10_init_152 ?_
      refine e_bipush (by decide) dX10_init_153 ?_
      refine e_mst (by first | exact ka98 | exact ka99 | exact ka100 | exact ka101 | exact ka102 | exact ka103 | exact ka104 | exact ka105 | exact ka106 | exact ka107 | exact ka108 | exact ka109 | exact ka110 | exact ka111 | exact ka112 | exact ka113) dX10_init_155 (by omega) (by omega) ?_
      rw [Int.toNat_natCast, kAg_s (by omega)]
      refine e_iinc dX10_init_156 rfl rfl ?_
      dsimp only [List.set]
      refine e_goto (tgt := 142) dX10_init_159 (by decide) ?_
      exact ih (k + 1) _ (by omega) (by omega) (by omega)
set_option maxHeartbeats 4000000 in
set_option maxRecDepth 100000 in
theorem n_model {G : kG} {d : Nat} {h : Nat → Option kC} : kCall G mX10_init (d + 1) 17 2091 [.ref (gB G + 97)] (kIh G h 0) 98 (kre none (kmh G h (fun _ => 0) kF0) 115) := by
  show kE G mX10_init (d + 1) 17 2091 0 [some (.ref (gB G + 97)), none] [] (kIh G h 0) 98 _
  refine e_aload_n rfl dX10_init_0 ?_
  refine e_objInit lkX10_1 dX10_init_1 rfl ?_
  refine e_aload_n rfl dX10_init_4 ?_
  refine e_sipush (by decide) dX10_init_5 ?_
  refine e_na (N := 384) dX10_init_8 rfl rfl rfl ?_
  refine e_putF pfX10_7 dX10_init_10 rfl (kup_n (by omega) kIh_97) rfl rfl rfl ?_
  rw [show (kMl0 G 0).set 0 (.ref (gB G + 98)) = kMl0 G 1 from rfl, show (kia 384 (fun _ => 0)) = kra9 0 from rfl, kIh_s]
  refine e_aload_n rfl dX10_init_13 ?_
  refine e_bipush (by decide) dX10_init_14 ?_
  refine e_na (N := 6) dX10_init_16 rfl rfl rfl ?_
  refine e_putF pfX10_13 dX10_init_18 rfl (kup_n (by omega) kIh_97) rfl rfl rfl ?_
  rw [show (kMl0 G 1).set 1 (.ref (gB G + 99)) = kMl0 G 2 from rfl, show (kia 6 (fun _ => 0)) = kra9 1 from rfl, kIh_s]
  refine e_aload_n rfl dX10_init_21 ?_
  refine e_bipush (by decide) dX10_init_22 ?_
  refine e_na (N := 6) dX10_init_24 rfl rfl rfl ?_
  refine e_putF pfX10_16 dX10_init_26 rfl (kup_n (by omega) kIh_97) rfl rfl rfl ?_
  rw [show (kMl0 G 2).set 2 (.ref (gB G + 100)) = kMl0 G 3 from rfl, show (kia 6 (fun _ => 0)) = kra9 2 from rfl, kIh_s]
  refine e_aload_n rfl dX10_init_29 ?_
  refine e_bipush (by decide) dX10_init_30 ?_
  refine e_na (N := 6) dX10_init_32 rfl rfl rfl ?_
  refine e_putF pfX10_19 dX10_init_34 rfl (kup_n (by omega) kIh_97) rfl rfl rfl ?_
  rw [show (kMl0 G 3).set 3 (.ref (gB G + 101)) = kMl0 G 4 from rfl, show (kia 6 (fun _ => 0)) = kra9 3 from rfl, kIh_s]
  refine e_aload_n rfl dX10_init_37 ?_
  refine e_iconst dX10_init_38 ?_
  refine e_na (N := 5) dX10_init_39 rfl rfl rfl ?_
  refine e_putF pfX10_22 dX10_init_41 rfl (kup_n (by omega) kIh_97) rfl rfl rfl ?_
  rw [show (kMl0 G 4).set 4 (.ref (gB G + 102)) = kMl0 G 5 from rfl, show (kia 5 (fun _ => 0)) = kra9 4 from rfl, kIh_s]
  refine e_aload_n rfl dX10_init_44 ?_
  refine e_bipush (by decide) dX10_init_45 ?_
  refine e_na (N := 60) dX10_init_47 rfl rfl rfl ?_
  refine e_putF pfX10_25 dX10_init_49 rfl (kup_n (by omega) kIh_97) rfl rfl rfl ?_
  rw [show (kMl0 G 5).set 5 (.ref (gB G + 103)) = kMl0 G 6 from rfl, show (kia 60 (fun _ => 0)) = kra9 5 from rfl, kIh_s]
  refine e_aload_n rfl dX10_init_52 ?_
  refine e_bipush (by decide) dX10_init_53 ?_
  refine e_na (N := 21) dX10_init_55 rfl rfl rfl ?_
  refine e_putF pfX10_28 dX10_init_57 rfl (kup_n (by omega) kIh_97) rfl rfl rfl ?_
  rw [show (kMl0 G 6).set 7 (.ref (gB G + 104)) = kMl0 G 7 from rfl, show (kia 21 (fun _ => 0)) = kra9 6 from rfl, kIh_s]
  refine e_aload_n rfl dX10_init_60 ?_
  refine e_bipush (by decide) dX10_init_61 ?_
  refine e_na (N := 20) dX10_init_63 rfl rfl rfl ?_
  refine e_putF pfX10_31 dX10_init_65 rfl (kup_n (by omega) kIh_97) rfl rfl rfl ?_
  rw [show (kMl0 G 7).set 8 (.ref (gB G + 105)) = kMl0 G 8 from rfl, show (kia 20 (fun _ => 0)) = kra9 7 from rfl, kIh_s]
  refine e_aload_n rfl dX10_init_68 ?_
  refine e_bipush (by decide) dX10_init_69 ?_
  refine e_na (N := 20) dX10_init_71 rfl rfl rfl ?_
  refine e_putF pfX10_34 dX10_init_73 rfl (kup_n (by omega) kIh_97) rfl rfl rfl ?_
  rw [show (kMl0 G 8).set 10 (.ref (gB G + 106)) = kMl0 G 9 from rfl, show (kia 20 (fun _ => 0)) = kra9 8 from rfl, kIh_s]
  refine e_aload_n rfl dX10_init_76 ?_
  refine e_bipush (by decide) dX10_init_77 ?_
  refine e_na (N := 20) dX10_init_79 rfl rfl rfl ?_
  refine e_putF pfX10_37 dX10_init_81 rfl (kup_n (by omega) kIh_97) rfl rfl rfl ?_
  rw [show (kMl0 G 9).set 11 (.ref (gB G + 107)) = kMl0 G 10 from rfl, show (kia 20 (fun _ => 0)) = kra9 9 from rfl, kIh_s]
  refine e_aload_n rfl dX10_init_84 ?_
  refine e_bipush (by decide) dX10_init_85 ?_
  refine e_na (N := 20) dX10_init_87 rfl rfl rfl ?_
  refine e_putF pfX10_40 dX10_init_89 rfl (kup_n (by omega) kIh_97) rfl rfl rfl ?_
  rw [show (kMl0 G 10).set 12 (.ref (gB G + 108)) = kMl0 G 11 from rfl, show (kia 20 (fun _ => 0)) = kra9 10 from rfl, kIh_s]
  refine e_aload_n rfl dX10_init_92 ?_
  refine e_bipush (by decide) dX10_init_93 ?_
  refine e_na (N := 20) dX10_init_95 rfl rfl rfl ?_
  refine e_putF pfX10_43 dX10_init_97 rfl (kup_n (by omega) kIh_97) rfl rfl rfl ?_
  rw [show (kMl0 G 11).set 14 (.ref (gB G + 109)) = kMl0 G 12 from rfl, show (kia 20 (fun _ => 0)) = kra9 11 from rfl, kIh_s]
  refine e_aload_n rfl dX10_init_100 ?_
  refine e_bipush (by decide) dX10_init_101 ?_
  refine e_na (N := 20) dX10_init_103 rfl rfl rfl ?_
  refine e_putF pfX10_46 dX10_init_105 rfl (kup_n (by omega) kIh_97) rfl rfl rfl ?_
  rw [show (kMl0 G 12).set 15 (.ref (gB G + 110)) = kMl0 G 13 from rfl, show (kia 20 (fun _ => 0)) = kra9 12 from rfl, kIh_s]
  refine e_aload_n rfl dX10_init_108 ?_
  refine e_bipush (by decide) dX10_init_109 ?_
  refine e_na (N := 17) dX10_init_111 rfl rfl rfl ?_
  refine e_putF pfX10_49 dX10_init_113 rfl (kup_n (by omega) kIh_97) rfl rfl rfl ?_
  rw [show (kMl0 G 13).set 17 (.ref (gB G + 111)) = kMl0 G 14 from rfl, show (kia 17 (fun _ => 0)) = kra9 13 from rfl, kIh_s]
  refine e_aload_n rfl dX10_init_116 ?_
  refine e_bipush (by decide) dX10_init_117 ?_
  refine e_na (N := 64) dX10_init_119 rfl rfl rfl ?_
  refine e_putF pfX10_52 dX10_init_121 rfl (kup_n (by omega) kIh_97) rfl rfl rfl ?_
  rw [show (kMl0 G 14).set 28 (.ref (gB G + 112)) = kMl0 G 15 from rfl, show (kia 64 (fun _ => 0)) = kra9 14 from rfl, kIh_s]
  refine e_aload_n rfl dX10_init_124 ?_
  refine e_sipush (by decide) dX10_init_125 ?_
  refine e_na (N := 1400) dX10_init_128 rfl rfl rfl ?_
  refine e_putF pfX10_55 dX10_init_130 rfl (kup_n (by omega) kIh_97) rfl rfl rfl ?_
  rw [show (kMl0 G 15).set 29 (.ref (gB G + 113)) = kMl0 G 16 from rfl, show (kia 1400 (fun _ => 0)) = kra9 15 from rfl, kIh_s]
  refine e_aload_n rfl dX10_init_133 ?_
  refine e_iconst dX10_init_134 ?_
  refine e_naz (N := 2) dX10_init_135 rfl rfl rfl ?_
  refine e_putF pfX10_58 dX10_init_137 rfl (kup_n (by omega) kIh_97) rfl rfl rfl ?_
  rw [show (kMl0 G 16).set 30 (.ref (gB G + 114)) = kMl0 G 17 from rfl, show (kza 2 (fun _ => 0)) = kra9 16 from rfl, kIh_s]
  refine e_iconst dX10_init_140 ?_
  refine e_istore_n dX10_init_141 rfl rfl ?_
  dsimp only [List.set]
  rw [kIh_e]
  have q9 := n_mod_lp (G := G) (d := d + 1) (h := h) (n := 115) 6 0 0 (by omega) (by omega) (by omega)
  rw [show up2 (fun _ _ => 0) 100 (fun j => if j < 0 then (25 : Int) else 0) = fun _ _ => 0 by funext j k; unfold up2; split <;> rfl] at q9
  exact kE.less q9 (by omega) (by omega)
