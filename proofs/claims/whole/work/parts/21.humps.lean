/-- the HUMPS' rows stand at a: the object, the outer row at b, inner rows from b + 1 on -/
def rHu (G : kG) (h : Nat → Option kC) (a b : Nat) : Prop := h a = some (kob 2 [.ref (gB G + b)]) ∧ h b = some (kra 5 9 (fun i => if i < 9 then some (gB G + (b + 1 + i)) else none)) ∧ ∀ w : Nat, w < 9 → h (b + 1 + w) = some (kia 17 (fun k => kbn8 w k))
set_option maxHeartbeats 4000000 in
set_option maxRecDepth 100000 in
theorem k_waysOf {G : kG} {d : Nat} {h : Nat → Option kC} {n : Nat} {a b : Nat} (r : rHu G h a b) {w k : Int} (hw : inI w) (hk : inI k) (hw1 : 1 ≤ w) (hw8 : w ≤ 8) : kCall G mX3_waysOf d 0 0 [.ref (gB G + a), .int (jI w), .int (jI k)] h n (kre (some (.int (jI (kch w k)))) h n) := by
  show kE G mX3_waysOf d 0 0 0 [some (.ref (gB G + a)), some (.int (jI w)), some (.int (jI k))] [] h n _
  obtain ⟨r1, r2, r3⟩ := id r
  refine e_iload_n rfl dX3_waysOf_0 ?_
  refine e_iconst dX3_waysOf_1 ?_
  refine e_icmp_lt (tgt := 22) dX3_waysOf_2 (by decide) (by first | assumption | (unfold inI at *; omega)) (by first | assumption | (unfold inI at *; omega)) (fun c2 => ?_) (fun c2 => ?_)
  · exact absurd c2 (by omega)
  · refine e_iload_n rfl dX3_waysOf_5 ?_
    refine e_bipush (by decide) dX3_waysOf_6 ?_
    refine e_icmp_gt (tgt := 22) dX3_waysOf_8 (by decide) (by first | assumption | (unfold inI at *; omega)) (by first | assumption | (unfold inI at *; omega)) (fun c8 => ?_) (fun c8 => ?_)
    · exact absurd c8 (by omega)
    · refine e_iload_n rfl dX3_waysOf_11 ?_
      refine e_if_lt (tgt := 22) dX3_waysOf_12 (by decide) (by first | assumption | (unfold inI at *; omega)) (fun c12 => ?_) (fun c12 => ?_)
      · refine e_iconst dX3_waysOf_22 ?_
        have e9 : kch w k = 0 := by
          rcases (show k < 0 ∨ 2 * w < k by omega) with q | q
          · exact kch_lo q
          · exact kch_hi hw1 hw8 q
        refine e_goto (tgt := 34) dX3_waysOf_23 (by decide) ?_
        refine e_ireturn dX3_waysOf_34 rfl rfl ?_
        exact ⟨by first | rw [e9] | (unfold kch; rw [if_pos (by omega)]), rfl, rfl⟩
      · refine e_iload_n rfl dX3_waysOf_15 ?_
        refine e_iconst dX3_waysOf_16 ?_
        refine e_iload_n rfl dX3_waysOf_17 ?_
        refine e_imul dX3_waysOf_18 ?_
        refine e_icmp_le (tgt := 26) dX3_waysOf_19 (by decide) (by first | assumption | (unfold inI at *; omega)) (by first | assumption | (unfold inI at *; omega)) (fun c19 => ?_) (fun c19 => ?_)
        · refine e_aload_n rfl dX3_waysOf_26 ?_
          refine e_getf fdX3_11 dX3_waysOf_27 (by first | assumption | exact kup_s | exact kup_n (by omega) (by first | assumption | exact kup_s | exact kup_n (by omega) (by first | assumption | exact kup_s | exact kup_n (by omega) (by assumption)))) rfl ?_
          refine e_iload_n rfl dX3_waysOf_30 ?_
          refine e_aald (j := b + 1 + w.toNat) dX3_waysOf_31 (by first | assumption | exact kup_s | exact kup_n (by omega) (by first | assumption | exact kup_s | exact kup_n (by omega) (by first | assumption | exact kup_s | exact kup_n (by omega) (by assumption)))) (fun _ => rfl) rfl (by omega) (by omega) (by rw [if_pos (by omega)]) ?_
          have r4 := r3 w.toNat (by omega)
          refine e_iload_n rfl dX3_waysOf_32 ?_
          refine e_iald dX3_waysOf_33 (by first | assumption | exact kup_s | exact kup_n (by omega) (by first | assumption | exact kup_s | exact kup_n (by omega) (by first | assumption | exact kup_s | exact kup_n (by omega) (by assumption)))) (by omega) (by omega) ?_
          refine e_ireturn dX3_waysOf_34 rfl rfl ?_
          exact ⟨by first | rw [e9] | (unfold kch; rw [if_pos (by omega)]), rfl, rfl⟩
        · refine e_iconst dX3_waysOf_22 ?_
          have e9 : kch w k = 0 := by
            rcases (show k < 0 ∨ 2 * w < k by omega) with q | q
            · exact kch_lo q
            · exact kch_hi hw1 hw8 q
          refine e_goto (tgt := 34) dX3_waysOf_23 (by decide) ?_
          refine e_ireturn dX3_waysOf_34 rfl rfl ?_
          exact ⟨by first | rw [e9] | (unfold kch; rw [if_pos (by omega)]), rfl, rfl⟩
set_option maxHeartbeats 4000000 in
set_option maxRecDepth 100000 in
theorem k_menAtH {G : kG} {d : Nat} {h : Nat → Option kC} {n : Nat} {a b : Nat} (r : rHu G h a b) {m w x : Int} (hm : 0 ≤ m) (hm1 : m ≤ 63) (hx : -1000 ≤ x) (hx1 : x ≤ 1000) (hw1 : 1 ≤ w) (hw8 : w ≤ 8) : kCall G mX3_menAt (d + 1) 0 0 [.ref (gB G + a), .int (jI m), .int (jI w), .int (jI x)] h n (kre (some (.int (jI (khm m w x)))) h n) := by
  show kE G mX3_menAt (d + 1) 0 0 0 [some (.ref (gB G + a)), some (.int (jI m)), some (.int (jI w)), some (.int (jI x))] [] h n _
  obtain ⟨r1, r2, r3⟩ := id r
  refine e_iload_n rfl dX3_menAt_0 ?_
  refine e_if_lt (tgt := 10) dX3_menAt_1 (by decide) (by first | assumption | (unfold inI at *; omega)) (fun c1 => ?_) (fun c1 => ?_)
  · refine e_iconst dX3_menAt_10 ?_
    refine e_goto (tgt := 24) dX3_menAt_11 (by decide) ?_
    refine e_ireturn dX3_menAt_24 rfl rfl ?_
    exact ⟨by first | (unfold khm; rw [if_pos (by omega)]; done) | rw [khm_out (by omega)], rfl, rfl⟩
  · refine e_iload_n rfl dX3_menAt_4 ?_
    refine e_bipush (by decide) dX3_menAt_5 ?_
    refine e_icmp_le (tgt := 14) dX3_menAt_7 (by decide) (by first | assumption | (unfold inI at *; omega)) (by first | assumption | (unfold inI at *; omega)) (fun c7 => ?_) (fun c7 => ?_)
    · refine e_aload_n rfl dX3_menAt_14 ?_
      refine e_iload_n rfl dX3_menAt_15 ?_
      refine e_iload_n rfl dX3_menAt_16 ?_
      refine e_iload_n rfl dX3_menAt_17 ?_
      refine e_isub dX3_menAt_18 ?_
      refine e_iload_n rfl dX3_menAt_19 ?_
      refine e_iadd dX3_menAt_20 ?_
      refine eV2 mtX3_waysOf miX3_waysOf lkX3_16 dX3_menAt_21 (by first | assumption | exact kup_s | exact kup_n (by omega) (by first | assumption | exact kup_s | exact kup_n (by omega) (by first | assumption | exact kup_s | exact kup_n (by omega) (by assumption)))) rfl rfl rfl (k_waysOf (by assumption) (by first | assumption | (unfold inI at *; omega)) (by first | assumption | (unfold inI at *; omega)) (by omega) (by omega)) ?_
      dsimp only [Option.toList, List.cons_append, List.nil_append]
      refine e_ireturn dX3_menAt_24 rfl rfl ?_
      exact ⟨by first | (unfold khm; rw [if_pos (by omega)]; done) | rw [khm_out (by omega)], rfl, rfl⟩
    · refine e_iconst dX3_menAt_10 ?_
      refine e_goto (tgt := 24) dX3_menAt_11 (by decide) ?_
      refine e_ireturn dX3_menAt_24 rfl rfl ?_
      exact ⟨by first | (unfold khm; rw [if_pos (by omega)]; done) | rw [khm_out (by omega)], rfl, rfl⟩
theorem k_countFrom_step {m w line x : Int} (h0 : 0 ≤ m) (h1 : m ≤ 63) (h2 : 1 ≤ w) (h3 : w ≤ 8) (h4 : line ≤ x) (h5 : m - w ≤ x) : ksum (fun j => (if line ≤ (j : Int) then khm m w j else 0)) (x + 1).toNat = ksum (fun j => (if line ≤ (j : Int) then khm m w j else 0)) x.toNat + khm m w x := by
  by_cases hx : 0 ≤ x
  · rw [show (x + 1).toNat = x.toNat + 1 by omega, ksum_s]
    have e9 : ((x.toNat : Nat) : Int) = x := by omega
    rw [e9, if_pos h4]
  · rw [show (x + 1).toNat = 0 by omega, show x.toNat = 0 by omega, khm_out (by omega)]
    simp
theorem k_countFrom_end {m w line : Int} (h0 : 0 ≤ m) (h1 : m ≤ 63) (h2 : 1 ≤ w) (h3 : w ≤ 8) {x : Int} (h4 : m + w < x) : ksum (fun j => (if line ≤ (j : Int) then khm m w j else 0)) x.toNat = kcf m w line := by
  unfold kcf
  rcases Nat.le_total x.toNat 64 with q | q
  · exact (ksum_tail q (fun k h5 h6 => by
      rw [khm_hi h2 h3 (by omega)]
      split <;> simp)).symm
  · exact ksum_tail q (fun k h5 h6 => by
      rw [khm_out (by omega)]
      split <;> simp)
theorem k_countFrom_beg {m w line x : Int} (h4 : x ≤ line ∨ x ≤ m - w) : ksum (fun j => (if line ≤ (j : Int) then khm m w j else 0)) x.toNat = 0 := by
  refine (ksum_tail (a := 0) (Nat.zero_le _) (fun k _ h6 => ?_))
  rcases h4 with h4 | h4
  · rw [if_neg (by omega)]
  · rw [khm_lo (by omega)]
    split <;> simp
set_option maxHeartbeats 4000000 in
theorem k_countFrom_lp {G : kG} {d : Nat} {h : Nat → Option kC} {n : Nat} {a b : Nat} (r : rHu G h a b) {m w line : Int} (h0 : 0 ≤ m) (h1 : m ≤ 63) (h2 : 1 ≤ w) (h3 : w ≤ 8) (hl0 : 0 ≤ line) (hl1 : line ≤ 63) : ∀ (f : Nat) (x c : Int), line ≤ x → m - w ≤ x → m + w + 1 - x ≤ f → x ≤ 80 → c = ksum (fun j => (if line ≤ (j : Int) then khm m w j else 0)) x.toNat → kE G mX3_countFrom (d + 2) 0 0 12 [some (.ref (gB G + a)), some (.int (jI m)), some (.int (jI w)), some (.int (jI line)), some (.long (jL c)), none, some (.int (jI x))] [] h n (kre (some (.long (jL (kcf m w line)))) h n) := by
  obtain ⟨r1, r2, r3⟩ := id r
  intro f
  induction f with
  | zero =>
    intro x c g1 g2 g3 g4 hc
    refine e_iload rfl dX3_countFrom_12 ?_
    refine e_iload_n rfl dX3_countFrom_14 ?_
    refine e_iload_n rfl dX3_countFrom_15 ?_
    refine e_iadd dX3_countFrom_16 ?_
    refine e_icmp_gt (tgt := 40) dX3_countFrom_17 (by decide) (by first | assumption | (unfold inI at *; omega)) (by first | assumption | (unfold inI at *; omega)) (fun c17 => ?_) (fun c17 => ?_)
    · refine e_lload rfl dX3_countFrom_40 ?_
      refine e_lreturn dX3_countFrom_42 rfl ?_
      exact ⟨by rw [hc, k_countFrom_end h0 h1 h2 h3 (by omega)], rfl, rfl⟩
    · exact absurd c17 (by omega)
  | succ f ih =>
    intro x c g1 g2 g3 g4 hc
    refine e_iload rfl dX3_countFrom_12 ?_
    refine e_iload_n rfl dX3_countFrom_14 ?_
    refine e_iload_n rfl dX3_countFrom_15 ?_
    refine e_iadd dX3_countFrom_16 ?_
    refine e_icmp_gt (tgt := 40) dX3_countFrom_17 (by decide) (by first | assumption | (unfold inI at *; omega)) (by first | assumption | (unfold inI at *; omega)) (fun c17 => ?_) (fun c17 => ?_)
    · refine e_lload rfl dX3_countFrom_40 ?_
      refine e_lreturn dX3_countFrom_42 rfl ?_
      exact ⟨by rw [hc, k_countFrom_end h0 h1 h2 h3 (by omega)], rfl, rfl⟩
    · refine e_lload rfl dX3_countFrom_20 ?_
      refine e_aload_n rfl dX3_countFrom_22 ?_
      refine e_iload_n rfl dX3_countFrom_23 ?_
      refine e_iload_n rfl dX3_countFrom_24 ?_
      refine e_iload rfl dX3_countFrom_25 ?_
      refine eV3 mtX3_menAt miX3_menAt lkX3_25 dX3_countFrom_27 (by first | assumption | exact kup_s | exact kup_n (by omega) (by first | assumption | exact kup_s | exact kup_n (by omega) (by first | assumption | exact kup_s | exact kup_n (by omega) (by assumption)))) rfl rfl rfl (k_menAtH (by assumption) (by omega) (by omega) (by omega) (by omega) (by omega) (by omega)) ?_
      dsimp only [Option.toList, List.cons_append, List.nil_append]
      refine e_i2l (by have := khm_in (m := m) h2 h3 x; unfold inI; omega) dX3_countFrom_30 ?_
      refine e_ladd dX3_countFrom_31 ?_
      refine e_lstore dX3_countFrom_32 rfl rfl ?_
      dsimp only [List.set]
      refine e_iinc dX3_countFrom_34 rfl rfl ?_
      dsimp only [List.set]
      refine e_goto (tgt := 12) dX3_countFrom_37 (by decide) ?_
      exact ih (x + 1) _ (by omega) (by omega) (by omega) (by omega) (by rw [hc, k_countFrom_step h0 h1 h2 h3 (by omega) (by omega)])
set_option maxHeartbeats 4000000 in
set_option maxRecDepth 100000 in
theorem k_countFrom {G : kG} {d : Nat} {h : Nat → Option kC} {n : Nat} {a b : Nat} (r : rHu G h a b) {m w line : Int} (h0 : 0 ≤ m) (h1 : m ≤ 63) (h2 : 1 ≤ w) (h3 : w ≤ 8) (hl0 : 0 ≤ line) (hl1 : line ≤ 63) : kCall G mX3_countFrom (d + 2) 0 0 [.ref (gB G + a), .int (jI m), .int (jI w), .int (jI line)] h n (kre (some (.long (jL (kcf m w line)))) h n) := by
  show kE G mX3_countFrom (d + 2) 0 0 0 [some (.ref (gB G + a)), some (.int (jI m)), some (.int (jI w)), some (.int (jI line)), none, none, none] [] h n _
  refine e_lconst (z := 0) (by decide) dX3_countFrom_0 ?_
  refine e_lstore dX3_countFrom_1 rfl rfl ?_
  dsimp only [List.set]
  refine e_iload_n rfl dX3_countFrom_3 ?_
  refine e_iload_n rfl dX3_countFrom_4 ?_
  refine e_iload_n rfl dX3_countFrom_5 ?_
  refine e_isub dX3_countFrom_6 ?_
  refine e_mmax (by first | assumption | (unfold inI at *; omega)) (by first | assumption | (unfold inI at *; omega)) lkX3_20 dX3_countFrom_7 rfl ?_
  refine e_istore dX3_countFrom_10 rfl rfl ?_
  dsimp only [List.set]
  have q1 : line ≤ kmaxi line (m - w) ∧ m - w ≤ kmaxi line (m - w) ∧ (kmaxi line (m - w) = line ∨ kmaxi line (m - w) = m - w) := by unfold kmaxi; split <;> omega
  exact k_countFrom_lp r h0 h1 h2 h3 hl0 hl1 200 _ _ (by omega) (by omega) (by omega) (by omega) (by rw [k_countFrom_beg (by omega)])
theorem k_sumFrom_step {m w line x : Int} (h0 : 0 ≤ m) (h1 : m ≤ 63) (h2 : 1 ≤ w) (h3 : w ≤ 8) (h4 : line ≤ x) (h5 : m - w ≤ x) : ksum (fun j => (if line ≤ (j : Int) then (j : Int) * khm m w j else 0)) (x + 1).toNat = ksum (fun j => (if line ≤ (j : Int) then (j : Int) * khm m w j else 0)) x.toNat + x * khm m w x := by
  by_cases hx : 0 ≤ x
  · rw [show (x + 1).toNat = x.toNat + 1 by omega, ksum_s]
    have e9 : ((x.toNat : Nat) : Int) = x := by omega
    rw [e9, if_pos h4]
  · rw [show (x + 1).toNat = 0 by omega, show x.toNat = 0 by omega, khm_out (by omega)]
    simp
theorem k_sumFrom_end {m w line : Int} (h0 : 0 ≤ m) (h1 : m ≤ 63) (h2 : 1 ≤ w) (h3 : w ≤ 8) {x : Int} (h4 : m + w < x) : ksum (fun j => (if line ≤ (j : Int) then (j : Int) * khm m w j else 0)) x.toNat = ksf m w line := by
  unfold ksf
  rcases Nat.le_total x.toNat 64 with q | q
  · exact (ksum_tail q (fun k h5 h6 => by
      rw [khm_hi h2 h3 (by omega)]
      split <;> simp)).symm
  · exact ksum_tail q (fun k h5 h6 => by
      rw [khm_out (by omega)]
      split <;> simp)
theorem k_sumFrom_beg {m w line x : Int} (h4 : x ≤ line ∨ x ≤ m - w) : ksum (fun j => (if line ≤ (j : Int) then (j : Int) * khm m w j else 0)) x.toNat = 0 := by
  refine (ksum_tail (a := 0) (Nat.zero_le _) (fun k _ h6 => ?_))
  rcases h4 with h4 | h4
  · rw [if_neg (by omega)]
  · rw [khm_lo (by omega)]
    split <;> simp
set_option maxHeartbeats 4000000 in
theorem k_sumFrom_lp {G : kG} {d : Nat} {h : Nat → Option kC} {n : Nat} {a b : Nat} (r : rHu G h a b) {m w line : Int} (h0 : 0 ≤ m) (h1 : m ≤ 63) (h2 : 1 ≤ w) (h3 : w ≤ 8) (hl0 : 0 ≤ line) (hl1 : line ≤ 63) : ∀ (f : Nat) (x c : Int), line ≤ x → m - w ≤ x → m + w + 1 - x ≤ f → x ≤ 80 → c = ksum (fun j => (if line ≤ (j : Int) then (j : Int) * khm m w j else 0)) x.toNat → kE G mX3_sumFrom (d + 2) 0 0 12 [some (.ref (gB G + a)), some (.int (jI m)), some (.int (jI w)), some (.int (jI line)), some (.long (jL c)), none, some (.int (jI x))] [] h n (kre (some (.long (jL (ksf m w line)))) h n) := by
  obtain ⟨r1, r2, r3⟩ := id r
  intro f
  induction f with
  | zero =>
    intro x c g1 g2 g3 g4 hc
    refine e_iload rfl dX3_sumFrom_12 ?_
    refine e_iload_n rfl dX3_sumFrom_14 ?_
    refine e_iload_n rfl dX3_sumFrom_15 ?_
    refine e_iadd dX3_sumFrom_16 ?_
    refine e_icmp_gt (tgt := 44) dX3_sumFrom_17 (by decide) (by first | assumption | (unfold inI at *; omega)) (by first | assumption | (unfold inI at *; omega)) (fun c17 => ?_) (fun c17 => ?_)
    · refine e_lload rfl dX3_sumFrom_44 ?_
      refine e_lreturn dX3_sumFrom_46 rfl ?_
      exact ⟨by rw [hc, k_sumFrom_end h0 h1 h2 h3 (by omega)], rfl, rfl⟩
    · exact absurd c17 (by omega)
  | succ f ih =>
    intro x c g1 g2 g3 g4 hc
    refine e_iload rfl dX3_sumFrom_12 ?_
    refine e_iload_n rfl dX3_sumFrom_14 ?_
    refine e_iload_n rfl dX3_sumFrom_15 ?_
    refine e_iadd dX3_sumFrom_16 ?_
    refine e_icmp_gt (tgt := 44) dX3_sumFrom_17 (by decide) (by first | assumption | (unfold inI at *; omega)) (by first | assumption | (unfold inI at *; omega)) (fun c17 => ?_) (fun c17 => ?_)
    · refine e_lload rfl dX3_sumFrom_44 ?_
      refine e_lreturn dX3_sumFrom_46 rfl ?_
      exact ⟨by rw [hc, k_sumFrom_end h0 h1 h2 h3 (by omega)], rfl, rfl⟩
    · refine e_lload rfl dX3_sumFrom_20 ?_
      refine e_iload rfl dX3_sumFrom_22 ?_
      refine e_i2l (by first | assumption | (unfold inI at *; omega)) dX3_sumFrom_24 ?_
      refine e_aload_n rfl dX3_sumFrom_25 ?_
      refine e_iload_n rfl dX3_sumFrom_26 ?_
      refine e_iload_n rfl dX3_sumFrom_27 ?_
      refine e_iload rfl dX3_sumFrom_28 ?_
      refine eV3 mtX3_menAt miX3_menAt lkX3_25 dX3_sumFrom_30 (by first | assumption | exact kup_s | exact kup_n (by omega) (by first | assumption | exact kup_s | exact kup_n (by omega) (by first | assumption | exact kup_s | exact kup_n (by omega) (by assumption)))) rfl rfl rfl (k_menAtH (by assumption) (by omega) (by omega) (by omega) (by omega) (by omega) (by omega)) ?_
      dsimp only [Option.toList, List.cons_append, List.nil_append]
      refine e_i2l (by have := khm_in (m := m) h2 h3 x; unfold inI; omega) dX3_sumFrom_33 ?_
      refine e_lmul dX3_sumFrom_34 ?_
      refine e_ladd dX3_sumFrom_35 ?_
      refine e_lstore dX3_sumFrom_36 rfl rfl ?_
      dsimp only [List.set]
      refine e_iinc dX3_sumFrom_38 rfl rfl ?_
      dsimp only [List.set]
      refine e_goto (tgt := 12) dX3_sumFrom_41 (by decide) ?_
      exact ih (x + 1) _ (by omega) (by omega) (by omega) (by omega) (by rw [hc, k_sumFrom_step h0 h1 h2 h3 (by omega) (by omega)])
set_option maxHeartbeats 4000000 in
set_option maxRecDepth 100000 in
theorem k_sumFrom {G : kG} {d : Nat} {h : Nat → Option kC} {n : Nat} {a b : Nat} (r : rHu G h a b) {m w line : Int} (h0 : 0 ≤ m) (h1 : m ≤ 63) (h2 : 1 ≤ w) (h3 : w ≤ 8) (hl0 : 0 ≤ line) (hl1 : line ≤ 63) : kCall G mX3_sumFrom (d + 2) 0 0 [.ref (gB G + a), .int (jI m), .int (jI w), .int (jI line)] h n (kre (some (.long (jL (ksf m w line)))) h n) := by
  show kE G mX3_sumFrom (d + 2) 0 0 0 [some (.ref (gB G + a)), some (.int (jI m)), some (.int (jI w)), some (.int (jI line)), none, none, none] [] h n _
  refine e_lconst (z := 0) (by decide) dX3_sumFrom_0 ?_
  refine e_lstore dX3_sumFrom_1 rfl rfl ?_
  dsimp only [List.set]
  refine e_iload_n rfl dX3_sumFrom_3 ?_
  refine e_iload_n rfl dX3_sumFrom_4 ?_
  refine e_iload_n rfl dX3_sumFrom_5 ?_
  refine e_isub dX3_sumFrom_6 ?_
  refine e_mmax (by first | assumption | (unfold inI at *; omega)) (by first | assumption | (unfold inI at *; omega)) lkX3_20 dX3_sumFrom_7 rfl ?_
  refine e_istore dX3_sumFrom_10 rfl rfl ?_
  dsimp only [List.set]
  have q1 : line ≤ kmaxi line (m - w) ∧ m - w ≤ kmaxi line (m - w) ∧ (kmaxi line (m - w) = line ∨ kmaxi line (m - w) = m - w) := by unfold kmaxi; split <;> omega
  exact k_sumFrom_lp r h0 h1 h2 h3 hl0 hl1 200 _ _ (by omega) (by omega) (by omega) (by omega) (by rw [k_sumFrom_beg (by omega)])
