/-! BOOKS -/
def rBk (G : kG) (h : Nat → Option kC) (b m e : Nat) (A E : Nat → Int) (t : Int) : Prop := h b = some (kob 0 [.ref (gB G + m), .ref (gB G + e), .int (jI t)]) ∧ h m = some (kia 64 A) ∧ h e = some (kia 3 E)
def kcl (x : Int) : Int := if x < 0 then 0 else if 63 < x then 63 else x
/-- the HEIGHT with most MEN, the first such, of k HEIGHTS -/
def kmo (A : Nat → Int) : Nat → Int
  | 0 => 0
  | k + 1 => if A (kmo A k).toNat < A k then (k : Int) else kmo A k
theorem kmo_in (A : Nat → Int) : ∀ k : Nat, 0 ≤ kmo A k ∧ (kmo A k < k ∨ kmo A k = 0)
  | 0 => by unfold kmo; omega
  | k + 1 => by
    have := kmo_in A k
    unfold kmo
    split <;> omega
/-- all HEIGHTS together, each moved -/
def ksm (A : Nat → Int) (q : Int) : Int := ksum (fun x => A x * kcl ((x : Int) + q)) 64
set_option maxHeartbeats 4000000 in
set_option maxRecDepth 100000 in
theorem k_menAtB {G : kG} {d : Nat} {h : Nat → Option kC} {n : Nat} {b m e : Nat} {A E : Nat → Int} {t : Int} (r : rBk G h b m e A E t) {x : Int} (h0 : 0 ≤ x) (h1 : x < 64) : kCall G mX0_menAt d 0 0 [.ref (gB G + b), .int (jI x)] h n (kre (some (.int (jI (A x.toNat)))) h n) := by
  show kE G mX0_menAt d 0 0 0 [some (.ref (gB G + b)), some (.int (jI x))] [] h n _
  obtain ⟨r1, r2, r3⟩ := id r
  refine e_iload_n rfl dX0_menAt_0 ?_
  refine e_if_lt (tgt := 13) dX0_menAt_1 (by decide) (by first | assumption | (unfold inI at *; omega)) (fun c1 => ?_) (fun c1 => ?_)
  · exact absurd c1 (by omega)
  · refine e_iload_n rfl dX0_menAt_4 ?_
    refine e_aload_n rfl dX0_menAt_5 ?_
    refine e_getf fdX0_9 dX0_menAt_6 (by first | assumption | exact kup_s | exact kup_n (by omega) (by first | assumption | exact kup_s | exact kup_n (by omega) (by first | assumption | exact kup_s | exact kup_n (by omega) (by assumption)))) rfl ?_
    refine e_alen dX0_menAt_9 (by first | assumption | exact kup_s | exact kup_n (by omega) (by first | assumption | exact kup_s | exact kup_n (by omega) (by first | assumption | exact kup_s | exact kup_n (by omega) (by assumption)))) (fun _ => rfl) ?_
    refine e_icmp_lt (tgt := 17) dX0_menAt_10 (by decide) (by first | assumption | (unfold inI at *; omega)) (by first | assumption | (unfold inI at *; omega)) (fun c10 => ?_) (fun c10 => ?_)
    · refine e_aload_n rfl dX0_menAt_17 ?_
      refine e_getf fdX0_9 dX0_menAt_18 (by first | assumption | exact kup_s | exact kup_n (by omega) (by first | assumption | exact kup_s | exact kup_n (by omega) (by first | assumption | exact kup_s | exact kup_n (by omega) (by assumption)))) rfl ?_
      refine e_iload_n rfl dX0_menAt_21 ?_
      refine e_iald dX0_menAt_22 (by first | assumption | exact kup_s | exact kup_n (by omega) (by first | assumption | exact kup_s | exact kup_n (by omega) (by first | assumption | exact kup_s | exact kup_n (by omega) (by assumption)))) (by omega) (by omega) ?_
      refine e_ireturn dX0_menAt_23 rfl rfl ?_
      exact ⟨rfl, rfl, rfl⟩
    · exact absurd c10 (by omega)
set_option maxHeartbeats 4000000 in
set_option maxRecDepth 100000 in
theorem k_put {G : kG} {d : Nat} {h : Nat → Option kC} {n : Nat} {b m e : Nat} {A E : Nat → Int} {t : Int} (r : rBk G h b m e A E t) (hn1 : b ≠ m) {x y : Int} (h0 : 0 ≤ x) (h1 : x < 64) : kCall G mX0_put (d + 2) 0 0 [.ref (gB G + b), .int (jI x), .int (jI y)] h n (kre none (kup (kup h b (kob 0 [.ref (gB G + m), .ref (gB G + e), .int (jI (t + (y - A x.toNat)))])) m (kia 64 (up A x.toNat y))) n) := by
  show kE G mX0_put (d + 2) 0 0 0 [some (.ref (gB G + b)), some (.int (jI x)), some (.int (jI y))] [] h n _
  obtain ⟨r1, r2, r3⟩ := id r
  refine e_iload_n rfl dX0_put_0 ?_
  refine eSN1 mtX9_isHeight msX9_isHeight lnX0_26 dX0_put_1 rfl rfl (k_isHeight (by first | assumption | (unfold inI at *; omega))) ?_
  dsimp only [Option.toList, List.cons_append, List.nil_append]
  refine e_ifeqP (tgt := 31) dX0_put_4 (by decide) (fun c4 => ?_) (fun c4 => ?_)
  · exact absurd c4 (by omega)
  · refine e_aload_n rfl dX0_put_7 ?_
    refine e_dup rfl dX0_put_8 ?_
    refine e_getf fdX0_30 dX0_put_9 (by first | assumption | exact kup_s | exact kup_n (by omega) (by first | assumption | exact kup_s | exact kup_n (by omega) (by first | assumption | exact kup_s | exact kup_n (by omega) (by assumption)))) rfl ?_
    refine e_iload_n rfl dX0_put_12 ?_
    refine e_aload_n rfl dX0_put_13 ?_
    refine e_getf fdX0_9 dX0_put_14 (by first | assumption | exact kup_s | exact kup_n (by omega) (by first | assumption | exact kup_s | exact kup_n (by omega) (by first | assumption | exact kup_s | exact kup_n (by omega) (by assumption)))) rfl ?_
    refine e_iload_n rfl dX0_put_17 ?_
    refine e_iald dX0_put_18 (by first | assumption | exact kup_s | exact kup_n (by omega) (by first | assumption | exact kup_s | exact kup_n (by omega) (by first | assumption | exact kup_s | exact kup_n (by omega) (by assumption)))) (by omega) (by omega) ?_
    refine e_isub dX0_put_19 ?_
    refine e_iadd dX0_put_20 ?_
    refine e_putf pfX0_30 dX0_put_21 (by first | assumption | exact kup_s | exact kup_n (by omega) (by first | assumption | exact kup_s | exact kup_n (by omega) (by first | assumption | exact kup_s | exact kup_n (by omega) (by assumption)))) rfl rfl rfl ?_
    dsimp only [List.set]
    refine e_aload_n rfl dX0_put_24 ?_
    refine e_getf fdX0_9 dX0_put_25 (by first | assumption | exact kup_s | exact kup_n (by omega) (by first | assumption | exact kup_s | exact kup_n (by omega) (by first | assumption | exact kup_s | exact kup_n (by omega) (by assumption)))) rfl ?_
    refine e_iload_n rfl dX0_put_28 ?_
    refine e_iload_n rfl dX0_put_29 ?_
    refine e_iast dX0_put_30 (by first | assumption | exact kup_s | exact kup_n (by omega) (by first | assumption | exact kup_s | exact kup_n (by omega) (by first | assumption | exact kup_s | exact kup_n (by omega) (by assumption)))) (by omega) (by omega) ?_
    refine e_return dX0_put_31 rfl ?_
    exact ⟨rfl, rfl, rfl⟩
set_option maxHeartbeats 4000000 in
set_option maxRecDepth 100000 in
theorem k_entry {G : kG} {d : Nat} {h : Nat → Option kC} {n : Nat} {b m e : Nat} {A E : Nat → Int} {t : Int} (r : rBk G h b m e A E t) {x : Int} (h0 : 0 ≤ x) (h1 : x ≤ 2) : kCall G mX0_entry (d + 1) 0 0 [.ref (gB G + b), .int (jI x)] h n (kre (some (.int (jI (E x.toNat)))) h n) := by
  show kE G mX0_entry (d + 1) 0 0 0 [some (.ref (gB G + b)), some (.int (jI x))] [] h n _
  obtain ⟨r1, r2, r3⟩ := id r
  refine e_iload_n rfl dX0_entry_0 ?_
  refine e_iconst dX0_entry_1 ?_
  refine e_iconst dX0_entry_2 ?_
  refine eSN3 mtX9_within msX9_within lnX0_34 dX0_entry_3 rfl rfl (k_within (by first | assumption | (unfold inI at *; omega)) (by first | assumption | (unfold inI at *; omega)) (by first | assumption | (unfold inI at *; omega))) ?_
  dsimp only [Option.toList, List.cons_append, List.nil_append]
  refine e_ifeqP (tgt := 18) dX0_entry_6 (by decide) (fun c6 => ?_) (fun c6 => ?_)
  · exact absurd c6 (by omega)
  · refine e_aload_n rfl dX0_entry_9 ?_
    refine e_getf fdX0_23 dX0_entry_10 (by first | assumption | exact kup_s | exact kup_n (by omega) (by first | assumption | exact kup_s | exact kup_n (by omega) (by first | assumption | exact kup_s | exact kup_n (by omega) (by assumption)))) rfl ?_
    refine e_iload_n rfl dX0_entry_13 ?_
    refine e_iald dX0_entry_14 (by first | assumption | exact kup_s | exact kup_n (by omega) (by first | assumption | exact kup_s | exact kup_n (by omega) (by first | assumption | exact kup_s | exact kup_n (by omega) (by assumption)))) (by omega) (by omega) ?_
    refine e_goto (tgt := 19) dX0_entry_15 (by decide) ?_
    refine e_ireturn dX0_entry_19 rfl rfl ?_
    exact ⟨rfl, rfl, rfl⟩
set_option maxHeartbeats 4000000 in
set_option maxRecDepth 100000 in
theorem k_enter {G : kG} {d : Nat} {h : Nat → Option kC} {n : Nat} {b m e : Nat} {A E : Nat → Int} {t : Int} (r : rBk G h b m e A E t) {x y : Int} (h0 : 0 ≤ x) (h1 : x ≤ 2) : kCall G mX0_enter (d + 1) 0 0 [.ref (gB G + b), .int (jI x), .int (jI y)] h n (kre none (kup h e (kia 3 (up E x.toNat y))) n) := by
  show kE G mX0_enter (d + 1) 0 0 0 [some (.ref (gB G + b)), some (.int (jI x)), some (.int (jI y))] [] h n _
  obtain ⟨r1, r2, r3⟩ := id r
  refine e_iload_n rfl dX0_enter_0 ?_
  refine e_iconst dX0_enter_1 ?_
  refine e_iconst dX0_enter_2 ?_
  refine eSN3 mtX9_within msX9_within lnX0_34 dX0_enter_3 rfl rfl (k_within (by first | assumption | (unfold inI at *; omega)) (by first | assumption | (unfold inI at *; omega)) (by first | assumption | (unfold inI at *; omega))) ?_
  dsimp only [Option.toList, List.cons_append, List.nil_append]
  refine e_ifeqP (tgt := 16) dX0_enter_6 (by decide) (fun c6 => ?_) (fun c6 => ?_)
  · exact absurd c6 (by omega)
  · refine e_aload_n rfl dX0_enter_9 ?_
    refine e_getf fdX0_23 dX0_enter_10 (by first | assumption | exact kup_s | exact kup_n (by omega) (by first | assumption | exact kup_s | exact kup_n (by omega) (by first | assumption | exact kup_s | exact kup_n (by omega) (by assumption)))) rfl ?_
    refine e_iload_n rfl dX0_enter_13 ?_
    refine e_iload_n rfl dX0_enter_14 ?_
    refine e_iast dX0_enter_15 (by first | assumption | exact kup_s | exact kup_n (by omega) (by first | assumption | exact kup_s | exact kup_n (by omega) (by first | assumption | exact kup_s | exact kup_n (by omega) (by assumption)))) (by omega) (by omega) ?_
    refine e_return dX0_enter_16 rfl ?_
    exact ⟨rfl, rfl, rfl⟩
set_option maxHeartbeats 4000000 in
set_option maxRecDepth 100000 in
theorem k_fill_lp {G : kG} {d : Nat} {n : Nat} {a : Nat} {F : Nat → Int} {v : Int} {h9 : Nat → Option kC} (ha : h9 a = some (kia 64 F))  : ∀ (f : Nat) (z : Int), 0 ≤ z → z ≤ 64 → 64 - z ≤ f → kE G mJ7_fill_53178 d 0 0 5 [some (.ref (gB G + a)), some (.int (jI v)), some (.int (jI z)), some (.int (jI 64))] [] (kup h9 a (kia 64 (fun j : Nat => if (j : Int) < z then v else F j))) n (kre none (kup h9 a (kia 64 (fun j => if j < 64 then v else F j))) n) := by
  intro f
  induction f with
  | zero =>
    intro z g1 g2 g3
    refine e_iload_n rfl dJ7_fill_53178_5 ?_
    refine e_iload_n rfl dJ7_fill_53178_6 ?_
    refine e_icmp_ge (tgt := 20) dJ7_fill_53178_7 (by decide) (by first | assumption | (unfold inI at *; omega)) (by first | assumption | (unfold inI at *; omega)) (fun c7 => ?_) (fun c7 => ?_)
    · refine e_return dJ7_fill_53178_20 rfl ?_
      have e9 : (fun j : Nat => if (j : Int) < z then v else F j) = (fun j : Nat => if j < 64 then v else F j) := by
        funext j
        by_cases q : j < 64
        · rw [if_pos q, if_pos (by omega)]
        · rw [if_neg q, if_neg (by omega)]
      rw [e9]
      exact ⟨rfl, rfl, rfl⟩
    · exact absurd c7 (by omega)
  | succ f ih =>
    intro z g1 g2 g3
    refine e_iload_n rfl dJ7_fill_53178_5 ?_
    refine e_iload_n rfl dJ7_fill_53178_6 ?_
    refine e_icmp_ge (tgt := 20) dJ7_fill_53178_7 (by decide) (by first | assumption | (unfold inI at *; omega)) (by first | assumption | (unfold inI at *; omega)) (fun c7 => ?_) (fun c7 => ?_)
    · refine e_return dJ7_fill_53178_20 rfl ?_
      have e9 : (fun j : Nat => if (j : Int) < z then v else F j) = (fun j : Nat => if j < 64 then v else F j) := by
        funext j
        by_cases q : j < 64
        · rw [if_pos q, if_pos (by omega)]
        · rw [if_neg q, if_neg (by omega)]
      rw [e9]
      exact ⟨rfl, rfl, rfl⟩
    · refine e_aload_n rfl dJ7_fill_53178_10 ?_
      refine e_iload_n rfl dJ7_fill_53178_11 ?_
      refine e_iload_n rfl dJ7_fill_53178_12 ?_
      refine e_iast dJ7_fill_53178_13 kup_s (by omega) (by omega) ?_
      refine e_iinc dJ7_fill_53178_14 rfl rfl ?_
      dsimp only [List.set]
      refine e_goto (tgt := 5) dJ7_fill_53178_17 (by decide) ?_
      rw [kup_kup]
      have e9 : up (fun j : Nat => if (j : Int) < z then v else F j) z.toNat v = (fun j : Nat => if (j : Int) < z + 1 then v else F j) := by
        funext j
        unfold up
        by_cases q : j = z.toNat
        · rw [if_pos q, if_pos (by omega)]
        · rw [if_neg q]
          dsimp only
          by_cases q2 : (j : Int) < z
          · rw [if_pos q2, if_pos (by omega)]
          · rw [if_neg q2, if_neg (by omega)]
      rw [e9]
      exact ih (z + 1) (by omega) (by omega) (by omega)
set_option maxHeartbeats 4000000 in
set_option maxRecDepth 100000 in
theorem k_fill {G : kG} {d : Nat} {h : Nat → Option kC} {n : Nat} {a : Nat} {F : Nat → Int} {v : Int} (ha : h a = some (kia 64 F)) : kCall G mJ7_fill_53178 d 0 0 [.ref (gB G + a), .int (jI v)] h n (kre none (kup h a (kia 64 (fun j => if j < 64 then v else F j))) n) := by
  show kE G mJ7_fill_53178 d 0 0 0 [some (.ref (gB G + a)), some (.int (jI v)), none, none] [] h n _
  refine e_iconst dJ7_fill_53178_0 ?_
  refine e_istore_n dJ7_fill_53178_1 rfl rfl ?_
  dsimp only [List.set]
  refine e_aload_n rfl dJ7_fill_53178_2 ?_
  refine e_alen dJ7_fill_53178_3 (by first | assumption | exact kup_s | exact kup_n (by omega) (by first | assumption | exact kup_s | exact kup_n (by omega) (by first | assumption | exact kup_s | exact kup_n (by omega) (by assumption)))) (fun _ => rfl) ?_
  refine e_istore_n dJ7_fill_53178_4 rfl rfl ?_
  dsimp only [List.set]
  have e9 : kup h a (kia 64 (fun j => if (j : Int) < 0 then v else F j)) = h := by
    have e8 : (fun j : Nat => if (j : Int) < 0 then v else F j) = F := by
      funext j
      rw [if_neg (by omega)]
    rw [e8]
    exact kup_same ha
  have q9 := k_fill_lp (G := G) (d := d) (n := n) (v := v) ha 100 0 (by omega) (by omega) (by omega)
  rw [e9] at q9
  exact q9
set_option maxHeartbeats 4000000 in
set_option maxRecDepth 100000 in
theorem k_clearMen {G : kG} {d : Nat} {h : Nat → Option kC} {n : Nat} {b m e : Nat} {A E : Nat → Int} {t : Int} (r : rBk G h b m e A E t) (hn1 : b ≠ m) : kCall G mX0_clearMen (d + 1) 0 0 [.ref (gB G + b)] h n (kre none (kup (kup h m (kia 64 (fun j => if j < 64 then 0 else A j))) b (kob 0 [.ref (gB G + m), .ref (gB G + e), .int (jI 0)])) n) := by
  show kE G mX0_clearMen (d + 1) 0 0 0 [some (.ref (gB G + b))] [] h n _
  obtain ⟨r1, r2, r3⟩ := id r
  refine e_aload_n rfl dX0_clearMen_0 ?_
  refine e_getf fdX0_9 dX0_clearMen_1 (by first | assumption | exact kup_s | exact kup_n (by omega) (by first | assumption | exact kup_s | exact kup_n (by omega) (by first | assumption | exact kup_s | exact kup_n (by omega) (by assumption)))) rfl ?_
  refine e_iconst dX0_clearMen_4 ?_
  refine eS2 mtJ7_fill_53178 msJ7_fill_53178 lkX0_38 dX0_clearMen_5 rfl rfl (k_fill (by assumption)) ?_
  dsimp only [Option.toList, List.cons_append, List.nil_append]
  refine e_aload_n rfl dX0_clearMen_8 ?_
  refine e_iconst dX0_clearMen_9 ?_
  refine e_putf pfX0_30 dX0_clearMen_10 (by first | assumption | exact kup_s | exact kup_n (by omega) (by first | assumption | exact kup_s | exact kup_n (by omega) (by first | assumption | exact kup_s | exact kup_n (by omega) (by assumption)))) rfl rfl rfl ?_
  dsimp only [List.set]
  refine e_return dX0_clearMen_13 rfl ?_
  exact ⟨rfl, rfl, rfl⟩
set_option maxHeartbeats 4000000 in
set_option maxRecDepth 100000 in
theorem k_copyEntries {G : kG} {d : Nat} {h : Nat → Option kC} {n : Nat} {b m e : Nat} {A E : Nat → Int} {t : Int} (r : rBk G h b m e A E t) {b2 m2 e2 : Nat} {A2 E2 : Nat → Int} {t2 : Int} (q : rBk G h b2 m2 e2 A2 E2 t2)  : kCall G mX0_copyEntries (d + 1) 0 0 [.ref (gB G + b), .ref (gB G + b2)] h n (kre none (kup h e (kia 3 E2)) n) := by
  show kE G mX0_copyEntries (d + 1) 0 0 0 [some (.ref (gB G + b)), some (.ref (gB G + b2))] [] h n _
  obtain ⟨r1, r2, r3⟩ := id r
  obtain ⟨q1, q2, q3⟩ := id q
  refine e_aload_n rfl dX0_copyEntries_0 ?_
  refine e_getf fdX0_23 dX0_copyEntries_1 (by first | assumption | exact kup_s | exact kup_n (by omega) (by first | assumption | exact kup_s | exact kup_n (by omega) (by first | assumption | exact kup_s | exact kup_n (by omega) (by assumption)))) rfl ?_
  refine e_iconst dX0_copyEntries_4 ?_
  refine e_aload_n rfl dX0_copyEntries_5 ?_
  refine e_getf fdX0_23 dX0_copyEntries_6 (by first | assumption | exact kup_s | exact kup_n (by omega) (by first | assumption | exact kup_s | exact kup_n (by omega) (by first | assumption | exact kup_s | exact kup_n (by omega) (by assumption)))) rfl ?_
  refine e_iconst dX0_copyEntries_9 ?_
  refine e_aload_n rfl dX0_copyEntries_10 ?_
  refine e_getf fdX0_23 dX0_copyEntries_11 (by first | assumption | exact kup_s | exact kup_n (by omega) (by first | assumption | exact kup_s | exact kup_n (by omega) (by first | assumption | exact kup_s | exact kup_n (by omega) (by assumption)))) rfl ?_
  refine e_alen dX0_copyEntries_14 (by first | assumption | exact kup_s | exact kup_n (by omega) (by first | assumption | exact kup_s | exact kup_n (by omega) (by first | assumption | exact kup_s | exact kup_n (by omega) (by assumption)))) (fun _ => rfl) ?_
  refine e_copy lkX0_44 dX0_copyEntries_15 (by assumption) (by assumption) rfl ?_
  refine e_return dX0_copyEntries_18 rfl ?_
  exact ⟨rfl, rfl, rfl⟩
set_option maxHeartbeats 4000000 in
set_option maxRecDepth 100000 in
theorem k_copyB {G : kG} {d : Nat} {h : Nat → Option kC} {n : Nat} {b m e : Nat} {A E : Nat → Int} {t : Int} (r : rBk G h b m e A E t) {b2 m2 e2 : Nat} {A2 E2 : Nat → Int} {t2 : Int} (q : rBk G h b2 m2 e2 A2 E2 t2) (hn1 : b ≠ m) (hn2 : b ≠ e) (hn3 : m ≠ e) (hn4 : b2 ≠ e) (hn5 : m2 ≠ e) (hn6 : b2 ≠ m) : kCall G mX0_copyFrom (d + 2) 0 0 [.ref (gB G + b), .ref (gB G + b2)] h n (kre none (kup (kup (kup h e (kia 3 E2)) m (kia 64 A2)) b (kob 0 [.ref (gB G + m), .ref (gB G + e), .int (jI t2)])) n) := by
  show kE G mX0_copyFrom (d + 2) 0 0 0 [some (.ref (gB G + b)), some (.ref (gB G + b2))] [] h n _
  obtain ⟨r1, r2, r3⟩ := id r
  obtain ⟨q1, q2, q3⟩ := id q
  refine e_aload_n rfl dX0_copyFrom_0 ?_
  refine e_aload_n rfl dX0_copyFrom_1 ?_
  refine eV1 mtX0_copyEntries miX0_copyEntries lkX0_50 dX0_copyFrom_2 (by first | assumption | exact kup_s | exact kup_n (by omega) (by first | assumption | exact kup_s | exact kup_n (by omega) (by first | assumption | exact kup_s | exact kup_n (by omega) (by assumption)))) rfl rfl rfl (k_copyEntries r q) ?_
  dsimp only [Option.toList, List.cons_append, List.nil_append]
  refine e_aload_n rfl dX0_copyFrom_5 ?_
  refine e_getf fdX0_9 dX0_copyFrom_6 (by first | assumption | exact kup_s | exact kup_n (by omega) (by first | assumption | exact kup_s | exact kup_n (by omega) (by first | assumption | exact kup_s | exact kup_n (by omega) (by assumption)))) rfl ?_
  refine e_iconst dX0_copyFrom_9 ?_
  refine e_aload_n rfl dX0_copyFrom_10 ?_
  refine e_getf fdX0_9 dX0_copyFrom_11 (by first | assumption | exact kup_s | exact kup_n (by omega) (by first | assumption | exact kup_s | exact kup_n (by omega) (by first | assumption | exact kup_s | exact kup_n (by omega) (by assumption)))) rfl ?_
  refine e_iconst dX0_copyFrom_14 ?_
  refine e_aload_n rfl dX0_copyFrom_15 ?_
  refine e_getf fdX0_9 dX0_copyFrom_16 (by first | assumption | exact kup_s | exact kup_n (by omega) (by first | assumption | exact kup_s | exact kup_n (by omega) (by first | assumption | exact kup_s | exact kup_n (by omega) (by assumption)))) rfl ?_
  refine e_alen dX0_copyFrom_19 (by first | assumption | exact kup_s | exact kup_n (by omega) (by first | assumption | exact kup_s | exact kup_n (by omega) (by first | assumption | exact kup_s | exact kup_n (by omega) (by assumption)))) (fun _ => rfl) ?_
  refine e_copy lkX0_44 dX0_copyFrom_20 (by first | assumption | exact kup_s | exact kup_n (by omega) (by first | assumption | exact kup_s | exact kup_n (by omega) (by first | assumption | exact kup_s | exact kup_n (by omega) (by assumption)))) (by first | assumption | exact kup_s | exact kup_n (by omega) (by first | assumption | exact kup_s | exact kup_n (by omega) (by first | assumption | exact kup_s | exact kup_n (by omega) (by assumption)))) rfl ?_
  refine e_aload_n rfl dX0_copyFrom_23 ?_
  refine e_aload_n rfl dX0_copyFrom_24 ?_
  refine e_getf fdX0_30 dX0_copyFrom_25 (by first | assumption | exact kup_s | exact kup_n (by omega) (by first | assumption | exact kup_s | exact kup_n (by omega) (by first | assumption | exact kup_s | exact kup_n (by omega) (by assumption)))) rfl ?_
  refine e_putf pfX0_30 dX0_copyFrom_28 (by first | assumption | exact kup_s | exact kup_n (by omega) (by first | assumption | exact kup_s | exact kup_n (by omega) (by first | assumption | exact kup_s | exact kup_n (by omega) (by assumption)))) rfl rfl rfl ?_
  dsimp only [List.set]
  refine e_return dX0_copyFrom_31 rfl ?_
  exact ⟨rfl, rfl, rfl⟩
set_option maxHeartbeats 4000000 in
set_option maxRecDepth 100000 in
theorem k_inches_lp {G : kG} {d : Nat} {h : Nat → Option kC} {n : Nat} {b m e : Nat} {A E : Nat → Int} {t : Int} (r : rBk G h b m e A E t)  : ∀ (f : Nat) (i : Nat) (z y : Int), z = 4 * (i : Int) → i ≤ 16 → 16 - (i : Int) ≤ f → y = ksum (fun k => A (4 * k)) i → kE G mX0_atWholeInches d 0 0 4 [some (.ref (gB G + b)), some (.int (jI y)), some (.int (jI z))] [] h n (kre (some (.int (jI (ksum (fun k => A (4 * k)) 16)))) h n) := by
  obtain ⟨r1, r2, r3⟩ := id r
  intro f
  induction f with
  | zero =>
    intro i z y g1 g2 g3 g4
    refine e_iload_n rfl dX0_atWholeInches_4 ?_
    refine e_bipush (by decide) dX0_atWholeInches_5 ?_
    refine e_icmp_ge (tgt := 25) dX0_atWholeInches_7 (by decide) (by first | assumption | (unfold inI at *; omega)) (by first | assumption | (unfold inI at *; omega)) (fun c7 => ?_) (fun c7 => ?_)
    · refine e_iload_n rfl dX0_atWholeInches_25 ?_
      refine e_ireturn dX0_atWholeInches_26 rfl rfl ?_
      exact ⟨by rw [g4, show i = 16 by omega], rfl, rfl⟩
    · exact absurd c7 (by omega)
  | succ f ih =>
    intro i z y g1 g2 g3 g4
    refine e_iload_n rfl dX0_atWholeInches_4 ?_
    refine e_bipush (by decide) dX0_atWholeInches_5 ?_
    refine e_icmp_ge (tgt := 25) dX0_atWholeInches_7 (by decide) (by first | assumption | (unfold inI at *; omega)) (by first | assumption | (unfold inI at *; omega)) (fun c7 => ?_) (fun c7 => ?_)
    · refine e_iload_n rfl dX0_atWholeInches_25 ?_
      refine e_ireturn dX0_atWholeInches_26 rfl rfl ?_
      exact ⟨by rw [g4, show i = 16 by omega], rfl, rfl⟩
    · refine e_iload_n rfl dX0_atWholeInches_10 ?_
      refine e_aload_n rfl dX0_atWholeInches_11 ?_
      refine e_getf fdX0_9 dX0_atWholeInches_12 (by first | assumption | exact kup_s | exact kup_n (by omega) (by first | assumption | exact kup_s | exact kup_n (by omega) (by first | assumption | exact kup_s | exact kup_n (by omega) (by assumption)))) rfl ?_
      refine e_iload_n rfl dX0_atWholeInches_15 ?_
      refine e_iald dX0_atWholeInches_16 (by first | assumption | exact kup_s | exact kup_n (by omega) (by first | assumption | exact kup_s | exact kup_n (by omega) (by first | assumption | exact kup_s | exact kup_n (by omega) (by assumption)))) (by omega) (by omega) ?_
      refine e_iadd dX0_atWholeInches_17 ?_
      refine e_istore_n dX0_atWholeInches_18 rfl rfl ?_
      dsimp only [List.set]
      refine e_iinc dX0_atWholeInches_19 rfl rfl ?_
      dsimp only [List.set]
      refine e_goto (tgt := 4) dX0_atWholeInches_22 (by decide) ?_
      exact ih (i + 1) _ _ (by omega) (by omega) (by omega) (by rw [g4, ksum_s, show z.toNat = 4 * i by omega])
set_option maxHeartbeats 4000000 in
set_option maxRecDepth 100000 in
theorem k_inches {G : kG} {d : Nat} {h : Nat → Option kC} {n : Nat} {b m e : Nat} {A E : Nat → Int} {t : Int} (r : rBk G h b m e A E t)  : kCall G mX0_atWholeInches d 0 0 [.ref (gB G + b)] h n (kre (some (.int (jI (ksum (fun k => A (4 * k)) 16)))) h n) := by
  show kE G mX0_atWholeInches d 0 0 0 [some (.ref (gB G + b)), none, none] [] h n _
  obtain ⟨r1, r2, r3⟩ := id r
  refine e_iconst dX0_atWholeInches_0 ?_
  refine e_istore_n dX0_atWholeInches_1 rfl rfl ?_
  dsimp only [List.set]
  refine e_iconst dX0_atWholeInches_2 ?_
  refine e_istore_n dX0_atWholeInches_3 rfl rfl ?_
  dsimp only [List.set]
  exact k_inches_lp r 20 0 _ _ (by omega) (by omega) (by omega) rfl
set_option maxHeartbeats 4000000 in
set_option maxRecDepth 100000 in
theorem k_sumMoved_lp {G : kG} {d : Nat} {h : Nat → Option kC} {n : Nat} {b m e : Nat} {A E : Nat → Int} {t : Int} (r : rBk G h b m e A E t) (hA : ∀ j, j < 64 → 0 ≤ A j ∧ A j ≤ 999) {q : Int} (hq : -8 ≤ q) (hq1 : q ≤ 8)  : ∀ (f : Nat) (i : Nat) (z y : Int), z = (i : Int) → i ≤ 64 → 64 - (i : Int) ≤ f → y = ksum (fun x => A x * kcl ((x : Int) + q)) i → kE G mX0_sumMoved (d + 1) 0 0 5 [some (.ref (gB G + b)), some (.int (jI q)), some (.long (jL y)), none, some (.int (jI z))] [] h n (kre (some (.long (jL (ksm A q)))) h n) := by
  obtain ⟨r1, r2, r3⟩ := id r
  intro f
  induction f with
  | zero =>
    intro i z y g1 g2 g3 g4
    refine e_iload rfl dX0_sumMoved_5 ?_
    refine e_aload_n rfl dX0_sumMoved_7 ?_
    refine e_getf fdX0_9 dX0_sumMoved_8 (by first | assumption | exact kup_s | exact kup_n (by omega) (by first | assumption | exact kup_s | exact kup_n (by omega) (by first | assumption | exact kup_s | exact kup_n (by omega) (by assumption)))) rfl ?_
    refine e_alen dX0_sumMoved_11 (by first | assumption | exact kup_s | exact kup_n (by omega) (by first | assumption | exact kup_s | exact kup_n (by omega) (by first | assumption | exact kup_s | exact kup_n (by omega) (by assumption)))) (fun _ => rfl) ?_
    refine e_icmp_ge (tgt := 47) dX0_sumMoved_12 (by decide) (by first | assumption | (unfold inI at *; omega)) (by first | assumption | (unfold inI at *; omega)) (fun c12 => ?_) (fun c12 => ?_)
    · refine e_lload_n rfl dX0_sumMoved_47 ?_
      refine e_lreturn dX0_sumMoved_48 rfl ?_
      exact ⟨by rw [g4, show i = 64 by omega]; rfl, rfl, rfl⟩
    · exact absurd c12 (by omega)
  | succ f ih =>
    intro i z y g1 g2 g3 g4
    subst g1
    have q8 := hA i
    refine e_iload rfl dX0_sumMoved_5 ?_
    refine e_aload_n rfl dX0_sumMoved_7 ?_
    refine e_getf fdX0_9 dX0_sumMoved_8 (by first | assumption | exact kup_s | exact kup_n (by omega) (by first | assumption | exact kup_s | exact kup_n (by omega) (by first | assumption | exact kup_s | exact kup_n (by omega) (by assumption)))) rfl ?_
    refine e_alen dX0_sumMoved_11 (by first | assumption | exact kup_s | exact kup_n (by omega) (by first | assumption | exact kup_s | exact kup_n (by omega) (by first | assumption | exact kup_s | exact kup_n (by omega) (by assumption)))) (fun _ => rfl) ?_
    refine e_icmp_ge (tgt := 47) dX0_sumMoved_12 (by decide) (by first | assumption | (unfold inI at *; omega)) (by first | assumption | (unfold inI at *; omega)) (fun c12 => ?_) (fun c12 => ?_)
    · refine e_lload_n rfl dX0_sumMoved_47 ?_
      refine e_lreturn dX0_sumMoved_48 rfl ?_
      exact ⟨by rw [g4, show i = 64 by omega]; rfl, rfl, rfl⟩
    · refine e_lload_n rfl dX0_sumMoved_15 ?_
      refine e_aload_n rfl dX0_sumMoved_16 ?_
      refine e_getf fdX0_9 dX0_sumMoved_17 (by first | assumption | exact kup_s | exact kup_n (by omega) (by first | assumption | exact kup_s | exact kup_n (by omega) (by first | assumption | exact kup_s | exact kup_n (by omega) (by assumption)))) rfl ?_
      refine e_iload rfl dX0_sumMoved_20 ?_
      refine e_iald dX0_sumMoved_22 (by first | assumption | exact kup_s | exact kup_n (by omega) (by first | assumption | exact kup_s | exact kup_n (by omega) (by first | assumption | exact kup_s | exact kup_n (by omega) (by assumption)))) (by omega) (by omega) ?_
      simp only [Int.toNat_natCast]
      have q7 := q8 (by omega)
      refine e_i2l (by first | assumption | (unfold inI at *; omega)) dX0_sumMoved_23 ?_
      refine e_iconst dX0_sumMoved_24 ?_
      refine e_bipush (by decide) dX0_sumMoved_25 ?_
      refine e_iload rfl dX0_sumMoved_27 ?_
      refine e_iload_n rfl dX0_sumMoved_29 ?_
      refine e_iadd dX0_sumMoved_30 ?_
      refine e_mmin (by first | assumption | (unfold inI at *; omega)) (by first | assumption | (unfold inI at *; omega)) lkX0_54 dX0_sumMoved_31 rfl ?_
      refine e_mmax (by first | assumption | (unfold inI at *; omega)) (by unfold inI kmini; split <;> omega) lkX0_60 dX0_sumMoved_34 rfl ?_
      have q6 : kmaxi 0 (kmini 63 ((i : Int) + q)) = kcl ((i : Int) + q) := by unfold kmaxi kmini kcl; (repeat' split) <;> omega
      rw [q6]
      refine e_i2l (by unfold inI kcl; (repeat' split) <;> omega) dX0_sumMoved_37 ?_
      refine e_lmul dX0_sumMoved_38 ?_
      refine e_ladd dX0_sumMoved_39 ?_
      refine e_lstore_n dX0_sumMoved_40 rfl rfl ?_
      dsimp only [List.set]
      refine e_iinc dX0_sumMoved_41 rfl rfl ?_
      dsimp only [List.set]
      refine e_goto (tgt := 5) dX0_sumMoved_44 (by decide) ?_
      exact ih (i + 1) _ _ (by omega) (by omega) (by omega) (by rw [g4, ksum_s])
set_option maxHeartbeats 4000000 in
set_option maxRecDepth 100000 in
theorem k_sumMoved {G : kG} {d : Nat} {h : Nat → Option kC} {n : Nat} {b m e : Nat} {A E : Nat → Int} {t : Int} (r : rBk G h b m e A E t) (hA : ∀ j, j < 64 → 0 ≤ A j ∧ A j ≤ 999) {q : Int} (hq : -8 ≤ q) (hq1 : q ≤ 8) : kCall G mX0_sumMoved (d + 1) 0 0 [.ref (gB G + b), .int (jI q)] h n (kre (some (.long (jL (ksm A q)))) h n) := by
  show kE G mX0_sumMoved (d + 1) 0 0 0 [some (.ref (gB G + b)), some (.int (jI q)), none, none, none] [] h n _
  obtain ⟨r1, r2, r3⟩ := id r
  refine e_lconst (z := 0) (by decide) dX0_sumMoved_0 ?_
  refine e_lstore_n dX0_sumMoved_1 rfl rfl ?_
  dsimp only [List.set]
  refine e_iconst dX0_sumMoved_2 ?_
  refine e_istore dX0_sumMoved_3 rfl rfl ?_
  dsimp only [List.set]
  exact k_sumMoved_lp r hA hq hq1 100 0 _ _ (by omega) (by omega) (by omega) rfl
set_option maxHeartbeats 4000000 in
set_option maxRecDepth 100000 in
theorem k_commonest_lp {G : kG} {d : Nat} {h : Nat → Option kC} {n : Nat} {b m e : Nat} {A E : Nat → Int} {t : Int} (r : rBk G h b m e A E t) (hA : ∀ j, j < 64 → 0 ≤ A j ∧ A j ≤ 999)  : ∀ (f : Nat) (i : Nat) (z y : Int), z = (i : Int) → i ≤ 64 ∧ 1 ≤ i → 64 - (i : Int) ≤ f → y = kmo A i → kE G mX0_commonest d 0 0 4 [some (.ref (gB G + b)), some (.int (jI y)), some (.int (jI z))] [] h n (kre (some (.int (jI (kmo A 64)))) h n) := by
  obtain ⟨r1, r2, r3⟩ := id r
  intro f
  induction f with
  | zero =>
    intro i z y g1 g2 g3 g4
    refine e_iload_n rfl dX0_commonest_4 ?_
    refine e_aload_n rfl dX0_commonest_5 ?_
    refine e_getf fdX0_9 dX0_commonest_6 (by first | assumption | exact kup_s | exact kup_n (by omega) (by first | assumption | exact kup_s | exact kup_n (by omega) (by first | assumption | exact kup_s | exact kup_n (by omega) (by assumption)))) rfl ?_
    refine e_alen dX0_commonest_9 (by first | assumption | exact kup_s | exact kup_n (by omega) (by first | assumption | exact kup_s | exact kup_n (by omega) (by first | assumption | exact kup_s | exact kup_n (by omega) (by assumption)))) (fun _ => rfl) ?_
    refine e_icmp_ge (tgt := 36) dX0_commonest_10 (by decide) (by first | assumption | (unfold inI at *; omega)) (by first | assumption | (unfold inI at *; omega)) (fun c10 => ?_) (fun c10 => ?_)
    · refine e_iload_n rfl dX0_commonest_36 ?_
      refine e_ireturn dX0_commonest_37 rfl rfl ?_
      exact ⟨by rw [g4, show i = 64 by omega], rfl, rfl⟩
    · exact absurd c10 (by omega)
  | succ f ih =>
    intro i z y g1 g2 g3 g4
    subst g1
    have q9 := kmo_in A i
    rw [← g4] at q9
    have q8 := hA i
    have q7 := hA y.toNat (by omega)
    refine e_iload_n rfl dX0_commonest_4 ?_
    refine e_aload_n rfl dX0_commonest_5 ?_
    refine e_getf fdX0_9 dX0_commonest_6 (by first | assumption | exact kup_s | exact kup_n (by omega) (by first | assumption | exact kup_s | exact kup_n (by omega) (by first | assumption | exact kup_s | exact kup_n (by omega) (by assumption)))) rfl ?_
    refine e_alen dX0_commonest_9 (by first | assumption | exact kup_s | exact kup_n (by omega) (by first | assumption | exact kup_s | exact kup_n (by omega) (by first | assumption | exact kup_s | exact kup_n (by omega) (by assumption)))) (fun _ => rfl) ?_
    refine e_icmp_ge (tgt := 36) dX0_commonest_10 (by decide) (by first | assumption | (unfold inI at *; omega)) (by first | assumption | (unfold inI at *; omega)) (fun c10 => ?_) (fun c10 => ?_)
    · refine e_iload_n rfl dX0_commonest_36 ?_
      refine e_ireturn dX0_commonest_37 rfl rfl ?_
      exact ⟨by rw [g4, show i = 64 by omega], rfl, rfl⟩
    · refine e_aload_n rfl dX0_commonest_13 ?_
      refine e_getf fdX0_9 dX0_commonest_14 (by first | assumption | exact kup_s | exact kup_n (by omega) (by first | assumption | exact kup_s | exact kup_n (by omega) (by first | assumption | exact kup_s | exact kup_n (by omega) (by assumption)))) rfl ?_
      refine e_iload_n rfl dX0_commonest_17 ?_
      refine e_iald dX0_commonest_18 (by first | assumption | exact kup_s | exact kup_n (by omega) (by first | assumption | exact kup_s | exact kup_n (by omega) (by first | assumption | exact kup_s | exact kup_n (by omega) (by assumption)))) (by omega) (by omega) ?_
      simp only [Int.toNat_natCast]
      have q6 := q8 (by omega)
      refine e_aload_n rfl dX0_commonest_19 ?_
      refine e_getf fdX0_9 dX0_commonest_20 (by first | assumption | exact kup_s | exact kup_n (by omega) (by first | assumption | exact kup_s | exact kup_n (by omega) (by first | assumption | exact kup_s | exact kup_n (by omega) (by assumption)))) rfl ?_
      refine e_iload_n rfl dX0_commonest_23 ?_
      refine e_iald dX0_commonest_24 (by first | assumption | exact kup_s | exact kup_n (by omega) (by first | assumption | exact kup_s | exact kup_n (by omega) (by first | assumption | exact kup_s | exact kup_n (by omega) (by assumption)))) (by omega) (by omega) ?_
      refine e_icmp_le (tgt := 30) dX0_commonest_25 (by decide) (by first | assumption | (unfold inI at *; omega)) (by first | assumption | (unfold inI at *; omega)) (fun c25 => ?_) (fun c25 => ?_)
      · refine e_iinc dX0_commonest_30 rfl rfl ?_
        dsimp only [List.set]
        refine e_goto (tgt := 4) dX0_commonest_33 (by decide) ?_
        exact ih (i + 1) _ _ (by omega) (by omega) (by omega) (by show _ = (if _ then _ else _); rw [← g4]; first | rw [if_pos (by omega)] | rw [if_neg (by omega)])
      · refine e_iload_n rfl dX0_commonest_28 ?_
        refine e_istore_n dX0_commonest_29 rfl rfl ?_
        dsimp only [List.set]
        refine e_iinc dX0_commonest_30 rfl rfl ?_
        dsimp only [List.set]
        refine e_goto (tgt := 4) dX0_commonest_33 (by decide) ?_
        exact ih (i + 1) _ _ (by omega) (by omega) (by omega) (by show _ = (if _ then _ else _); rw [← g4]; first | rw [if_pos (by omega)] | rw [if_neg (by omega)])
set_option maxHeartbeats 4000000 in
set_option maxRecDepth 100000 in
theorem k_commonest {G : kG} {d : Nat} {h : Nat → Option kC} {n : Nat} {b m e : Nat} {A E : Nat → Int} {t : Int} (r : rBk G h b m e A E t) (hA : ∀ j, j < 64 → 0 ≤ A j ∧ A j ≤ 999)  : kCall G mX0_commonest d 0 0 [.ref (gB G + b)] h n (kre (some (.int (jI (kmo A 64)))) h n) := by
  show kE G mX0_commonest d 0 0 0 [some (.ref (gB G + b)), none, none] [] h n _
  obtain ⟨r1, r2, r3⟩ := id r
  refine e_iconst dX0_commonest_0 ?_
  refine e_istore_n dX0_commonest_1 rfl rfl ?_
  dsimp only [List.set]
  refine e_iconst dX0_commonest_2 ?_
  refine e_istore_n dX0_commonest_3 rfl rfl ?_
  dsimp only [List.set]
  exact k_commonest_lp r hA 100 1 _ _ (by omega) (by omega) (by omega) (by show _ = (if _ then _ else _); split <;> rfl)
