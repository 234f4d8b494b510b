def rTx (G : kG) (h : Nat → Option kC) (t s : Nat) (c : Int) (F : Nat → Int) : Prop := h t = some (kob 5 [.ref (gB G + s), .int (jI c)]) ∧ h s = some (kia 60 F)
def kpc (c : Int) (F : Nat → Int) : Int := (if c = 0 then 0 else 1) + ksum (fun i => if F i = 59 then 1 else 0) c.toNat
set_option maxHeartbeats 4000000 in
set_option maxRecDepth 100000 in
theorem k_addT {G : kG} {d : Nat} {h : Nat → Option kC} {n : Nat} {t s : Nat} {c : Int} {F : Nat → Int} (r : rTx G h t s c F) (h0 : 0 ≤ c) (h1 : c ≤ 60) (hne : t ≠ s) (hc : c < 60) {x : Int} : kCall G mX7_add d 0 0 [.ref (gB G + t), .int (jI x)] h n (kre (some (.int (jI 1))) (kup (kup h s (kia 60 (up F c.toNat x))) t (kob 5 [.ref (gB G + s), .int (jI (c + 1))])) n) := by
  show kE G mX7_add d 0 0 0 [some (.ref (gB G + t)), some (.int (jI x))] [] h n _
  obtain ⟨r1, r2⟩ := id r
  refine e_aload_n rfl dX7_add_0 ?_
  refine e_getf fdX7_15 dX7_add_1 (by first | assumption | exact kup_s | exact kup_n (by omega) (by first | assumption | exact kup_s | exact kup_n (by omega) (by first | assumption | exact kup_s | exact kup_n (by omega) (by assumption)))) rfl ?_
  refine e_if_lt (tgt := 19) dX7_add_4 (by decide) (by first | assumption | (unfold inI at *; omega)) (fun c4 => ?_) (fun c4 => ?_)
  · exact absurd c4 (by omega)
  · refine e_aload_n rfl dX7_add_7 ?_
    refine e_getf fdX7_15 dX7_add_8 (by first | assumption | exact kup_s | exact kup_n (by omega) (by first | assumption | exact kup_s | exact kup_n (by omega) (by first | assumption | exact kup_s | exact kup_n (by omega) (by assumption)))) rfl ?_
    refine e_aload_n rfl dX7_add_11 ?_
    refine e_getf fdX7_9 dX7_add_12 (by first | assumption | exact kup_s | exact kup_n (by omega) (by first | assumption | exact kup_s | exact kup_n (by omega) (by first | assumption | exact kup_s | exact kup_n (by omega) (by assumption)))) rfl ?_
    refine e_alen dX7_add_15 (by first | assumption | exact kup_s | exact kup_n (by omega) (by first | assumption | exact kup_s | exact kup_n (by omega) (by first | assumption | exact kup_s | exact kup_n (by omega) (by assumption)))) (fun _ => rfl) ?_
    refine e_icmp_lt (tgt := 21) dX7_add_16 (by decide) (by first | assumption | (unfold inI at *; omega)) (by first | assumption | (unfold inI at *; omega)) (fun c16 => ?_) (fun c16 => ?_)
    · refine e_aload_n rfl dX7_add_21 ?_
      refine e_getf fdX7_9 dX7_add_22 (by first | assumption | exact kup_s | exact kup_n (by omega) (by first | assumption | exact kup_s | exact kup_n (by omega) (by first | assumption | exact kup_s | exact kup_n (by omega) (by assumption)))) rfl ?_
      refine e_aload_n rfl dX7_add_25 ?_
      refine e_getf fdX7_15 dX7_add_26 (by first | assumption | exact kup_s | exact kup_n (by omega) (by first | assumption | exact kup_s | exact kup_n (by omega) (by first | assumption | exact kup_s | exact kup_n (by omega) (by assumption)))) rfl ?_
      refine e_iload_n rfl dX7_add_29 ?_
      refine e_iast dX7_add_30 (by first | assumption | exact kup_s | exact kup_n (by omega) (by first | assumption | exact kup_s | exact kup_n (by omega) (by first | assumption | exact kup_s | exact kup_n (by omega) (by assumption)))) (by omega) (by omega) ?_
      refine e_aload_n rfl dX7_add_31 ?_
      refine e_dup rfl dX7_add_32 ?_
      refine e_getf fdX7_15 dX7_add_33 (by first | assumption | exact kup_s | exact kup_n (by omega) (by first | assumption | exact kup_s | exact kup_n (by omega) (by first | assumption | exact kup_s | exact kup_n (by omega) (by assumption)))) rfl ?_
      refine e_iconst dX7_add_36 ?_
      refine e_iadd dX7_add_37 ?_
      refine e_putf pfX7_15 dX7_add_38 (by first | assumption | exact kup_s | exact kup_n (by omega) (by first | assumption | exact kup_s | exact kup_n (by omega) (by first | assumption | exact kup_s | exact kup_n (by omega) (by assumption)))) rfl rfl rfl ?_
      dsimp only [List.set]
      refine e_iconst dX7_add_41 ?_
      refine e_ireturn dX7_add_42 rfl (by decide) ?_
      exact ⟨rfl, rfl, rfl⟩
    · exact absurd c16 (by omega)
set_option maxHeartbeats 4000000 in
set_option maxRecDepth 100000 in
theorem k_addF {G : kG} {d : Nat} {h : Nat → Option kC} {n : Nat} {t s : Nat} {c : Int} {F : Nat → Int} (r : rTx G h t s c F) (h0 : 0 ≤ c) (h1 : c ≤ 60) (hc : ¬ c < 60) {x : Int} : kCall G mX7_add d 0 0 [.ref (gB G + t), .int (jI x)] h n (kre (some (.int (jI 0))) h n) := by
  show kE G mX7_add d 0 0 0 [some (.ref (gB G + t)), some (.int (jI x))] [] h n _
  obtain ⟨r1, r2⟩ := id r
  refine e_aload_n rfl dX7_add_0 ?_
  refine e_getf fdX7_15 dX7_add_1 (by first | assumption | exact kup_s | exact kup_n (by omega) (by first | assumption | exact kup_s | exact kup_n (by omega) (by first | assumption | exact kup_s | exact kup_n (by omega) (by assumption)))) rfl ?_
  refine e_if_lt (tgt := 19) dX7_add_4 (by decide) (by first | assumption | (unfold inI at *; omega)) (fun c4 => ?_) (fun c4 => ?_)
  · exact absurd c4 (by omega)
  · refine e_aload_n rfl dX7_add_7 ?_
    refine e_getf fdX7_15 dX7_add_8 (by first | assumption | exact kup_s | exact kup_n (by omega) (by first | assumption | exact kup_s | exact kup_n (by omega) (by first | assumption | exact kup_s | exact kup_n (by omega) (by assumption)))) rfl ?_
    refine e_aload_n rfl dX7_add_11 ?_
    refine e_getf fdX7_9 dX7_add_12 (by first | assumption | exact kup_s | exact kup_n (by omega) (by first | assumption | exact kup_s | exact kup_n (by omega) (by first | assumption | exact kup_s | exact kup_n (by omega) (by assumption)))) rfl ?_
    refine e_alen dX7_add_15 (by first | assumption | exact kup_s | exact kup_n (by omega) (by first | assumption | exact kup_s | exact kup_n (by omega) (by first | assumption | exact kup_s | exact kup_n (by omega) (by assumption)))) (fun _ => rfl) ?_
    refine e_icmp_lt (tgt := 21) dX7_add_16 (by decide) (by first | assumption | (unfold inI at *; omega)) (by first | assumption | (unfold inI at *; omega)) (fun c16 => ?_) (fun c16 => ?_)
    · exact absurd c16 (by omega)
    · refine e_iconst dX7_add_19 ?_
      refine e_ireturn dX7_add_20 rfl (by decide) ?_
      exact ⟨rfl, rfl, rfl⟩
set_option maxHeartbeats 4000000 in
set_option maxRecDepth 100000 in
theorem k_clearT {G : kG} {d : Nat} {h : Nat → Option kC} {n : Nat} {t s : Nat} {c : Int} {F : Nat → Int} (r : rTx G h t s c F) (h0 : 0 ≤ c) (h1 : c ≤ 60)  : kCall G mX7_clear d 0 0 [.ref (gB G + t)] h n (kre none (kup h t (kob 5 [.ref (gB G + s), .int (jI 0)])) n) := by
  show kE G mX7_clear d 0 0 0 [some (.ref (gB G + t))] [] h n _
  obtain ⟨r1, r2⟩ := id r
  refine e_aload_n rfl dX7_clear_0 ?_
  refine e_iconst dX7_clear_1 ?_
  refine e_putf pfX7_15 dX7_clear_2 (by first | assumption | exact kup_s | exact kup_n (by omega) (by first | assumption | exact kup_s | exact kup_n (by omega) (by first | assumption | exact kup_s | exact kup_n (by omega) (by assumption)))) rfl rfl rfl ?_
  dsimp only [List.set]
  refine e_return dX7_clear_5 rfl ?_
  exact ⟨rfl, rfl, rfl⟩
set_option maxHeartbeats 4000000 in
set_option maxRecDepth 100000 in
theorem k_signAt {G : kG} {d : Nat} {h : Nat → Option kC} {n : Nat} {t s : Nat} {c : Int} {F : Nat → Int} (r : rTx G h t s c F) {p : Int} (h0 : 0 ≤ p) (h1 : p < 60) : kCall G mX7_signAt d 0 0 [.ref (gB G + t), .int (jI p)] h n (kre (some (.int (jI (F p.toNat)))) h n) := by
  show kE G mX7_signAt d 0 0 0 [some (.ref (gB G + t)), some (.int (jI p))] [] h n _
  obtain ⟨r1, r2⟩ := id r
  refine e_iload_n rfl dX7_signAt_0 ?_
  refine e_if_lt (tgt := 13) dX7_signAt_1 (by decide) (by first | assumption | (unfold inI at *; omega)) (fun c1 => ?_) (fun c1 => ?_)
  · exact absurd c1 (by omega)
  · refine e_iload_n rfl dX7_signAt_4 ?_
    refine e_aload_n rfl dX7_signAt_5 ?_
    refine e_getf fdX7_9 dX7_signAt_6 (by first | assumption | exact kup_s | exact kup_n (by omega) (by first | assumption | exact kup_s | exact kup_n (by omega) (by first | assumption | exact kup_s | exact kup_n (by omega) (by assumption)))) rfl ?_
    refine e_alen dX7_signAt_9 (by first | assumption | exact kup_s | exact kup_n (by omega) (by first | assumption | exact kup_s | exact kup_n (by omega) (by first | assumption | exact kup_s | exact kup_n (by omega) (by assumption)))) (fun _ => rfl) ?_
    refine e_icmp_lt (tgt := 17) dX7_signAt_10 (by decide) (by first | assumption | (unfold inI at *; omega)) (by first | assumption | (unfold inI at *; omega)) (fun c10 => ?_) (fun c10 => ?_)
    · refine e_aload_n rfl dX7_signAt_17 ?_
      refine e_getf fdX7_9 dX7_signAt_18 (by first | assumption | exact kup_s | exact kup_n (by omega) (by first | assumption | exact kup_s | exact kup_n (by omega) (by first | assumption | exact kup_s | exact kup_n (by omega) (by assumption)))) rfl ?_
      refine e_iload_n rfl dX7_signAt_21 ?_
      refine e_iald dX7_signAt_22 (by first | assumption | exact kup_s | exact kup_n (by omega) (by first | assumption | exact kup_s | exact kup_n (by omega) (by first | assumption | exact kup_s | exact kup_n (by omega) (by assumption)))) (by omega) (by omega) ?_
      refine e_ireturn dX7_signAt_23 rfl rfl ?_
      exact ⟨rfl, rfl, rfl⟩
    · exact absurd c10 (by omega)
set_option maxHeartbeats 4000000 in
set_option maxRecDepth 100000 in
theorem k_copyT {G : kG} {d : Nat} {h : Nat → Option kC} {n : Nat} {t s : Nat} {c : Int} {F : Nat → Int} (r : rTx G h t s c F) {t2 s2 : Nat} {c2 : Int} {F2 : Nat → Int} (q : rTx G h t2 s2 c2 F2) (hn1 : t ≠ s) (hn2 : t2 ≠ s) : kCall G mX7_copyFrom (d + 1) 0 0 [.ref (gB G + t), .ref (gB G + t2)] h n (kre none (kup (kup h s (kia 60 F2)) t (kob 5 [.ref (gB G + s), .int (jI c2)])) n) := by
  show kE G mX7_copyFrom (d + 1) 0 0 0 [some (.ref (gB G + t)), some (.ref (gB G + t2))] [] h n _
  obtain ⟨r1, r2⟩ := id r
  obtain ⟨q1, q2⟩ := id q
  refine e_aload_n rfl dX7_copyFrom_0 ?_
  refine e_getf fdX7_9 dX7_copyFrom_1 (by first | assumption | exact kup_s | exact kup_n (by omega) (by first | assumption | exact kup_s | exact kup_n (by omega) (by first | assumption | exact kup_s | exact kup_n (by omega) (by assumption)))) rfl ?_
  refine e_iconst dX7_copyFrom_4 ?_
  refine e_aload_n rfl dX7_copyFrom_5 ?_
  refine e_getf fdX7_9 dX7_copyFrom_6 (by first | assumption | exact kup_s | exact kup_n (by omega) (by first | assumption | exact kup_s | exact kup_n (by omega) (by first | assumption | exact kup_s | exact kup_n (by omega) (by assumption)))) rfl ?_
  refine e_iconst dX7_copyFrom_9 ?_
  refine e_aload_n rfl dX7_copyFrom_10 ?_
  refine e_getf fdX7_9 dX7_copyFrom_11 (by first | assumption | exact kup_s | exact kup_n (by omega) (by first | assumption | exact kup_s | exact kup_n (by omega) (by first | assumption | exact kup_s | exact kup_n (by omega) (by assumption)))) rfl ?_
  refine e_alen dX7_copyFrom_14 (by first | assumption | exact kup_s | exact kup_n (by omega) (by first | assumption | exact kup_s | exact kup_n (by omega) (by first | assumption | exact kup_s | exact kup_n (by omega) (by assumption)))) (fun _ => rfl) ?_
  refine e_copy lkX7_19 dX7_copyFrom_15 (by assumption) (by assumption) rfl ?_
  refine e_aload_n rfl dX7_copyFrom_18 ?_
  refine e_aload_n rfl dX7_copyFrom_19 ?_
  refine e_getf fdX7_15 dX7_copyFrom_20 (by first | assumption | exact kup_s | exact kup_n (by omega) (by first | assumption | exact kup_s | exact kup_n (by omega) (by first | assumption | exact kup_s | exact kup_n (by omega) (by assumption)))) rfl ?_
  refine e_putf pfX7_15 dX7_copyFrom_23 (by first | assumption | exact kup_s | exact kup_n (by omega) (by first | assumption | exact kup_s | exact kup_n (by omega) (by first | assumption | exact kup_s | exact kup_n (by omega) (by assumption)))) rfl rfl rfl ?_
  dsimp only [List.set]
  refine e_return dX7_copyFrom_26 rfl ?_
  exact ⟨rfl, rfl, rfl⟩
set_option maxHeartbeats 4000000 in
set_option maxRecDepth 100000 in
theorem k_pieces_lp {G : kG} {d : Nat} {h : Nat → Option kC} {n : Nat} {t s : Nat} {c : Int} {F : Nat → Int} (r : rTx G h t s c F) (h0 : 0 ≤ c) (h1 : c ≤ 60) (hF : ∀ j, j < 60 → 0 ≤ F j ∧ F j ≤ 126) : ∀ (f : Nat) (x y : Int), 0 ≤ x → x ≤ c → c - x ≤ f → y = (if c = 0 then 0 else 1) + ksum (fun i => if F i = 59 then 1 else 0) x.toNat → kE G mX7_pieces (d + 1) 0 0 15 [some (.ref (gB G + t)), some (.int (jI y)), some (.int (jI x))] [] h n (kre (some (.int (jI (kpc c F)))) h n) := by
  obtain ⟨r1, r2⟩ := id r
  intro f
  induction f with
  | zero =>
    intro x y g1 g2 g3 g4
    refine e_iload_n rfl dX7_pieces_15 ?_
    refine e_aload_n rfl dX7_pieces_16 ?_
    refine e_getf fdX7_15 dX7_pieces_17 (by first | assumption | exact kup_s | exact kup_n (by omega) (by first | assumption | exact kup_s | exact kup_n (by omega) (by first | assumption | exact kup_s | exact kup_n (by omega) (by assumption)))) rfl ?_
    refine e_icmp_ge (tgt := 47) dX7_pieces_20 (by decide) (by first | assumption | (unfold inI at *; omega)) (by first | assumption | (unfold inI at *; omega)) (fun c20 => ?_) (fun c20 => ?_)
    · refine e_iload_n rfl dX7_pieces_47 ?_
      refine e_ireturn dX7_pieces_48 rfl rfl ?_
      exact ⟨by rw [g4, show x = c by omega]; rfl, rfl, rfl⟩
    · exact absurd c20 (by omega)
  | succ f ih =>
    intro x y g1 g2 g3 g4
    refine e_iload_n rfl dX7_pieces_15 ?_
    refine e_aload_n rfl dX7_pieces_16 ?_
    refine e_getf fdX7_15 dX7_pieces_17 (by first | assumption | exact kup_s | exact kup_n (by omega) (by first | assumption | exact kup_s | exact kup_n (by omega) (by first | assumption | exact kup_s | exact kup_n (by omega) (by assumption)))) rfl ?_
    refine e_icmp_ge (tgt := 47) dX7_pieces_20 (by decide) (by first | assumption | (unfold inI at *; omega)) (by first | assumption | (unfold inI at *; omega)) (fun c20 => ?_) (fun c20 => ?_)
    · refine e_iload_n rfl dX7_pieces_47 ?_
      refine e_ireturn dX7_pieces_48 rfl rfl ?_
      exact ⟨by rw [g4, show x = c by omega]; rfl, rfl, rfl⟩
    · refine e_iload_n rfl dX7_pieces_23 ?_
      refine e_aload_n rfl dX7_pieces_24 ?_
      refine e_iload_n rfl dX7_pieces_25 ?_
      refine eV1 mtX7_signAt miX7_signAt lkX7_25 dX7_pieces_26 (by first | assumption | exact kup_s | exact kup_n (by omega) (by first | assumption | exact kup_s | exact kup_n (by omega) (by first | assumption | exact kup_s | exact kup_n (by omega) (by assumption)))) rfl rfl rfl (k_signAt (by assumption) (by omega) (by omega)) ?_
      dsimp only [Option.toList, List.cons_append, List.nil_append]
      refine e_bipush (by decide) dX7_pieces_29 ?_
      refine e_icmp_ne (tgt := 38) dX7_pieces_31 (by decide) (by have := hF x.toNat (by omega); unfold inI; omega) (by first | assumption | (unfold inI at *; omega)) (fun c31 => ?_) (fun c31 => ?_)
      · refine e_iconst dX7_pieces_38 ?_
        refine e_iadd dX7_pieces_39 ?_
        refine e_istore_n dX7_pieces_40 rfl rfl ?_
        dsimp only [List.set]
        refine e_iinc dX7_pieces_41 rfl rfl ?_
        dsimp only [List.set]
        refine e_goto (tgt := 15) dX7_pieces_44 (by decide) ?_
        exact ih (x + 1) _ (by omega) (by omega) (by omega) (by rw [g4, show (x + 1).toNat = x.toNat + 1 by omega, ksum_s]; first | (rw [if_pos c31]; omega) | (rw [if_neg c31]; omega))
      · refine e_iconst dX7_pieces_34 ?_
        refine e_goto (tgt := 39) dX7_pieces_35 (by decide) ?_
        refine e_iadd dX7_pieces_39 ?_
        refine e_istore_n dX7_pieces_40 rfl rfl ?_
        dsimp only [List.set]
        refine e_iinc dX7_pieces_41 rfl rfl ?_
        dsimp only [List.set]
        refine e_goto (tgt := 15) dX7_pieces_44 (by decide) ?_
        exact ih (x + 1) _ (by omega) (by omega) (by omega) (by rw [g4, show (x + 1).toNat = x.toNat + 1 by omega, ksum_s]; first | (rw [if_pos c31]; omega) | (rw [if_neg c31]; omega))
set_option maxHeartbeats 4000000 in
set_option maxRecDepth 100000 in
theorem k_pieces {G : kG} {d : Nat} {h : Nat → Option kC} {n : Nat} {t s : Nat} {c : Int} {F : Nat → Int} (r : rTx G h t s c F) (h0 : 0 ≤ c) (h1 : c ≤ 60) (hF : ∀ j, j < 60 → 0 ≤ F j ∧ F j ≤ 126) : kCall G mX7_pieces (d + 1) 0 0 [.ref (gB G + t)] h n (kre (some (.int (jI (kpc c F)))) h n) := by
  show kE G mX7_pieces (d + 1) 0 0 0 [some (.ref (gB G + t)), none, none] [] h n _
  obtain ⟨r1, r2⟩ := id r
  refine e_aload_n rfl dX7_pieces_0 ?_
  refine e_getf fdX7_15 dX7_pieces_1 (by first | assumption | exact kup_s | exact kup_n (by omega) (by first | assumption | exact kup_s | exact kup_n (by omega) (by first | assumption | exact kup_s | exact kup_n (by omega) (by assumption)))) rfl ?_
  refine e_if_ne (tgt := 11) dX7_pieces_4 (by decide) (by first | assumption | (unfold inI at *; omega)) (fun c4 => ?_) (fun c4 => ?_)
  · refine e_iconst dX7_pieces_11 ?_
    refine e_istore_n dX7_pieces_12 rfl rfl ?_
    dsimp only [List.set]
    refine e_iconst dX7_pieces_13 ?_
    refine e_istore_n dX7_pieces_14 rfl rfl ?_
    dsimp only [List.set]
    exact k_pieces_lp r h0 h1 hF 100 _ _ (by omega) (by omega) (by omega) (by first | (rw [if_pos c4]; rfl) | (rw [if_neg c4]; rfl))
  · refine e_iconst dX7_pieces_7 ?_
    refine e_goto (tgt := 12) dX7_pieces_8 (by decide) ?_
    refine e_istore_n dX7_pieces_12 rfl rfl ?_
    dsimp only [List.set]
    refine e_iconst dX7_pieces_13 ?_
    refine e_istore_n dX7_pieces_14 rfl rfl ?_
    dsimp only [List.set]
    exact k_pieces_lp r h0 h1 hF 100 _ _ (by omega) (by omega) (by omega) (by first | (rw [if_pos c4]; rfl) | (rw [if_neg c4]; rfl))
