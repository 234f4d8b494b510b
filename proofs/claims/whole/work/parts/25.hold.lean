/-! HOLDINGS: all but signs. The object at a; its books' row a + 1, THE RULE a + 2 (signs a + 3), GROWTH a + 4 (a + 5), ways a + 6, BOOK i from a + 7 + 3 i on. -/
abbrev kHd : Type := (Nat → Nat → Int) × (Nat → Nat → Int) × (Nat → Int) × (Int × (Nat → Int)) × (Int × (Nat → Int))
def hM (S : kHd) : Nat → Nat → Int := S.1
def hE (S : kHd) : Nat → Nat → Int := S.2.1
def hW (S : kHd) : Nat → Int := S.2.2.1
def hR (S : kHd) : Int × (Nat → Int) := S.2.2.2.1
def hG (S : kHd) : Int × (Nat → Int) := S.2.2.2.2
def rHn (G : kG) (h : Nat → Option kC) (a : Nat) (S : kHd) : Prop :=
  h a = some (kob 1 [.ref (gB G + (a + 1)), .ref (gB G + (a + 2)), .ref (gB G + (a + 4)), .ref (gB G + (a + 6))]) ∧
  (∃ f : Nat → Option Nat, h (a + 1) = some (kra 3 6 f) ∧ ∀ i, i < 6 → f i = some (gB G + (a + 7 + 3 * i))) ∧
  rTx G h (a + 2) (a + 3) (hR S).1 (hR S).2 ∧ rTx G h (a + 4) (a + 5) (hG S).1 (hG S).2 ∧ h (a + 6) = some (kia 5 (hW S))
def rHd (G : kG) (h : Nat → Option kC) (a : Nat) (S : kHd) : Prop :=
  rHn G h a S ∧ ∀ i, i < 6 → rBk G h (a + 7 + 3 * i) (a + 8 + 3 * i) (a + 9 + 3 * i) (hM S i) (hE S i) (ksum (hM S i) 64)
/-- a text without a FAULT, or none -/
def kTok (how : Int) (q : Int × (Nat → Int)) : Prop := 0 ≤ q.1 ∧ q.1 ≤ 60 ∧ (∀ j, j < 60 → 0 ≤ q.2 j ∧ q.2 j ≤ 126) ∧ (q.1 = 0 ∨ kfault q.2 q.1 how = -6) ∧ kno q.2 q.1.toNat 0 0 ∧ kng q.2 q.1.toNat 0 0
def kEok (E : Nat → Int) : Prop := (0 ≤ E 0 ∧ E 0 ≤ 99) ∧ (14 ≤ E 1 ∧ E 1 ≤ 40) ∧ (0 ≤ E 2 ∧ E 2 ≤ 2)
def kWok (W : Nat → Int) : Prop := (0 ≤ W 0 ∧ W 0 ≤ 9) ∧ (0 ≤ W 1 ∧ W 1 ≤ 9) ∧ (0 ≤ W 2 ∧ W 2 ≤ 4) ∧ (0 ≤ W 3 ∧ W 3 ≤ 10) ∧ (0 ≤ W 4 ∧ W 4 ≤ 10)
def kAok (A : Nat → Int) : Prop := ∀ j, j < 64 → 0 ≤ A j ∧ A j ≤ 999
def kHok (S : kHd) : Prop := (∀ i, i < 6 → kAok (hM S i)) ∧ (∀ i, i < 6 → kEok (hE S i)) ∧ kWok (hW S) ∧ kTok 0 (hR S) ∧ kTok 1 (hG S)
/-- LINE -/
def kln (E : Nat → Int) (q : Int × (Nat → Int)) : Int := if E 2 = 0 then kmini 63 (klb q.2 (E 0) (E 1) q.1.toNat 0 1 0 42 0) else 0
def kgw (q : Int × (Nat → Int)) (a : Int) : Int := kga q.2 a q.1.toNat 0 0 0
/-- GROWN: from an AGE till 23; the mean of tenths -/
def kgf (q : Int × (Nat → Int)) (a : Int) : Int := ksum (fun j => kgw q (a + j)) (23 - a).toNat
def kmg (q : Int × (Nat → Int)) (l a : Int) : Int := (10 - l) * kgf q a + l * kgf q (a - 1)
def kinch (v : Int) : Int := if v % 4 ≤ 2 then v - v % 4 else kmini 63 (v - v % 4 + 4)
def kfv (W : Nat → Int) (line x : Int) : Int := if x < line ∧ line - x ≤ W 2 then W 3 else 0
def khp (W : Nat → Int) (x : Int) : Int := if x % 4 = 0 then 0 else W 1
def kwr (W : Nat → Int) (line x y : Int) : Int := (if y = line then 10 * kfv W line x else 0) + (if y = kinch x then (10 - kfv W line x) * khp W x else 0) + (if y = x then (10 - kfv W line x) * (10 - khp W x) else 0)
set_option maxHeartbeats 4000000 in
set_option maxRecDepth 100000 in
theorem k_bookAt {G : kG} {d : Nat} {h : Nat → Option kC} {n : Nat} {a : Nat} {S : kHd} (r : rHn G h a S) {x : Int} (h0 : 0 ≤ x) (h1 : x ≤ 5) : kCall G mX2_bookAt (d + 1) 0 0 [.ref (gB G + a), .int (jI x)] h n (kre (some (.ref (gB G + (a + 7 + 3 * x.toNat)))) h n) := by
  show kE G mX2_bookAt (d + 1) 0 0 0 [some (.ref (gB G + a)), some (.int (jI x))] [] h n _
  obtain ⟨r1, ⟨f9, r2, r2f⟩, r3, r4, r5⟩ := id r
  obtain ⟨r3a, r3b⟩ := id r3
  obtain ⟨r4a, r4b⟩ := id r4
  refine e_iload_n rfl dX2_bookAt_0 ?_
  refine e_iconst dX2_bookAt_1 ?_
  refine e_aload_n rfl dX2_bookAt_2 ?_
  refine e_getf fdX2_11 dX2_bookAt_3 (by first | assumption | exact kup_s | exact kup_n (by omega) (by first | assumption | exact kup_s | exact kup_n (by omega) (by first | assumption | exact kup_s | exact kup_n (by omega) (by assumption)))) rfl ?_
  refine e_alen dX2_bookAt_6 (by first | assumption | exact kup_s | exact kup_n (by omega) (by first | assumption | exact kup_s | exact kup_n (by omega) (by first | assumption | exact kup_s | exact kup_n (by omega) (by assumption)))) (fun _ => rfl) ?_
  refine e_iconst dX2_bookAt_7 ?_
  refine e_isub dX2_bookAt_8 ?_
  refine eSN3 mtX9_within msX9_within lnX2_48 dX2_bookAt_9 rfl rfl (k_within (by first | assumption | (unfold inI at *; omega)) (by first | assumption | (unfold inI at *; omega)) (by first | assumption | (unfold inI at *; omega))) ?_
  dsimp only [Option.toList, List.cons_append, List.nil_append]
  refine e_ifeqP (tgt := 24) dX2_bookAt_12 (by decide) (fun c12 => ?_) (fun c12 => ?_)
  · exact absurd c12 (by omega)
  · refine e_aload_n rfl dX2_bookAt_15 ?_
    refine e_getf fdX2_11 dX2_bookAt_16 (by first | assumption | exact kup_s | exact kup_n (by omega) (by first | assumption | exact kup_s | exact kup_n (by omega) (by first | assumption | exact kup_s | exact kup_n (by omega) (by assumption)))) rfl ?_
    refine e_iload_n rfl dX2_bookAt_19 ?_
    refine e_aald (j := a + 7 + 3 * x.toNat) dX2_bookAt_20 (by first | assumption | exact kup_s | exact kup_n (by omega) (by first | assumption | exact kup_s | exact kup_n (by omega) (by first | assumption | exact kup_s | exact kup_n (by omega) (by assumption)))) (fun _ => rfl) rfl (by omega) (by omega) (r2f _ (by omega)) ?_
    refine e_goto (tgt := 25) dX2_bookAt_21 (by decide) ?_
    refine e_areturn dX2_bookAt_25 rfl (Or.inr ⟨_, rfl⟩) ?_
    exact ⟨rfl, rfl, rfl⟩
set_option maxHeartbeats 4000000 in
set_option maxRecDepth 100000 in
theorem k_bookAtN {G : kG} {d : Nat} {h : Nat → Option kC} {n : Nat} {a : Nat} {S : kHd} (r : rHn G h a S) {x : Int} (hx : inI x) (h1 : ¬ (0 ≤ x ∧ x ≤ 5)) : kCall G mX2_bookAt (d + 1) 0 0 [.ref (gB G + a), .int (jI x)] h n (kre (some .null) h n) := by
  show kE G mX2_bookAt (d + 1) 0 0 0 [some (.ref (gB G + a)), some (.int (jI x))] [] h n _
  obtain ⟨r1, ⟨f9, r2, r2f⟩, r3, r4, r5⟩ := id r
  obtain ⟨r3a, r3b⟩ := id r3
  obtain ⟨r4a, r4b⟩ := id r4
  refine e_iload_n rfl dX2_bookAt_0 ?_
  refine e_iconst dX2_bookAt_1 ?_
  refine e_aload_n rfl dX2_bookAt_2 ?_
  refine e_getf fdX2_11 dX2_bookAt_3 (by first | assumption | exact kup_s | exact kup_n (by omega) (by first | assumption | exact kup_s | exact kup_n (by omega) (by first | assumption | exact kup_s | exact kup_n (by omega) (by assumption)))) rfl ?_
  refine e_alen dX2_bookAt_6 (by first | assumption | exact kup_s | exact kup_n (by omega) (by first | assumption | exact kup_s | exact kup_n (by omega) (by first | assumption | exact kup_s | exact kup_n (by omega) (by assumption)))) (fun _ => rfl) ?_
  refine e_iconst dX2_bookAt_7 ?_
  refine e_isub dX2_bookAt_8 ?_
  refine eSN3 mtX9_within msX9_within lnX2_48 dX2_bookAt_9 rfl rfl (k_within (by first | assumption | (unfold inI at *; omega)) (by first | assumption | (unfold inI at *; omega)) (by first | assumption | (unfold inI at *; omega))) ?_
  dsimp only [Option.toList, List.cons_append, List.nil_append]
  refine e_ifeqP (tgt := 24) dX2_bookAt_12 (by decide) (fun c12 => ?_) (fun c12 => ?_)
  · refine e_null dX2_bookAt_24 ?_
    refine e_areturn dX2_bookAt_25 rfl (Or.inl rfl) ?_
    exact ⟨rfl, rfl, rfl⟩
  · exact absurd c12 (by omega)
set_option maxHeartbeats 4000000 in
set_option maxRecDepth 100000 in
theorem k_wayOf {G : kG} {d : Nat} {h : Nat → Option kC} {n : Nat} {a : Nat} {S : kHd} (r : rHn G h a S) {x : Int} (h0 : 0 ≤ x) (h1 : x ≤ 4) : kCall G mX2_wayOf (d + 1) 0 0 [.ref (gB G + a), .int (jI x)] h n (kre (some (.int (jI (hW S x.toNat)))) h n) := by
  show kE G mX2_wayOf (d + 1) 0 0 0 [some (.ref (gB G + a)), some (.int (jI x))] [] h n _
  obtain ⟨r1, ⟨f9, r2, r2f⟩, r3, r4, r5⟩ := id r
  obtain ⟨r3a, r3b⟩ := id r3
  obtain ⟨r4a, r4b⟩ := id r4
  refine e_iload_n rfl dX2_wayOf_0 ?_
  refine e_iconst dX2_wayOf_1 ?_
  refine e_aload_n rfl dX2_wayOf_2 ?_
  refine e_getf fdX2_31 dX2_wayOf_3 (by first | assumption | exact kup_s | exact kup_n (by omega) (by first | assumption | exact kup_s | exact kup_n (by omega) (by first | assumption | exact kup_s | exact kup_n (by omega) (by assumption)))) rfl ?_
  refine e_alen dX2_wayOf_6 (by first | assumption | exact kup_s | exact kup_n (by omega) (by first | assumption | exact kup_s | exact kup_n (by omega) (by first | assumption | exact kup_s | exact kup_n (by omega) (by assumption)))) (fun _ => rfl) ?_
  refine e_iconst dX2_wayOf_7 ?_
  refine e_isub dX2_wayOf_8 ?_
  refine eSN3 mtX9_within msX9_within lnX2_48 dX2_wayOf_9 rfl rfl (k_within (by first | assumption | (unfold inI at *; omega)) (by first | assumption | (unfold inI at *; omega)) (by first | assumption | (unfold inI at *; omega))) ?_
  dsimp only [Option.toList, List.cons_append, List.nil_append]
  refine e_ifeqP (tgt := 24) dX2_wayOf_12 (by decide) (fun c12 => ?_) (fun c12 => ?_)
  · exact absurd c12 (by omega)
  · refine e_aload_n rfl dX2_wayOf_15 ?_
    refine e_getf fdX2_31 dX2_wayOf_16 (by first | assumption | exact kup_s | exact kup_n (by omega) (by first | assumption | exact kup_s | exact kup_n (by omega) (by first | assumption | exact kup_s | exact kup_n (by omega) (by assumption)))) rfl ?_
    refine e_iload_n rfl dX2_wayOf_19 ?_
    refine e_iald dX2_wayOf_20 (by first | assumption | exact kup_s | exact kup_n (by omega) (by first | assumption | exact kup_s | exact kup_n (by omega) (by first | assumption | exact kup_s | exact kup_n (by omega) (by assumption)))) (by omega) (by omega) ?_
    refine e_goto (tgt := 25) dX2_wayOf_21 (by decide) ?_
    refine e_ireturn dX2_wayOf_25 rfl rfl ?_
    exact ⟨rfl, rfl, rfl⟩
set_option maxHeartbeats 4000000 in
set_option maxRecDepth 100000 in
theorem k_turn {G : kG} {d : Nat} {h : Nat → Option kC} {n : Nat} {a : Nat} {S : kHd} (r : rHn G h a S) {x y : Int} (h0 : 0 ≤ x) (h1 : x ≤ 4) : kCall G mX2_turn (d + 1) 0 0 [.ref (gB G + a), .int (jI x), .int (jI y)] h n (kre none (kup h (a + 6) (kia 5 (up (hW S) x.toNat y))) n) := by
  show kE G mX2_turn (d + 1) 0 0 0 [some (.ref (gB G + a)), some (.int (jI x)), some (.int (jI y))] [] h n _
  obtain ⟨r1, ⟨f9, r2, r2f⟩, r3, r4, r5⟩ := id r
  obtain ⟨r3a, r3b⟩ := id r3
  obtain ⟨r4a, r4b⟩ := id r4
  refine e_iload_n rfl dX2_turn_0 ?_
  refine e_iconst dX2_turn_1 ?_
  refine e_aload_n rfl dX2_turn_2 ?_
  refine e_getf fdX2_31 dX2_turn_3 (by first | assumption | exact kup_s | exact kup_n (by omega) (by first | assumption | exact kup_s | exact kup_n (by omega) (by first | assumption | exact kup_s | exact kup_n (by omega) (by assumption)))) rfl ?_
  refine e_alen dX2_turn_6 (by first | assumption | exact kup_s | exact kup_n (by omega) (by first | assumption | exact kup_s | exact kup_n (by omega) (by first | assumption | exact kup_s | exact kup_n (by omega) (by assumption)))) (fun _ => rfl) ?_
  refine e_iconst dX2_turn_7 ?_
  refine e_isub dX2_turn_8 ?_
  refine eSN3 mtX9_within msX9_within lnX2_48 dX2_turn_9 rfl rfl (k_within (by first | assumption | (unfold inI at *; omega)) (by first | assumption | (unfold inI at *; omega)) (by first | assumption | (unfold inI at *; omega))) ?_
  dsimp only [Option.toList, List.cons_append, List.nil_append]
  refine e_ifeqP (tgt := 22) dX2_turn_12 (by decide) (fun c12 => ?_) (fun c12 => ?_)
  · exact absurd c12 (by omega)
  · refine e_aload_n rfl dX2_turn_15 ?_
    refine e_getf fdX2_31 dX2_turn_16 (by first | assumption | exact kup_s | exact kup_n (by omega) (by first | assumption | exact kup_s | exact kup_n (by omega) (by first | assumption | exact kup_s | exact kup_n (by omega) (by assumption)))) rfl ?_
    refine e_iload_n rfl dX2_turn_19 ?_
    refine e_iload_n rfl dX2_turn_20 ?_
    refine e_iast dX2_turn_21 (by first | assumption | exact kup_s | exact kup_n (by omega) (by first | assumption | exact kup_s | exact kup_n (by omega) (by first | assumption | exact kup_s | exact kup_n (by omega) (by assumption)))) (by omega) (by omega) ?_
    refine e_return dX2_turn_22 rfl ?_
    exact ⟨rfl, rfl, rfl⟩
theorem klb_in {F : Nat → Int} {y a : Int} : ∀ (f i : Nat) (ft nm cp nu : Int), kno F f i nu → 0 ≤ klb F y a f i ft nm cp nu ∧ klb F y a f i ft nm cp nu ≤ 999
  | 0, i, ft, nm, cp, nu, h => by
    have := kno_in h
    unfold klb
    split <;> omega
  | f + 1, i, ft, nm, cp, nu, h => by
    have h1 := kno_in h
    have h2 := h.2
    unfold klb
    split
    · rename_i c
      rw [if_pos c] at h2
      exact klb_in f _ _ _ _ _ h2
    · rename_i c
      rw [if_neg c] at h2
      split
      · rw [if_neg (by omega)] at h2
        exact klb_in f _ _ _ _ _ h2
      · split
        · rw [if_pos (by omega)] at h2
          exact klb_in f _ _ _ _ _ h2
        · split
          · rw [if_neg (by omega)] at h2
            exact klb_in f _ _ _ _ _ h2
          · split
            · exact h1
            · rw [if_pos (by omega)] at h2
              exact klb_in f _ _ _ _ _ h2
theorem kga_in {F : Nat → Int} {a : Int} : ∀ (f i : Nat) (nm nu : Int), kng F f i nu → 0 ≤ kga F a f i nm nu ∧ kga F a f i nm nu ≤ 999
  | 0, i, nm, nu, h => by
    have := kng_in h
    unfold kga
    split <;> omega
  | f + 1, i, nm, nu, h => by
    have h1 := kng_in h
    have h2 := h.2
    unfold kga
    split
    · rename_i c
      rw [if_pos c] at h2
      exact kga_in f _ _ _ h2
    · rename_i c
      rw [if_neg c] at h2
      split
      · exact kga_in f _ _ _ h2
      · split
        · exact h1
        · exact kga_in f _ _ _ h2
theorem kln_in {E : Nat → Int} {q : Int × (Nat → Int)} {how : Int} (h : kTok how q) : 0 ≤ kln E q ∧ kln E q ≤ 63 := by
  have := klb_in (F := q.2) (y := E 0) (a := E 1) q.1.toNat 0 1 0 42 0 h.2.2.2.2.1
  unfold kln kmini
  (repeat' split) <;> omega
set_option maxHeartbeats 4000000 in
set_option maxRecDepth 100000 in
theorem k_lineOf {G : kG} {d : Nat} {h : Nat → Option kC} {n : Nat} {a : Nat} {S : kHd} (r : rHn G h a S) (ok : kHok S) {b m e : Nat} {A E : Nat → Int} {t : Int} (q : rBk G h b m e A E t) (qe : kEok E)  : kCall G mX2_lineOf (d + 3) 0 0 [.ref (gB G + a), .ref (gB G + b)] h n (kre (some (.int (jI (kln E (hR S))))) h n) := by
  show kE G mX2_lineOf (d + 3) 0 0 0 [some (.ref (gB G + a)), some (.ref (gB G + b))] [] h n _
  obtain ⟨r1, ⟨f9, r2, r2f⟩, r3, r4, r5⟩ := id r
  obtain ⟨r3a, r3b⟩ := id r3
  obtain ⟨r4a, r4b⟩ := id r4
  obtain ⟨ok1, ok2, ok3, ok4, ok5⟩ := id ok
  obtain ⟨⟨w00, w01⟩, ⟨w10, w11⟩, ⟨w20, w21⟩, ⟨w30, w31⟩, ⟨w40, w41⟩⟩ := id ok3
  obtain ⟨q1, q2, q3⟩ := id q
  obtain ⟨⟨e00, e01⟩, ⟨e10, e11⟩, ⟨e20, e21⟩⟩ := id qe
  obtain ⟨t1, t2, t3, t4, t5, t6⟩ := id ok4
  have t9 := klb_in (F := (hR S).2) (y := E 0) (a := E 1) (hR S).1.toNat 0 1 0 42 0 t5
  refine e_aload_n rfl dX2_lineOf_0 ?_
  refine e_iconst dX2_lineOf_1 ?_
  refine eV1 mtX0_entry miX0_entry lkX2_52 dX2_lineOf_2 (by first | assumption | exact kup_s | exact kup_n (by omega) (by first | assumption | exact kup_s | exact kup_n (by omega) (by first | assumption | exact kup_s | exact kup_n (by omega) (by assumption)))) rfl rfl rfl (k_entry (by assumption) (by omega) (by omega)) ?_
  dsimp only [Option.toList, List.cons_append, List.nil_append]
  rw [show (2 : Int).toNat = 2 from rfl]
  refine e_if_eq (tgt := 10) dX2_lineOf_5 (by decide) (by first | assumption | (unfold inI at *; omega)) (fun c5 => ?_) (fun c5 => ?_)
  · refine e_bipush (by decide) dX2_lineOf_10 ?_
    refine e_aload_n rfl dX2_lineOf_12 ?_
    refine e_getf fdX2_20 dX2_lineOf_13 (by first | assumption | exact kup_s | exact kup_n (by omega) (by first | assumption | exact kup_s | exact kup_n (by omega) (by first | assumption | exact kup_s | exact kup_n (by omega) (by assumption)))) rfl ?_
    refine e_aload_n rfl dX2_lineOf_16 ?_
    refine e_iconst dX2_lineOf_17 ?_
    refine eV1 mtX0_entry miX0_entry lkX2_52 dX2_lineOf_18 (by first | assumption | exact kup_s | exact kup_n (by omega) (by first | assumption | exact kup_s | exact kup_n (by omega) (by first | assumption | exact kup_s | exact kup_n (by omega) (by assumption)))) rfl rfl rfl (k_entry (by assumption) (by omega) (by omega)) ?_
    dsimp only [Option.toList, List.cons_append, List.nil_append]
    rw [show (0 : Int).toNat = 0 from rfl]
    refine e_aload_n rfl dX2_lineOf_21 ?_
    refine e_iconst dX2_lineOf_22 ?_
    refine eV1 mtX0_entry miX0_entry lkX2_52 dX2_lineOf_23 (by first | assumption | exact kup_s | exact kup_n (by omega) (by first | assumption | exact kup_s | exact kup_n (by omega) (by first | assumption | exact kup_s | exact kup_n (by omega) (by assumption)))) rfl rfl rfl (k_entry (by assumption) (by omega) (by omega)) ?_
    dsimp only [Option.toList, List.cons_append, List.nil_append]
    rw [show (1 : Int).toNat = 1 from rfl]
    refine eS3 mtX5_lineBy msX5_lineBy lkX2_56 dX2_lineOf_26 rfl rfl (k_lineBy (by assumption) (by omega) (by omega) (by assumption) (by omega) (by omega) (by omega) (by omega) (by assumption)) ?_
    dsimp only [Option.toList, List.cons_append, List.nil_append]
    refine e_mmin (by first | assumption | (unfold inI at *; omega)) (by first | assumption | (unfold inI at *; omega)) lkX2_62 dX2_lineOf_29 rfl ?_
    refine e_ireturn dX2_lineOf_32 rfl rfl ?_
    exact ⟨by unfold kln; first | rw [if_pos (by assumption)] | rw [if_neg (by assumption)], rfl, rfl⟩
  · refine e_iconst dX2_lineOf_8 ?_
    refine e_ireturn dX2_lineOf_9 rfl rfl ?_
    exact ⟨by unfold kln; first | rw [if_pos (by assumption)] | rw [if_neg (by assumption)], rfl, rfl⟩
set_option maxHeartbeats 4000000 in
set_option maxRecDepth 100000 in
theorem k_growthFrom_lp {G : kG} {d : Nat} {h : Nat → Option kC} {n : Nat} {a : Nat} {S : kHd} (r : rHn G h a S) (ok : kHok S) {x : Int} (hx : 0 ≤ x) (hx1 : x ≤ 40)  : ∀ (f : Nat) (i : Nat) (z y : Int), z = x + (i : Int) → (i : Int) ≤ 40 → 23 - z ≤ f → y = ksum (fun j => kgw (hG S) (x + j)) i → (i : Int) = 0 ∨ z ≤ 23 → kE G mX2_growthFrom (d + 3) 0 0 4 [some (.ref (gB G + a)), some (.int (jI x)), some (.int (jI y)), some (.int (jI z))] [] h n (kre (some (.int (jI (kgf (hG S) x)))) h n) := by
  obtain ⟨r1, ⟨f9, r2, r2f⟩, r3, r4, r5⟩ := id r
  obtain ⟨r3a, r3b⟩ := id r3
  obtain ⟨r4a, r4b⟩ := id r4
  obtain ⟨ok1, ok2, ok3, ok4, ok5⟩ := id ok
  obtain ⟨⟨w00, w01⟩, ⟨w10, w11⟩, ⟨w20, w21⟩, ⟨w30, w31⟩, ⟨w40, w41⟩⟩ := id ok3
  obtain ⟨t1, t2, t3, t4, t5, t6⟩ := id ok5
  intro f
  induction f with
  | zero =>
    intro i z y g1 g2 g3 g4 g5
    refine e_iload_n rfl dX2_growthFrom_4 ?_
    refine e_bipush (by decide) dX2_growthFrom_5 ?_
    refine e_icmp_ge (tgt := 27) dX2_growthFrom_7 (by decide) (by first | assumption | (unfold inI at *; omega)) (by first | assumption | (unfold inI at *; omega)) (fun c7 => ?_) (fun c7 => ?_)
    · refine e_iload_n rfl dX2_growthFrom_27 ?_
      refine e_ireturn dX2_growthFrom_28 rfl rfl ?_
      exact ⟨by rw [g4]; unfold kgf; rw [show (23 - x).toNat = i by omega], rfl, rfl⟩
    · exact absurd c7 (by omega)
  | succ f ih =>
    intro i z y g1 g2 g3 g4 g5
    refine e_iload_n rfl dX2_growthFrom_4 ?_
    refine e_bipush (by decide) dX2_growthFrom_5 ?_
    refine e_icmp_ge (tgt := 27) dX2_growthFrom_7 (by decide) (by first | assumption | (unfold inI at *; omega)) (by first | assumption | (unfold inI at *; omega)) (fun c7 => ?_) (fun c7 => ?_)
    · refine e_iload_n rfl dX2_growthFrom_27 ?_
      refine e_ireturn dX2_growthFrom_28 rfl rfl ?_
      exact ⟨by rw [g4]; unfold kgf; rw [show (23 - x).toNat = i by omega], rfl, rfl⟩
    · refine e_iload_n rfl dX2_growthFrom_10 ?_
      refine e_aload_n rfl dX2_growthFrom_11 ?_
      refine e_getf fdX2_24 dX2_growthFrom_12 (by first | assumption | exact kup_s | exact kup_n (by omega) (by first | assumption | exact kup_s | exact kup_n (by omega) (by first | assumption | exact kup_s | exact kup_n (by omega) (by assumption)))) rfl ?_
      refine e_iload_n rfl dX2_growthFrom_15 ?_
      refine eS2 mtX5_growthAt msX5_growthAt lkX2_68 dX2_growthFrom_16 rfl rfl (k_growthAt r4 t1 t2 t3 (by omega) (by omega) t6) ?_
      dsimp only [Option.toList, List.cons_append, List.nil_append]
      refine e_iadd dX2_growthFrom_19 ?_
      refine e_istore_n dX2_growthFrom_20 rfl rfl ?_
      dsimp only [List.set]
      refine e_iinc dX2_growthFrom_21 rfl rfl ?_
      dsimp only [List.set]
      refine e_goto (tgt := 4) dX2_growthFrom_24 (by decide) ?_
      exact ih (i + 1) _ _ (by omega) (by omega) (by omega) (by rw [g4, ksum_s]; unfold kgw; rw [g1]) (by omega)
set_option maxHeartbeats 4000000 in
set_option maxRecDepth 100000 in
theorem k_growthFrom {G : kG} {d : Nat} {h : Nat → Option kC} {n : Nat} {a : Nat} {S : kHd} (r : rHn G h a S) (ok : kHok S) {x : Int} (hx : 0 ≤ x) (hx1 : x ≤ 40) : kCall G mX2_growthFrom (d + 3) 0 0 [.ref (gB G + a), .int (jI x)] h n (kre (some (.int (jI (kgf (hG S) x)))) h n) := by
  show kE G mX2_growthFrom (d + 3) 0 0 0 [some (.ref (gB G + a)), some (.int (jI x)), none, none] [] h n _
  obtain ⟨r1, ⟨f9, r2, r2f⟩, r3, r4, r5⟩ := id r
  obtain ⟨r3a, r3b⟩ := id r3
  obtain ⟨r4a, r4b⟩ := id r4
  obtain ⟨ok1, ok2, ok3, ok4, ok5⟩ := id ok
  obtain ⟨⟨w00, w01⟩, ⟨w10, w11⟩, ⟨w20, w21⟩, ⟨w30, w31⟩, ⟨w40, w41⟩⟩ := id ok3
  refine e_iconst dX2_growthFrom_0 ?_
  refine e_istore_n dX2_growthFrom_1 rfl rfl ?_
  dsimp only [List.set]
  refine e_iload_n rfl dX2_growthFrom_2 ?_
  refine e_istore_n dX2_growthFrom_3 rfl rfl ?_
  dsimp only [List.set]
  exact k_growthFrom_lp r ok hx hx1 60 0 _ _ (by omega) (by omega) (by omega) rfl (by omega)
set_option maxHeartbeats 4000000 in
set_option maxRecDepth 100000 in
theorem k_tenthsGrown {G : kG} {d : Nat} {h : Nat → Option kC} {n : Nat} {a : Nat} {S : kHd} (r : rHn G h a S) (ok : kHok S) {b m e : Nat} {A E : Nat → Int} {t : Int} (q : rBk G h b m e A E t) (qe : kEok E)  : kCall G mX2_tenthsGrown (d + 4) 0 0 [.ref (gB G + a), .ref (gB G + b)] h n (kre (some (.int (jI (kmg (hG S) (hW S 4) (E 1))))) h n) := by
  show kE G mX2_tenthsGrown (d + 4) 0 0 0 [some (.ref (gB G + a)), some (.ref (gB G + b)), none, none] [] h n _
  obtain ⟨r1, ⟨f9, r2, r2f⟩, r3, r4, r5⟩ := id r
  obtain ⟨r3a, r3b⟩ := id r3
  obtain ⟨r4a, r4b⟩ := id r4
  obtain ⟨ok1, ok2, ok3, ok4, ok5⟩ := id ok
  obtain ⟨⟨w00, w01⟩, ⟨w10, w11⟩, ⟨w20, w21⟩, ⟨w30, w31⟩, ⟨w40, w41⟩⟩ := id ok3
  obtain ⟨q1, q2, q3⟩ := id q
  obtain ⟨⟨e00, e01⟩, ⟨e10, e11⟩, ⟨e20, e21⟩⟩ := id qe
  refine e_aload_n rfl dX2_tenthsGrown_0 ?_
  refine e_iconst dX2_tenthsGrown_1 ?_
  refine eV1 mtX0_entry miX0_entry lkX2_52 dX2_tenthsGrown_2 (by first | assumption | exact kup_s | exact kup_n (by omega) (by first | assumption | exact kup_s | exact kup_n (by omega) (by first | assumption | exact kup_s | exact kup_n (by omega) (by assumption)))) rfl rfl rfl (k_entry (by assumption) (by omega) (by omega)) ?_
  dsimp only [Option.toList, List.cons_append, List.nil_append]
  rw [show (1 : Int).toNat = 1 from rfl]
  refine e_istore_n dX2_tenthsGrown_5 rfl rfl ?_
  dsimp only [List.set]
  refine e_aload_n rfl dX2_tenthsGrown_6 ?_
  refine e_iconst dX2_tenthsGrown_7 ?_
  refine eV1 mtX2_wayOf miX2_wayOf lkX2_72 dX2_tenthsGrown_8 (by first | assumption | exact kup_s | exact kup_n (by omega) (by first | assumption | exact kup_s | exact kup_n (by omega) (by first | assumption | exact kup_s | exact kup_n (by omega) (by assumption)))) rfl rfl rfl (k_wayOf (by assumption) (by omega) (by omega)) ?_
  dsimp only [Option.toList, List.cons_append, List.nil_append]
  rw [show (4 : Int).toNat = 4 from rfl]
  refine e_istore_n dX2_tenthsGrown_11 rfl rfl ?_
  dsimp only [List.set]
  refine e_bipush (by decide) dX2_tenthsGrown_12 ?_
  refine e_iload_n rfl dX2_tenthsGrown_14 ?_
  refine e_isub dX2_tenthsGrown_15 ?_
  refine e_aload_n rfl dX2_tenthsGrown_16 ?_
  refine e_iload_n rfl dX2_tenthsGrown_17 ?_
  refine eV1 mtX2_growthFrom miX2_growthFrom lkX2_75 dX2_tenthsGrown_18 (by first | assumption | exact kup_s | exact kup_n (by omega) (by first | assumption | exact kup_s | exact kup_n (by omega) (by first | assumption | exact kup_s | exact kup_n (by omega) (by assumption)))) rfl rfl rfl (k_growthFrom (by assumption) (by assumption) (by omega) (by omega)) ?_
  dsimp only [Option.toList, List.cons_append, List.nil_append]
  refine e_imul dX2_tenthsGrown_21 ?_
  refine e_iload_n rfl dX2_tenthsGrown_22 ?_
  refine e_aload_n rfl dX2_tenthsGrown_23 ?_
  refine e_iload_n rfl dX2_tenthsGrown_24 ?_
  refine e_iconst dX2_tenthsGrown_25 ?_
  refine e_isub dX2_tenthsGrown_26 ?_
  refine eV1 mtX2_growthFrom miX2_growthFrom lkX2_75 dX2_tenthsGrown_27 (by first | assumption | exact kup_s | exact kup_n (by omega) (by first | assumption | exact kup_s | exact kup_n (by omega) (by first | assumption | exact kup_s | exact kup_n (by omega) (by assumption)))) rfl rfl rfl (k_growthFrom (by assumption) (by assumption) (by omega) (by omega)) ?_
  dsimp only [Option.toList, List.cons_append, List.nil_append]
  refine e_imul dX2_tenthsGrown_30 ?_
  refine e_iadd dX2_tenthsGrown_31 ?_
  refine e_ireturn dX2_tenthsGrown_32 rfl rfl ?_
  exact ⟨rfl, rfl, rfl⟩
theorem kinch_in {v : Int} (h0 : 0 ≤ v) (h1 : v ≤ 63) : 0 ≤ kinch v ∧ kinch v ≤ 63 := by
  unfold kinch kmini
  (repeat' split) <;> omega
set_option maxHeartbeats 4000000 in
set_option maxRecDepth 100000 in
theorem k_hun95 {G : kG} {d : Nat} {h : Nat → Option kC} {n : Nat} {a : Nat} {l x y : Int} (l0 : 0 ≤ l) (l1 : l ≤ 63) (x0 : 0 ≤ x) (x1 : x ≤ 63) (y0 : 0 ≤ y) (y1 : y ≤ 63) {fv hp s : Int} {e4 : Option Value} : kE G mX2_hundredths d 0 0 95 [some (.ref (gB G + a)), some (.int (jI l)), some (.int (jI x)), some (.int (jI y)), e4, some (.int (jI fv)), some (.int (jI hp)), some (.int (jI s))] [] h n (kre (some (.int (jI (s + (if y = x then (10 - fv) * (10 - hp) else 0))))) h n) := by
  refine e_iload_n rfl dX2_hundredths_95 ?_
  refine e_iload_n rfl dX2_hundredths_96 ?_
  refine e_icmp_ne (tgt := 116) dX2_hundredths_97 (by decide) (by first | assumption | (unfold inI at *; omega)) (by first | assumption | (unfold inI at *; omega)) (fun c97 => ?_) (fun c97 => ?_)
  · refine e_iload rfl dX2_hundredths_116 ?_
    refine e_ireturn dX2_hundredths_118 rfl rfl ?_
    exact ⟨by first | rw [if_pos c97] | (rw [if_neg c97, Int.add_zero]), rfl, rfl⟩
  · refine e_iload rfl dX2_hundredths_100 ?_
    refine e_bipush (by decide) dX2_hundredths_102 ?_
    refine e_iload rfl dX2_hundredths_104 ?_
    refine e_isub dX2_hundredths_106 ?_
    refine e_bipush (by decide) dX2_hundredths_107 ?_
    refine e_iload rfl dX2_hundredths_109 ?_
    refine e_isub dX2_hundredths_111 ?_
    refine e_imul dX2_hundredths_112 ?_
    refine e_iadd dX2_hundredths_113 ?_
    refine e_istore dX2_hundredths_114 rfl rfl ?_
    dsimp only [List.set]
    refine e_iload rfl dX2_hundredths_116 ?_
    refine e_ireturn dX2_hundredths_118 rfl rfl ?_
    exact ⟨by first | rw [if_pos c97] | (rw [if_neg c97, Int.add_zero]), rfl, rfl⟩
set_option maxHeartbeats 4000000 in
set_option maxRecDepth 100000 in
theorem k_hun74 {G : kG} {d : Nat} {h : Nat → Option kC} {n : Nat} {a : Nat} {l x y : Int} (l0 : 0 ≤ l) (l1 : l ≤ 63) (x0 : 0 ≤ x) (x1 : x ≤ 63) (y0 : 0 ≤ y) (y1 : y ≤ 63) {fv hp s : Int} {e4 : Option Value} : kE G mX2_hundredths (d + 2) 0 0 74 [some (.ref (gB G + a)), some (.int (jI l)), some (.int (jI x)), some (.int (jI y)), e4, some (.int (jI fv)), some (.int (jI hp)), some (.int (jI s))] [] h n (kre (some (.int (jI ((s + (if y = kinch x then (10 - fv) * hp else 0)) + (if y = x then (10 - fv) * (10 - hp) else 0))))) h n) := by
  refine e_iload_n rfl dX2_hundredths_74 ?_
  refine e_iload_n rfl dX2_hundredths_75 ?_
  refine eSN1 mtX9_nearestInch msX9_nearestInch lnX2_78 dX2_hundredths_76 rfl rfl (k_nearestInch (by omega) (by omega)) ?_
  dsimp only [Option.toList, List.cons_append, List.nil_append]
  have q9 := kinch_in x0 x1
  rw [show (if x % 4 ≤ 2 then x - x % 4 else kmini 63 (x - x % 4 + 4)) = kinch x from rfl]
  refine e_icmp_ne (tgt := 95) dX2_hundredths_79 (by decide) (by first | assumption | (unfold inI at *; omega)) (by first | assumption | (unfold inI at *; omega)) (fun c79 => ?_) (fun c79 => ?_)
  · refine kE.mono (k_hun95 l0 l1 x0 x1 y0 y1) (fun r h' n' hq => ?_)
    obtain ⟨w1, w2, w3⟩ := hq
    refine ⟨?_, w2, w3⟩
    rw [w1]
    first | rw [if_pos c79] | (rw [if_neg c79, Int.add_zero])
  · refine e_iload rfl dX2_hundredths_82 ?_
    refine e_bipush (by decide) dX2_hundredths_84 ?_
    refine e_iload rfl dX2_hundredths_86 ?_
    refine e_isub dX2_hundredths_88 ?_
    refine e_iload rfl dX2_hundredths_89 ?_
    refine e_imul dX2_hundredths_91 ?_
    refine e_iadd dX2_hundredths_92 ?_
    refine e_istore dX2_hundredths_93 rfl rfl ?_
    dsimp only [List.set]
    refine kE.mono (k_hun95 l0 l1 x0 x1 y0 y1) (fun r h' n' hq => ?_)
    obtain ⟨w1, w2, w3⟩ := hq
    refine ⟨?_, w2, w3⟩
    rw [w1]
    first | rw [if_pos c79] | (rw [if_neg c79, Int.add_zero])
set_option maxHeartbeats 4000000 in
set_option maxRecDepth 100000 in
theorem k_hun39 {G : kG} {d : Nat} {h : Nat → Option kC} {n : Nat} {a : Nat} {S : kHd} (r : rHn G h a S) (ok : kHok S) {l x y : Int} (l0 : 0 ≤ l) (l1 : l ≤ 63) (x0 : 0 ≤ x) (x1 : x ≤ 63) (y0 : 0 ≤ y) (y1 : y ≤ 63) {fv : Int} (e4 e6 e7 : Option Value) : kE G mX2_hundredths (d + 2) 0 0 39 [some (.ref (gB G + a)), some (.int (jI l)), some (.int (jI x)), some (.int (jI y)), e4, some (.int (jI fv)), e6, e7] [] h n (kre (some (.int (jI ((if y = l then 10 * fv else 0) + (if y = kinch x then (10 - fv) * khp (hW S) x else 0) + (if y = x then (10 - fv) * (10 - khp (hW S) x) else 0))))) h n) := by
  obtain ⟨r1, ⟨f9, r2, r2f⟩, r3, r4, r5⟩ := id r
  obtain ⟨r3a, r3b⟩ := id r3
  obtain ⟨r4a, r4b⟩ := id r4
  obtain ⟨ok1, ok2, ok3, ok4, ok5⟩ := id ok
  obtain ⟨⟨w00, w01⟩, ⟨w10, w11⟩, ⟨w20, w21⟩, ⟨w30, w31⟩, ⟨w40, w41⟩⟩ := id ok3
  refine e_iload_n rfl dX2_hundredths_39 ?_
  refine e_iconst dX2_hundredths_40 ?_
  refine e_iremN (by first | assumption | (unfold inI at *; omega)) (by first | assumption | (unfold inI at *; omega)) (by omega) (by omega) dX2_hundredths_41 ?_
  refine e_if_ne (tgt := 49) dX2_hundredths_42 (by decide) (by first | assumption | (unfold inI at *; omega)) (fun c42 => ?_) (fun c42 => ?_)
  · refine e_aload_n rfl dX2_hundredths_49 ?_
    refine e_iconst dX2_hundredths_50 ?_
    refine eV1 mtX2_wayOf miX2_wayOf lkX2_72 dX2_hundredths_51 (by first | assumption | exact kup_s | exact kup_n (by omega) (by first | assumption | exact kup_s | exact kup_n (by omega) (by first | assumption | exact kup_s | exact kup_n (by omega) (by assumption)))) rfl rfl rfl (k_wayOf (by assumption) (by omega) (by omega)) ?_
    dsimp only [Option.toList, List.cons_append, List.nil_append]
    rw [show (1 : Int).toNat = 1 from rfl]
    refine e_istore dX2_hundredths_54 rfl rfl ?_
    dsimp only [List.set]
    refine e_iconst dX2_hundredths_56 ?_
    refine e_istore dX2_hundredths_57 rfl rfl ?_
    dsimp only [List.set]
    refine e_iload_n rfl dX2_hundredths_59 ?_
    refine e_iload_n rfl dX2_hundredths_60 ?_
    refine e_icmp_ne (tgt := 74) dX2_hundredths_61 (by decide) (by first | assumption | (unfold inI at *; omega)) (by first | assumption | (unfold inI at *; omega)) (fun c61 => ?_) (fun c61 => ?_)
    · refine kE.mono (k_hun74 l0 l1 x0 x1 y0 y1) (fun r h' n' hq => ?_)
      obtain ⟨w1, w2, w3⟩ := hq
      refine ⟨?_, w2, w3⟩
      rw [w1]
      unfold khp
      first | rw [if_pos c42] | rw [if_neg c42]
      first | rw [if_pos c61] | rw [if_neg c61]
      all_goals rw [Int.zero_add]
    · refine e_iload rfl dX2_hundredths_64 ?_
      refine e_bipush (by decide) dX2_hundredths_66 ?_
      refine e_iload rfl dX2_hundredths_68 ?_
      refine e_imul dX2_hundredths_70 ?_
      refine e_iadd dX2_hundredths_71 ?_
      refine e_istore dX2_hundredths_72 rfl rfl ?_
      dsimp only [List.set]
      refine kE.mono (k_hun74 l0 l1 x0 x1 y0 y1) (fun r h' n' hq => ?_)
      obtain ⟨w1, w2, w3⟩ := hq
      refine ⟨?_, w2, w3⟩
      rw [w1]
      unfold khp
      first | rw [if_pos c42] | rw [if_neg c42]
      first | rw [if_pos c61] | rw [if_neg c61]
      all_goals rw [Int.zero_add]
  · refine e_iconst dX2_hundredths_45 ?_
    refine e_goto (tgt := 54) dX2_hundredths_46 (by decide) ?_
    refine e_istore dX2_hundredths_54 rfl rfl ?_
    dsimp only [List.set]
    refine e_iconst dX2_hundredths_56 ?_
    refine e_istore dX2_hundredths_57 rfl rfl ?_
    dsimp only [List.set]
    refine e_iload_n rfl dX2_hundredths_59 ?_
    refine e_iload_n rfl dX2_hundredths_60 ?_
    refine e_icmp_ne (tgt := 74) dX2_hundredths_61 (by decide) (by first | assumption | (unfold inI at *; omega)) (by first | assumption | (unfold inI at *; omega)) (fun c61 => ?_) (fun c61 => ?_)
    · refine kE.mono (k_hun74 l0 l1 x0 x1 y0 y1) (fun r h' n' hq => ?_)
      obtain ⟨w1, w2, w3⟩ := hq
      refine ⟨?_, w2, w3⟩
      rw [w1]
      unfold khp
      first | rw [if_pos c42] | rw [if_neg c42]
      first | rw [if_pos c61] | rw [if_neg c61]
      all_goals rw [Int.zero_add]
    · refine e_iload rfl dX2_hundredths_64 ?_
      refine e_bipush (by decide) dX2_hundredths_66 ?_
      refine e_iload rfl dX2_hundredths_68 ?_
      refine e_imul dX2_hundredths_70 ?_
      refine e_iadd dX2_hundredths_71 ?_
      refine e_istore dX2_hundredths_72 rfl rfl ?_
      dsimp only [List.set]
      refine kE.mono (k_hun74 l0 l1 x0 x1 y0 y1) (fun r h' n' hq => ?_)
      obtain ⟨w1, w2, w3⟩ := hq
      refine ⟨?_, w2, w3⟩
      rw [w1]
      unfold khp
      first | rw [if_pos c42] | rw [if_neg c42]
      first | rw [if_pos c61] | rw [if_neg c61]
      all_goals rw [Int.zero_add]
set_option maxHeartbeats 4000000 in
set_option maxRecDepth 100000 in
theorem k_hundredths {G : kG} {d : Nat} {h : Nat → Option kC} {n : Nat} {a : Nat} {S : kHd} (r : rHn G h a S) (ok : kHok S) {l x y : Int} (l0 : 0 ≤ l) (l1 : l ≤ 63) (x0 : 0 ≤ x) (x1 : x ≤ 63) (y0 : 0 ≤ y) (y1 : y ≤ 63)  : kCall G mX2_hundredths (d + 2) 0 0 [.ref (gB G + a), .int (jI l), .int (jI x), .int (jI y)] h n (kre (some (.int (jI (kwr (hW S) l x y)))) h n) := by
  show kE G mX2_hundredths (d + 2) 0 0 0 [some (.ref (gB G + a)), some (.int (jI l)), some (.int (jI x)), some (.int (jI y)), none, none, none, none] [] h n _
  obtain ⟨r1, ⟨f9, r2, r2f⟩, r3, r4, r5⟩ := id r
  obtain ⟨r3a, r3b⟩ := id r3
  obtain ⟨r4a, r4b⟩ := id r4
  obtain ⟨ok1, ok2, ok3, ok4, ok5⟩ := id ok
  obtain ⟨⟨w00, w01⟩, ⟨w10, w11⟩, ⟨w20, w21⟩, ⟨w30, w31⟩, ⟨w40, w41⟩⟩ := id ok3
  refine e_iload_n rfl dX2_hundredths_0 ?_
  refine e_iload_n rfl dX2_hundredths_1 ?_
  refine e_icmp_ge (tgt := 20) dX2_hundredths_2 (by decide) (by first | assumption | (unfold inI at *; omega)) (by first | assumption | (unfold inI at *; omega)) (fun c2 => ?_) (fun c2 => ?_)
  · refine e_iconst dX2_hundredths_20 ?_
    refine e_istore dX2_hundredths_21 rfl rfl ?_
    dsimp only [List.set]
    refine e_iload rfl dX2_hundredths_23 ?_
    refine e_if_eq (tgt := 36) dX2_hundredths_25 (by decide) (by first | assumption | (unfold inI at *; omega)) (fun c25 => ?_) (fun c25 => ?_)
    · refine e_iconst dX2_hundredths_36 ?_
      refine e_istore dX2_hundredths_37 rfl rfl ?_
      dsimp only [List.set]
      first | (exfalso; omega) | exact kE.mono (k_hun39 r ok l0 l1 x0 x1 y0 y1 _ _ _) (fun r h' n' hq => by obtain ⟨w1, w2, w3⟩ := hq; refine ⟨?_, w2, w3⟩; rw [w1]; unfold kwr kfv; first | rw [if_pos (show x < l ∧ l - x ≤ hW S 2 by omega)] | rw [if_neg (show ¬ (x < l ∧ l - x ≤ hW S 2) by omega)])
    · refine e_aload_n rfl dX2_hundredths_28 ?_
      refine e_iconst dX2_hundredths_29 ?_
      refine eV1 mtX2_wayOf miX2_wayOf lkX2_72 dX2_hundredths_30 (by first | assumption | exact kup_s | exact kup_n (by omega) (by first | assumption | exact kup_s | exact kup_n (by omega) (by first | assumption | exact kup_s | exact kup_n (by omega) (by assumption)))) rfl rfl rfl (k_wayOf (by assumption) (by omega) (by omega)) ?_
      dsimp only [Option.toList, List.cons_append, List.nil_append]
      rw [show (3 : Int).toNat = 3 from rfl]
      refine e_goto (tgt := 37) dX2_hundredths_33 (by decide) ?_
      refine e_istore dX2_hundredths_37 rfl rfl ?_
      dsimp only [List.set]
      first | (exfalso; omega) | exact kE.mono (k_hun39 r ok l0 l1 x0 x1 y0 y1 _ _ _) (fun r h' n' hq => by obtain ⟨w1, w2, w3⟩ := hq; refine ⟨?_, w2, w3⟩; rw [w1]; unfold kwr kfv; first | rw [if_pos (show x < l ∧ l - x ≤ hW S 2 by omega)] | rw [if_neg (show ¬ (x < l ∧ l - x ≤ hW S 2) by omega)])
  · refine e_iload_n rfl dX2_hundredths_5 ?_
    refine e_iload_n rfl dX2_hundredths_6 ?_
    refine e_isub dX2_hundredths_7 ?_
    refine e_aload_n rfl dX2_hundredths_8 ?_
    refine e_iconst dX2_hundredths_9 ?_
    refine eV1 mtX2_wayOf miX2_wayOf lkX2_72 dX2_hundredths_10 (by first | assumption | exact kup_s | exact kup_n (by omega) (by first | assumption | exact kup_s | exact kup_n (by omega) (by first | assumption | exact kup_s | exact kup_n (by omega) (by assumption)))) rfl rfl rfl (k_wayOf (by assumption) (by omega) (by omega)) ?_
    dsimp only [Option.toList, List.cons_append, List.nil_append]
    rw [show (2 : Int).toNat = 2 from rfl]
    refine e_icmp_gt (tgt := 20) dX2_hundredths_13 (by decide) (by first | assumption | (unfold inI at *; omega)) (by first | assumption | (unfold inI at *; omega)) (fun c13 => ?_) (fun c13 => ?_)
    · refine e_iconst dX2_hundredths_20 ?_
      refine e_istore dX2_hundredths_21 rfl rfl ?_
      dsimp only [List.set]
      refine e_iload rfl dX2_hundredths_23 ?_
      refine e_if_eq (tgt := 36) dX2_hundredths_25 (by decide) (by first | assumption | (unfold inI at *; omega)) (fun c25 => ?_) (fun c25 => ?_)
      · refine e_iconst dX2_hundredths_36 ?_
        refine e_istore dX2_hundredths_37 rfl rfl ?_
        dsimp only [List.set]
        first | (exfalso; omega) | exact kE.mono (k_hun39 r ok l0 l1 x0 x1 y0 y1 _ _ _) (fun r h' n' hq => by obtain ⟨w1, w2, w3⟩ := hq; refine ⟨?_, w2, w3⟩; rw [w1]; unfold kwr kfv; first | rw [if_pos (show x < l ∧ l - x ≤ hW S 2 by omega)] | rw [if_neg (show ¬ (x < l ∧ l - x ≤ hW S 2) by omega)])
      · refine e_aload_n rfl dX2_hundredths_28 ?_
        refine e_iconst dX2_hundredths_29 ?_
        refine eV1 mtX2_wayOf miX2_wayOf lkX2_72 dX2_hundredths_30 (by first | assumption | exact kup_s | exact kup_n (by omega) (by first | assumption | exact kup_s | exact kup_n (by omega) (by first | assumption | exact kup_s | exact kup_n (by omega) (by assumption)))) rfl rfl rfl (k_wayOf (by assumption) (by omega) (by omega)) ?_
        dsimp only [Option.toList, List.cons_append, List.nil_append]
        rw [show (3 : Int).toNat = 3 from rfl]
        refine e_goto (tgt := 37) dX2_hundredths_33 (by decide) ?_
        refine e_istore dX2_hundredths_37 rfl rfl ?_
        dsimp only [List.set]
        first | (exfalso; omega) | exact kE.mono (k_hun39 r ok l0 l1 x0 x1 y0 y1 _ _ _) (fun r h' n' hq => by obtain ⟨w1, w2, w3⟩ := hq; refine ⟨?_, w2, w3⟩; rw [w1]; unfold kwr kfv; first | rw [if_pos (show x < l ∧ l - x ≤ hW S 2 by omega)] | rw [if_neg (show ¬ (x < l ∧ l - x ≤ hW S 2) by omega)])
    · refine e_iconst dX2_hundredths_16 ?_
      refine e_goto (tgt := 21) dX2_hundredths_17 (by decide) ?_
      refine e_istore dX2_hundredths_21 rfl rfl ?_
      dsimp only [List.set]
      refine e_iload rfl dX2_hundredths_23 ?_
      refine e_if_eq (tgt := 36) dX2_hundredths_25 (by decide) (by first | assumption | (unfold inI at *; omega)) (fun c25 => ?_) (fun c25 => ?_)
      · refine e_iconst dX2_hundredths_36 ?_
        refine e_istore dX2_hundredths_37 rfl rfl ?_
        dsimp only [List.set]
        first | (exfalso; omega) | exact kE.mono (k_hun39 r ok l0 l1 x0 x1 y0 y1 _ _ _) (fun r h' n' hq => by obtain ⟨w1, w2, w3⟩ := hq; refine ⟨?_, w2, w3⟩; rw [w1]; unfold kwr kfv; first | rw [if_pos (show x < l ∧ l - x ≤ hW S 2 by omega)] | rw [if_neg (show ¬ (x < l ∧ l - x ≤ hW S 2) by omega)])
      · refine e_aload_n rfl dX2_hundredths_28 ?_
        refine e_iconst dX2_hundredths_29 ?_
        refine eV1 mtX2_wayOf miX2_wayOf lkX2_72 dX2_hundredths_30 (by first | assumption | exact kup_s | exact kup_n (by omega) (by first | assumption | exact kup_s | exact kup_n (by omega) (by first | assumption | exact kup_s | exact kup_n (by omega) (by assumption)))) rfl rfl rfl (k_wayOf (by assumption) (by omega) (by omega)) ?_
        dsimp only [Option.toList, List.cons_append, List.nil_append]
        rw [show (3 : Int).toNat = 3 from rfl]
        refine e_goto (tgt := 37) dX2_hundredths_33 (by decide) ?_
        refine e_istore dX2_hundredths_37 rfl rfl ?_
        dsimp only [List.set]
        first | (exfalso; omega) | exact kE.mono (k_hun39 r ok l0 l1 x0 x1 y0 y1 _ _ _) (fun r h' n' hq => by obtain ⟨w1, w2, w3⟩ := hq; refine ⟨?_, w2, w3⟩; rw [w1]; unfold kwr kfv; first | rw [if_pos (show x < l ∧ l - x ≤ hW S 2 by omega)] | rw [if_neg (show ¬ (x < l ∧ l - x ≤ hW S 2) by omega)])
