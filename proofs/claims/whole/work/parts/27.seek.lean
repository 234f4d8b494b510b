/-! FIT, SPAN, FOUND: the first place where a row of numbers (-5: none there) is least -/
def kbm (so : Nat → Int) : Nat → Int
  | 0 => -1
  | i + 1 => if so i = -5 then kbm so i else if kbm so i = -1 ∨ so i < so (kbm so i).toNat then (i : Int) else kbm so i
theorem kbm_in (so : Nat → Int) : ∀ i : Nat, -1 ≤ kbm so i ∧ kbm so i < i
  | 0 => by unfold kbm; omega
  | i + 1 => by
    have := kbm_in so i
    unfold kbm
    (repeat' split) <;> omega
theorem kbm_ok (so : Nat → Int) : ∀ i : Nat, kbm so i = -1 ∨ so (kbm so i).toNat ≠ -5
  | 0 => Or.inl rfl
  | i + 1 => by
    have := kbm_ok so i
    unfold kbm
    split
    · exact this
    · rename_i h
      split
      · right
        simpa using h
      · exact this
theorem kbm_min (so : Nat → Int) : ∀ {i j : Nat}, j < i → so j ≠ -5 → kbm so i ≠ -1 ∧ so (kbm so i).toNat ≤ so j
  | 0, j, h, _ => absurd h (Nat.not_lt_zero j)
  | i + 1, j, h, hj => by
    unfold kbm
    by_cases e : j = i
    · subst e
      rw [if_neg hj]
      split
      · refine ⟨by omega, ?_⟩
        simp
      · rename_i q
        have := kbm_in so j
        exact ⟨by omega, by omega⟩
    · have ih := kbm_min so (show j < i by omega) hj
      split
      · exact ih
      · split
        · rename_i q
          refine ⟨by omega, ?_⟩
          simp only [Int.toNat_natCast]
          omega
        · exact ih
theorem kbm_skip {so : Nat → Int} {i : Nat} (h : so i = -5 ∨ (kbm so i ≠ -1 ∧ so (kbm so i).toNat ≤ so i)) : kbm so (i + 1) = kbm so i := by
  show (if _ then _ else _) = _
  split
  · rfl
  · rw [if_neg (by omega)]
theorem kbm_cong {so so' : Nat → Int} : ∀ {i : Nat}, (∀ j, j < i → so j = so' j) → kbm so i = kbm so' i
  | 0, _ => rfl
  | i + 1, h => by
    have ih := kbm_cong (i := i) (fun j hj => h j (by omega))
    have hin := kbm_in so' i
    unfold kbm
    rw [ih, h i (by omega)]
    by_cases e : kbm so' i = -1
    · rw [e]
      simp
    · rw [h (kbm so' i).toNat (by omega)]
def ksp (so : Nat → Int) (t : Int) : Nat → Int
  | 0 => -1
  | i + 1 => if 0 ≤ ksp so t i then ksp so t i else if so i ≠ -5 ∧ so i ≤ t then (i : Int) else -1
def ksq (so : Nat → Int) (t : Int) : Nat → Int
  | 0 => -1
  | i + 1 => if so i ≠ -5 ∧ so i ≤ t then (i : Int) else ksq so t i
theorem ksp_in (so : Nat → Int) (t : Int) : ∀ i : Nat, -1 ≤ ksp so t i ∧ ksp so t i < i
  | 0 => by unfold ksp; omega
  | i + 1 => by
    have := ksp_in so t i
    unfold ksp
    (repeat' split) <;> omega
theorem ksq_in (so : Nat → Int) (t : Int) : ∀ i : Nat, -1 ≤ ksq so t i ∧ ksq so t i < i
  | 0 => by unfold ksq; omega
  | i + 1 => by
    have := ksq_in so t i
    unfold ksq
    (repeat' split) <;> omega
theorem ksp_le {so : Nat → Int} {t : Int} {j : Nat} (h : so j ≠ -5 ∧ so j ≤ t) : ∀ {i : Nat}, j < i → 0 ≤ ksp so t i ∧ ksp so t i ≤ j ∧ (j : Int) ≤ ksq so t i
  | 0, hj => absurd hj (Nat.not_lt_zero j)
  | i + 1, hj => by
    unfold ksp ksq
    by_cases e : j = i
    · subst e
      have := ksp_in so t j
      rw [if_pos h]
      split
      · omega
      · omega
    · have ih := ksp_le h (i := i) (by omega)
      rw [if_pos ih.1]
      split <;> omega
/-- MISFIT's row by MIDDLES; by lines and MIDDLES -/
def kso (A : Nat → Int) (w l k : Int) : Nat → Int := fun m => kmf A m w l k
def ks2 (A : Nat → Int) (w k : Int) : Nat → Int := fun q => kmf A ((q % 64 : Nat) : Int) w ((q / 64 : Nat) : Int) k
theorem kmf_nn {A : Nat → Int} {m w l k : Int} (hp : kpt m w l k ≠ 0) : 0 ≤ kmf A m w l k := by
  unfold kmf
  rw [if_neg hp]
  have e : ksum A 64 + ksum (kmt A m w l k) 64 = ksum (fun x => A x + kmt A m w l k x) 64 := (ksum_add _ _ 64).symm
  rw [e]
  refine ksum_nn (fun x hx => ?_)
  have := kab_in (A x - kdu A m w l k x)
  unfold kmt
  omega
theorem kso_last {A : Nat → Int} (hA : kAok A) {w l k : Int} (w1 : 1 ≤ w) (w8 : w ≤ 8) (l1 : l ≤ 63) (k0 : 0 ≤ k) (k1 : k ≤ 9) : kso A w l k 63 ≠ -5 := by
  have h1 : (0 : Int) < kpq 63 w l k 63 := by
    unfold kpq khm
    rw [if_pos (by omega), if_pos l1]
    rcases (show w = 1 ∨ w = 2 ∨ w = 3 ∨ w = 4 ∨ w = 5 ∨ w = 6 ∨ w = 7 ∨ w = 8 by omega) with q | q | q | q | q | q | q | q <;> subst q <;> decide
  have h2 : kpq 63 w l k 63 ≤ kpt 63 w l k := ksum_one (F := fun x => kpq 63 w l k x) (fun j _ => (kpq_in w1 w8 k0 k1 _).1) (show 63 < 64 by omega)
  have h3 := kmf_nn (A := A) (m := 63) (w := w) (l := l) (k := k) (by omega)
  intro h
  have h4 : kmf A 63 w l k = -5 := h
  omega
theorem kmf_above {A : Nat → Int} {m w l k : Int} (h : l ≤ m - w) : kmf A m w l k = kmf A m w 0 k := by
  have e : ∀ x : Nat, kpq m w l k x = kpq m w 0 k x := fun x => by
    by_cases hx : (x : Int) < m - w
    · rw [kpq_lo hx, kpq_lo hx]
    · unfold kpq
      rw [if_pos (by omega), if_pos (by omega)]
  have e2 : kpt m w l k = kpt m w 0 k := ksum_cong (fun x _ => e x)
  unfold kmf
  rw [e2]
  split
  · rfl
  · have e3 : ksum (kmt A m w l k) 64 = ksum (kmt A m w 0 k) 64 := ksum_cong (fun x _ => by
      unfold kmt kdu
      rw [e x, e2])
    rw [e3]
theorem ksum_mul (c : Int) (F : Nat → Int) : ∀ n : Nat, ksum (fun x => F x * c) n = ksum F n * c
  | 0 => by simp [ksum]
  | n + 1 => by rw [ksum_s, ksum_s, ksum_mul c F n, Int.add_mul]
theorem kmf_below {A : Nat → Int} {m w l k : Int} (w1 : 1 ≤ w) (w8 : w ≤ 8) (k0 : 0 ≤ k) (h : m + w < l) : kmf A m w l k = -5 ∨ kmf A m w l k = kmf A m w 0 k := by
  have e : ∀ x : Nat, kpq m w l k x = khm m w x * k := fun x => by
    by_cases hx : m + w < (x : Int)
    · rw [kpq_hi w1 w8 hx, khm_hi w1 w8 hx, Int.zero_mul]
    · unfold kpq
      rw [if_neg (by omega)]
  have e0 : ∀ x : Nat, kpq m w 0 k x = khm m w x * 10 := fun x => by
    unfold kpq
    rw [if_pos (by omega)]
  have t1 : kpt m w l k = ksum (fun x => khm m w x) 64 * k := by
    rw [← ksum_mul]
    exact ksum_cong (fun x _ => e x)
  have t0 : kpt m w 0 k = ksum (fun x => khm m w x) 64 * 10 := by
    rw [← ksum_mul]
    exact ksum_cong (fun x _ => e0 x)
  by_cases hk : k = 0
  · left
    unfold kmf
    rw [t1, hk, Int.mul_zero, if_pos rfl]
  · right
    unfold kmf
    by_cases hs : ksum (fun x => khm m w x) 64 = 0
    · rw [t1, t0, hs, Int.zero_mul, Int.zero_mul, if_pos rfl, if_pos rfl]
    · rw [if_neg (by rw [t1]; exact fun q => by rcases Int.mul_eq_zero.mp q with q | q <;> omega), if_neg (by rw [t0]; omega)]
      have e3 : ksum (kmt A m w l k) 64 = ksum (kmt A m w 0 k) 64 := ksum_cong (fun x _ => by
        unfold kmt kdu
        rw [e x, e0 x, t1, t0, ← Int.mul_assoc, ← Int.mul_assoc, Int.mul_ediv_mul_of_pos_left _ _ (show 0 < k by omega), Int.mul_ediv_mul_of_pos_left _ _ (show (0 : Int) < 10 by decide)])
      rw [e3]
/-- the heap with Undoing's two cells told -/
def kuh (G : kG) (h : Nat → Option kC) (P : Nat → Int) (q : Int × Int × Int × Int × Int) : Nat → Option kC := kup (kup h 92 (kla 64 P)) 91 (kUn G q)
theorem kuh_p {G : kG} {h : Nat → Option kC} {P P' : Nat → Int} {q : Int × Int × Int × Int × Int} : kup (kuh G h P q) 92 (kla 64 P') = kuh G h P' q := by
  unfold kuh
  rw [kup_swap (by decide), kup_kup]
theorem kuh_u {G : kG} {h : Nat → Option kC} {P : Nat → Int} {q q' : Int × Int × Int × Int × Int} : kup (kuh G h P q) 91 (kUn G q') = kuh G h P q' := kup_kup
theorem kuh_91 {G : kG} {h : Nat → Option kC} {P : Nat → Int} {q : Int × Int × Int × Int × Int} : kuh G h P q 91 = some (kUn G q) := kup_s
theorem kuh_9o {G : kG} {h : Nat → Option kC} {P : Nat → Int} {q : Int × Int × Int × Int × Int} : kuh G h P q 91 = some (kob 6 [.ref (gB G + 80), .ref (gB G + 92), .int (jI q.1), .int (jI q.2.1), .int (jI q.2.2.1), .int (jI q.2.2.2.1), .int (jI q.2.2.2.2)]) := kup_s
theorem kuh_92 {G : kG} {h : Nat → Option kC} {P : Nat → Int} {q : Int × Int × Int × Int × Int} : kuh G h P q 92 = some (kla 64 P) := kup_n (by decide) kup_s
theorem kuh_0 {G : kG} {h : Nat → Option kC} {P : Nat → Int} {q : Int × Int × Int × Int × Int} (h1 : h 91 = some (kUn G q)) (h2 : h 92 = some (kla 64 P)) : kuh G h P q = h := by
  unfold kuh
  rw [kup_same h2, kup_same h1]
theorem kuh_hu {G : kG} {h : Nat → Option kC} (P : Nat → Int) (q : Int × Int × Int × Int × Int) (r : rHu G h 80 81) : rHu G (kuh G h P q) 80 81 := rHu_up (rHu_up r (by omega) (by omega)) (by omega) (by omega)
theorem kuh_bk {G : kG} {h : Nat → Option kC} (P : Nat → Int) (q : Int × Int × Int × Int × Int) {b : Nat} {A E : Nat → Int} {t : Int} (r : rBk G h b (b + 1) (b + 2) A E t) (hb : b + 2 < 80 ∨ 92 < b) : rBk G (kuh G h P q) b (b + 1) (b + 2) A E t := rBk_up (rBk_up r (by omega) (by omega) (by omega)) (by omega) (by omega) (by omega)
def kof (q : Int × Int × Int × Int × Int) (at9 m so : Int) : Int × Int × Int × Int × Int := if so ≠ -5 ∧ (q.2.2.1 = -6 ∨ so < q.2.2.1) then (at9, m, so, q.2.2.2.1, q.2.2.2.2) else q
set_option maxHeartbeats 4000000 in
set_option maxRecDepth 100000 in
theorem k_offer {G : kG} {d : Nat} {h : Nat → Option kC} {n : Nat} {q : Int × Int × Int × Int × Int} (hu : h 91 = some (kUn G q)) (hq : inI q.2.2.1) {x m so : Int} (hs : inI so) : kCall G mX8_offer d 0 0 [.ref (gB G + 91), .int (jI x), .int (jI m), .int (jI so)] h n (kre none (kup h 91 (kUn G (kof q x m so))) n) := by
  show kE G mX8_offer d 0 0 0 [some (.ref (gB G + 91)), some (.int (jI x)), some (.int (jI m)), some (.int (jI so))] [] h n _
  unfold kUn at hu
  refine e_iload_n rfl dX8_offer_0 ?_
  refine e_bipush (by decide) dX8_offer_1 ?_
  refine e_icmp_eq (tgt := 38) dX8_offer_3 (by decide) (by first | assumption | (unfold inI at *; omega)) (by first | assumption | (unfold inI at *; omega)) (fun c3 => ?_) (fun c3 => ?_)
  · refine e_return dX8_offer_38 rfl ?_
    refine ⟨rfl, ?_, rfl⟩
    unfold kof
    first | (rw [if_pos (by omega), kup_kup, kup_kup]; rfl) | (rw [if_neg (by omega)]; exact (kup_same hu).symm)
  · refine e_aload_n rfl dX8_offer_6 ?_
    refine e_getf fdX8_47 dX8_offer_7 (by first | assumption | exact kup_s | exact kup_n (by omega) (by first | assumption | exact kup_s | exact kup_n (by omega) (by first | assumption | exact kup_s | exact kup_n (by omega) (by assumption)))) rfl ?_
    refine e_bipush (by decide) dX8_offer_10 ?_
    refine e_icmp_eq (tgt := 23) dX8_offer_12 (by decide) (by first | assumption | (unfold inI at *; omega)) (by first | assumption | (unfold inI at *; omega)) (fun c12 => ?_) (fun c12 => ?_)
    · refine e_aload_n rfl dX8_offer_23 ?_
      refine e_iload_n rfl dX8_offer_24 ?_
      refine e_putf pfX8_71 dX8_offer_25 (by first | assumption | exact kup_s | exact kup_n (by omega) (by first | assumption | exact kup_s | exact kup_n (by omega) (by first | assumption | exact kup_s | exact kup_n (by omega) (by assumption)))) rfl rfl rfl ?_
      dsimp only [List.set]
      refine e_aload_n rfl dX8_offer_28 ?_
      refine e_iload_n rfl dX8_offer_29 ?_
      refine e_putf pfX8_62 dX8_offer_30 (by first | assumption | exact kup_s | exact kup_n (by omega) (by first | assumption | exact kup_s | exact kup_n (by omega) (by first | assumption | exact kup_s | exact kup_n (by omega) (by assumption)))) rfl rfl rfl ?_
      dsimp only [List.set]
      refine e_aload_n rfl dX8_offer_33 ?_
      refine e_iload_n rfl dX8_offer_34 ?_
      refine e_putf pfX8_47 dX8_offer_35 (by first | assumption | exact kup_s | exact kup_n (by omega) (by first | assumption | exact kup_s | exact kup_n (by omega) (by first | assumption | exact kup_s | exact kup_n (by omega) (by assumption)))) rfl rfl rfl ?_
      dsimp only [List.set]
      refine e_return dX8_offer_38 rfl ?_
      refine ⟨rfl, ?_, rfl⟩
      unfold kof
      first | (rw [if_pos (by omega), kup_kup, kup_kup]; rfl) | (rw [if_neg (by omega)]; exact (kup_same hu).symm)
    · refine e_iload_n rfl dX8_offer_15 ?_
      refine e_aload_n rfl dX8_offer_16 ?_
      refine e_getf fdX8_47 dX8_offer_17 (by first | assumption | exact kup_s | exact kup_n (by omega) (by first | assumption | exact kup_s | exact kup_n (by omega) (by first | assumption | exact kup_s | exact kup_n (by omega) (by assumption)))) rfl ?_
      refine e_icmp_ge (tgt := 38) dX8_offer_20 (by decide) (by first | assumption | (unfold inI at *; omega)) (by first | assumption | (unfold inI at *; omega)) (fun c20 => ?_) (fun c20 => ?_)
      · refine e_return dX8_offer_38 rfl ?_
        refine ⟨rfl, ?_, rfl⟩
        unfold kof
        first | (rw [if_pos (by omega), kup_kup, kup_kup]; rfl) | (rw [if_neg (by omega)]; exact (kup_same hu).symm)
      · refine e_aload_n rfl dX8_offer_23 ?_
        refine e_iload_n rfl dX8_offer_24 ?_
        refine e_putf pfX8_71 dX8_offer_25 (by first | assumption | exact kup_s | exact kup_n (by omega) (by first | assumption | exact kup_s | exact kup_n (by omega) (by first | assumption | exact kup_s | exact kup_n (by omega) (by assumption)))) rfl rfl rfl ?_
        dsimp only [List.set]
        refine e_aload_n rfl dX8_offer_28 ?_
        refine e_iload_n rfl dX8_offer_29 ?_
        refine e_putf pfX8_62 dX8_offer_30 (by first | assumption | exact kup_s | exact kup_n (by omega) (by first | assumption | exact kup_s | exact kup_n (by omega) (by first | assumption | exact kup_s | exact kup_n (by omega) (by assumption)))) rfl rfl rfl ?_
        dsimp only [List.set]
        refine e_aload_n rfl dX8_offer_33 ?_
        refine e_iload_n rfl dX8_offer_34 ?_
        refine e_putf pfX8_47 dX8_offer_35 (by first | assumption | exact kup_s | exact kup_n (by omega) (by first | assumption | exact kup_s | exact kup_n (by omega) (by first | assumption | exact kup_s | exact kup_n (by omega) (by assumption)))) rfl rfl rfl ?_
        dsimp only [List.set]
        refine e_return dX8_offer_38 rfl ?_
        refine ⟨rfl, ?_, rfl⟩
        unfold kof
        first | (rw [if_pos (by omega), kup_kup, kup_kup]; rfl) | (rw [if_neg (by omega)]; exact (kup_same hu).symm)
def kJm (A : Nat → Int) (w l k : Int) (fl : Int × Int) (i : Nat) (q : Int × Int × Int × Int × Int) : Prop := ((kbm (kso A w l k) i = -1 ∧ q.2.2.1 = -6) ∨ (0 ≤ kbm (kso A w l k) i ∧ q.1 = l ∧ q.2.1 = kbm (kso A w l k) i ∧ q.2.2.1 = kso A w l k (kbm (kso A w l k) i).toNat)) ∧ q.2.2.2 = fl
theorem kof_J {A : Nat → Int} {w l k : Int} {i : Nat} {q : Int × Int × Int × Int × Int} {fl : Int × Int} (hA : kAok A) (w1 : 1 ≤ w) (w8 : w ≤ 8) (k0 : 0 ≤ k) (k1 : k ≤ 9) (h : kJm A w l k fl i q) : kJm A w l k fl (i + 1) (kof q l i (kmf A i w l k)) := by
  have h1 := kbm_in (kso A w l k) i
  have h0 : kmf A i w l k = kso A w l k i := rfl
  have h2 := kmf_in hA (m := (i : Int)) (l := l) w1 w8 k0 k1
  rw [h0] at h2 ⊢
  have h3 : kbm (kso A w l k) i = -1 ∨ (0 ≤ kso A w l k (kbm (kso A w l k) i).toNat) := by
    rcases kmf_in hA (m := ((kbm (kso A w l k) i).toNat : Int)) (l := l) w1 w8 k0 k1 with z | z
    · rcases kbm_ok (kso A w l k) i with y | y
      · exact Or.inl y
      · exact absurd z y
    · exact Or.inr z.1
  unfold kJm at h ⊢
  by_cases e : kso A w l k i = -5
  · have e1 : kbm (kso A w l k) (i + 1) = kbm (kso A w l k) i := kbm_skip (Or.inl e)
    have e2 : kof q l i (kso A w l k i) = q := if_neg (fun z => z.1 e)
    rw [e1, e2]
    exact h
  · by_cases e3 : kbm (kso A w l k) i = -1 ∨ kso A w l k i < kso A w l k (kbm (kso A w l k) i).toNat
    · have e1 : kbm (kso A w l k) (i + 1) = (i : Int) := by
        show (if _ then _ else _) = _
        rw [if_neg e, if_pos e3]
      have e2 : kof q l i (kso A w l k i) = (l, (i : Int), kso A w l k i, q.2.2.2.1, q.2.2.2.2) := if_pos ⟨e, by omega⟩
      rw [e1, e2]
      exact ⟨Or.inr ⟨by omega, rfl, rfl, by simp⟩, h.2⟩
    · have e1 : kbm (kso A w l k) (i + 1) = kbm (kso A w l k) i := by
        show (if _ then _ else _) = _
        rw [if_neg e, if_neg e3]
      have e2 : kof q l i (kso A w l k i) = q := if_neg (fun z => by omega)
      rw [e1, e2]
      exact h
set_option maxHeartbeats 4000000 in
set_option maxRecDepth 100000 in
theorem k_seekM_lp {G : kG} {d : Nat} {h : Nat → Option kC} {n : Nat} (ru : rHu G h 80 81) {b : Nat} {A E : Nat → Int} (rb : rBk G h b (b + 1) (b + 2) A E (ksum A 64)) (hb : b + 2 < 80 ∨ 92 < b) (hA : kAok A) {w l k : Int} (w1 : 1 ≤ w) (w8 : w ≤ 8) (l0 : 0 ≤ l) (l1 : l ≤ 63) (k0 : 0 ≤ k) (k1 : k ≤ 9) {fl : Int × Int}  : ∀ (f : Nat) (i : Nat) (z : Int) (P : Nat → Int) (q : Int × Int × Int × Int × Int), z = (i : Int) → i ≤ 64 → 64 - (i : Int) ≤ f → kJm A w l k fl i q → kE G mX8_seekMiddle (d + 3) 0 0 9 [some (.ref (gB G + 91)), some (.ref (gB G + b)), some (.int (jI w)), some (.int (jI l)), some (.int (jI k)), some (.int (jI z))] [] (kuh G h P q) n (fun r h' n' => ∃ (P' : Nat → Int) (q' : Int × Int × Int × Int × Int), r = none ∧ h' = kuh G h P' q' ∧ n' = n ∧ kJm A w l k fl 64 q') := by
  have tA := kA_sum hA
  intro f
  induction f with
  | zero =>
    intro i z P q g1 g2 g3 g4
    refine e_iload rfl dX8_seekMiddle_9 ?_
    refine e_bipush (by decide) dX8_seekMiddle_11 ?_
    refine e_icmp_ge (tgt := 40) dX8_seekMiddle_13 (by decide) (by first | assumption | (unfold inI at *; omega)) (by first | assumption | (unfold inI at *; omega)) (fun c13 => ?_) (fun c13 => ?_)
    · refine e_return dX8_seekMiddle_40 rfl ?_
      exact ⟨P, q, rfl, rfl, rfl, by rw [← show i = 64 by omega]; exact g4⟩
    · exact absurd c13 (by omega)
  | succ f ih =>
    intro i z P q g1 g2 g3 g4
    subst g1
    have q8 := kmf_in hA (m := (i : Int)) (l := l) w1 w8 k0 k1
    have q7 : inI q.2.2.1 := by
      have z0 := g4
      unfold kJm at z0
      have z1 := kmf_in hA (m := ((kbm (kso A w l k) i).toNat : Int)) (l := l) w1 w8 k0 k1
      have z2 : kso A w l k (kbm (kso A w l k) i).toNat = kmf A ((kbm (kso A w l k) i).toNat : Int) w l k := rfl
      unfold inI
      omega
    refine e_iload rfl dX8_seekMiddle_9 ?_
    refine e_bipush (by decide) dX8_seekMiddle_11 ?_
    refine e_icmp_ge (tgt := 40) dX8_seekMiddle_13 (by decide) (by first | assumption | (unfold inI at *; omega)) (by first | assumption | (unfold inI at *; omega)) (fun c13 => ?_) (fun c13 => ?_)
    · refine e_return dX8_seekMiddle_40 rfl ?_
      exact ⟨P, q, rfl, rfl, rfl, by rw [← show i = 64 by omega]; exact g4⟩
    · refine e_aload_n rfl dX8_seekMiddle_16 ?_
      refine e_iload_n rfl dX8_seekMiddle_17 ?_
      refine e_iload rfl dX8_seekMiddle_18 ?_
      refine e_aload_n rfl dX8_seekMiddle_20 ?_
      refine e_aload_n rfl dX8_seekMiddle_21 ?_
      refine e_iload rfl dX8_seekMiddle_22 ?_
      refine e_iload_n rfl dX8_seekMiddle_24 ?_
      refine e_iload_n rfl dX8_seekMiddle_25 ?_
      refine e_iload rfl dX8_seekMiddle_26 ?_
      refine eV5R mtX8_misfitOf miX8_misfitOf lkX8_50 dX8_seekMiddle_28 kuh_9o rfl rfl rfl (k_misfitOf (kuh_hu P q ru) kuh_91 (kuh_bk P q rb hb) hb hA kuh_92 (by omega) (by omega) w1 w8 l0 l1 k0 k1) (fun r28 h28 n28 hp28 => ?_)
      obtain ⟨P9, hr9, hh9, hn9⟩ := hp28
      subst hr9
      subst hh9
      subst hn9
      rw [kuh_p]
      dsimp only [Option.toList, List.cons_append, List.nil_append]
      refine eV3 mtX8_offer miX8_offer lkX8_54 dX8_seekMiddle_31 kuh_9o rfl rfl rfl (k_offer kuh_91 q7 (by unfold inI; omega)) ?_
      dsimp only [Option.toList, List.cons_append, List.nil_append]
      rw [kuh_u]
      refine e_iinc dX8_seekMiddle_34 rfl rfl ?_
      dsimp only [List.set]
      refine e_goto (tgt := 9) dX8_seekMiddle_37 (by decide) ?_
      exact ih (i + 1) _ _ _ (by omega) (by omega) (by omega) (kof_J hA w1 w8 k0 k1 g4)
/-- what a search leaves: Undoing's cells -/
def kfP (G : kG) (h : Nat → Option kC) (n : Nat) (q' : Int × Int × Int × Int × Int) : kPo := fun r h' n' => ∃ P' : Nat → Int, r = none ∧ h' = kuh G h P' q' ∧ n' = n
set_option maxHeartbeats 4000000 in
set_option maxRecDepth 100000 in
theorem k_seekMiddle {G : kG} {d : Nat} {h : Nat → Option kC} {n : Nat} {q : Int × Int × Int × Int × Int} {P : Nat → Int} (hu : h 91 = some (kUn G q)) (hp : h 92 = some (kla 64 P)) (ru : rHu G h 80 81) {b : Nat} {A E : Nat → Int} (rb : rBk G h b (b + 1) (b + 2) A E (ksum A 64)) (hb : b + 2 < 80 ∨ 92 < b) (hA : kAok A) {w l k : Int} (w1 : 1 ≤ w) (w8 : w ≤ 8) (l0 : 0 ≤ l) (l1 : l ≤ 63) (k0 : 0 ≤ k) (k1 : k ≤ 9)  : kCall G mX8_seekMiddle (d + 3) 0 0 [.ref (gB G + 91), .ref (gB G + b), .int (jI w), .int (jI l), .int (jI k)] h n (kfP G h n (l, kbm (kso A w l k) 64, kso A w l k (kbm (kso A w l k) 64).toNat, q.2.2.2)) := by
  show kE G mX8_seekMiddle (d + 3) 0 0 0 [some (.ref (gB G + 91)), some (.ref (gB G + b)), some (.int (jI w)), some (.int (jI l)), some (.int (jI k)), none] [] h n _
  have tA := kA_sum hA
  have hu0 := hu
  unfold kUn at hu
  refine e_aload_n rfl dX8_seekMiddle_0 ?_
  refine e_bipush (by decide) dX8_seekMiddle_1 ?_
  refine e_putf pfX8_47 dX8_seekMiddle_3 (by first | assumption | exact kup_s | exact kup_n (by omega) (by first | assumption | exact kup_s | exact kup_n (by omega) (by first | assumption | exact kup_s | exact kup_n (by omega) (by assumption)))) rfl rfl rfl ?_
  dsimp only [List.set]
  refine e_iconst dX8_seekMiddle_6 ?_
  refine e_istore dX8_seekMiddle_7 rfl rfl ?_
  dsimp only [List.set]
  have e9 : kup h 91 (kob 6 [.ref (gB G + 80), .ref (gB G + 92), .int (jI q.1), .int (jI q.2.1), .int (jI (-6)), .int (jI q.2.2.2.1), .int (jI q.2.2.2.2)]) = kuh G h P (q.1, q.2.1, -6, q.2.2.2) := by
    unfold kuh
    rw [kup_same hp]
    rfl
  rw [e9]
  refine kE.mono (k_seekM_lp ru rb hb hA w1 w8 l0 l1 k0 k1 (fl := q.2.2.2) 100 0 0 P _ (by omega) (by omega) (by omega) ⟨Or.inl ⟨rfl, rfl⟩, rfl⟩) (fun r h' n' hq => ?_)
  obtain ⟨P2, ⟨y1, y2, y3, y4⟩, z1, z2, z3, z4, z5⟩ := hq
  have z6 := kbm_min (kso A w l k) (show 63 < 64 by omega) (kso_last hA w1 w8 l1 k0 k1)
  have z7 := kbm_in (kso A w l k) 64
  refine ⟨P2, z1, ?_, z3⟩
  rcases z4 with z4 | ⟨-, a1, a2, a3⟩
  · exact absurd z4.1 z6.1
  · dsimp only at a1 a2 a3 z5
    rw [z2, a1, a2, a3, z5]
