/-! NEW OBJECTS: HUMPS -/
theorem e_mna9 {G : kG} {M : kM} {d c0 s0 pc idx : Nat} {L : List (Option Value)} {st : List Value} {h : Nat → Option kC} {n : Nat} {Post : kPo} {A B : Nat} (hw : kWd (.classLink M.1.cls idx "[[I")) (ho : Cond.arrayOver (.array .int) ∈ kNst) (hd : decode M.2.1 pc = .ok (.multianewarray idx 2, 4)) (h9 : Nat.ble A 1000 = true) (g9 : Nat.ble B 1000 = true) (hc : Nat.ble (1 + A) c0 = true) (hs : Nat.ble (A + A * B) s0 = true) (kk : kE G M d (c0 - (1 + A)) (s0 - (A + A * B)) (pc + 4) L (.ref (gB G + n) :: st) (kup9 h n A B (gB G)) (n + 1 + A) Post) : kE G M d c0 s0 pc L (.int (jI (B : Int)) :: .int (jI (A : Int)) :: st) h n Post := by
  have a1 := Nat.le_of_ble_eq_true h9
  have a2 := Nat.le_of_ble_eq_true g9
  have a3 := Nat.le_of_ble_eq_true hc
  have a4 := Nat.le_of_ble_eq_true hs
  have q9 := e_mna (c0 := c0 - (1 + A)) (s0 := s0 - (A + A * B)) (a := (A : Int)) (b := (B : Int)) (L := L) (st := st) (Post := Post) hw ho hd (by omega) (by omega) (by omega) (by omega) (by rw [Int.toNat_natCast, Int.toNat_natCast]; exact kk)
  rw [Int.toNat_natCast, Int.toNat_natCast, Nat.sub_add_cancel a3, Nat.sub_add_cancel a4] at q9
  exact q9
def kHr (G : kG) (h : Nat → Option kC) (R : Nat → Nat → Int) : Nat → Option kC := fun j => if j = 80 then some (kob 2 [.ref (gB G + 81)]) else if j = 81 then some (kra 5 9 (fun i => if i < 9 then some (gB G + (81 + 1 + i)) else none)) else if 82 ≤ j ∧ j ≤ 90 then some (kia 17 (R (j - 82))) else h j
def kRr (w i : Nat) : Nat → Nat → Int := fun r j => if r < w then kbn8 r j else if r = w ∧ j < i then kbn8 r j else 0
theorem kbn8_hi {w j : Nat} (hw : w < 9) (hj : 2 * w + 1 ≤ j) : kbn8 w j = 0 := by
  have hl : ∀ w : Nat, w < 9 → (kbt.getD w []).length ≤ 2 * w + 1 := by decide
  have := hl w hw
  unfold kbn8
  rw [List.getD_eq_getElem?_getD, List.getElem?_eq_none (by omega)]
  rfl
theorem kbn8_s : ∀ w : Nat, w < 9 → ∀ k : Nat, k < 17 → (w = 0 ∨ 2 * w < k ∨ (kbn8 w k * (2 * (w : Int) - (k : Int)) / ((k : Int) + 1) = kbn8 w (k + 1))) := by decide +kernel
theorem kRr_s {w i : Nat} : up2 (kRr w i) w (up (kRr w i w) i (kbn8 w i)) = kRr w (i + 1) := by
  funext r j
  by_cases e : r = w
  · subst e
    rw [up2_s]
    unfold up kRr
    rw [if_neg (Nat.lt_irrefl r), if_neg (Nat.lt_irrefl r)]
    by_cases e2 : j = i
    · rw [if_pos e2, if_pos ⟨rfl, by omega⟩, e2]
    · rw [if_neg e2]
      by_cases e3 : j < i
      · rw [if_pos ⟨rfl, e3⟩, if_pos ⟨rfl, by omega⟩]
      · rw [if_neg (fun z => e3 z.2), if_neg (fun z => by omega)]
  · rw [up2_n e]
    unfold kRr
    by_cases e2 : r < w
    · rw [if_pos e2, if_pos e2]
    · rw [if_neg e2, if_neg e2, if_neg (fun z => e z.1), if_neg (fun z => e z.1)]
theorem kRr_n {w : Nat} (hw : w < 9) : kRr w (2 * w + 1) = kRr (w + 1) 0 := by
  funext r j
  unfold kRr
  by_cases e : r < w
  · rw [if_pos e, if_pos (by omega)]
  · rw [if_neg e]
    by_cases e2 : r = w
    · rw [if_pos (show r < w + 1 by omega)]
      by_cases e3 : j < 2 * w + 1
      · rw [if_pos ⟨e2, e3⟩]
      · rw [if_neg (fun z => e3 z.2), e2, kbn8_hi hw (by omega)]
    · rw [if_neg (fun z => e2 z.1), if_neg (show ¬ r < w + 1 by omega), if_neg (fun z => by omega)]
theorem kRr_0 : kRr 1 0 = fun _ _ => 0 := by
  funext r j
  unfold kRr
  by_cases e : r < 1
  · rw [if_pos e, show r = 0 by omega]
    by_cases z : j = 0
    · rw [z]; rfl
    · exact kbn8_hi (by decide) (by omega)
  · rw [if_neg e, if_neg (fun z => by omega)]
theorem kHr_80 {G : kG} {h : Nat → Option kC} {R : Nat → Nat → Int} : kHr G h R 80 = some (kob 2 [.ref (gB G + 81)]) := if_pos rfl
theorem kHr_81 {G : kG} {h : Nat → Option kC} {R : Nat → Nat → Int} : kHr G h R 81 = some (kra 5 9 (fun i => if i < 9 then some (gB G + (81 + 1 + i)) else none)) := by
  unfold kHr
  rw [if_neg (by decide), if_pos rfl]
theorem kHr_r {G : kG} {h : Nat → Option kC} {R : Nat → Nat → Int} {w : Nat} (hw : w < 9) : kHr G h R (81 + 1 + w) = some (kia 17 (R w)) := by
  unfold kHr
  rw [if_neg (by omega), if_neg (by omega), if_pos (by omega), show 81 + 1 + w - 82 = w by omega]
theorem kHr_o {G : kG} {h : Nat → Option kC} {R : Nat → Nat → Int} {j : Nat} (hj : j < 80) : kHr G h R j = h j := by
  unfold kHr
  rw [if_neg (by omega), if_neg (by omega), if_neg (by omega)]
theorem kHr_s {G : kG} {h : Nat → Option kC} {R : Nat → Nat → Int} {w : Nat} {A : Nat → Int} (hw : w < 9) : kup (kHr G h R) (81 + 1 + w) (kia 17 A) = kHr G h (up2 R w A) := by
  funext j
  unfold kup
  by_cases e : j = 81 + 1 + w
  · rw [if_pos e, e, kHr_r hw, up2_s]
  · rw [if_neg e]
    unfold kHr
    by_cases e1 : j = 80
    · rw [if_pos e1, if_pos e1]
    · rw [if_neg e1, if_neg e1]
      by_cases e2 : j = 81
      · rw [if_pos e2, if_pos e2]
      · rw [if_neg e2, if_neg e2]
        by_cases e3 : 82 ≤ j ∧ j ≤ 90
        · rw [if_pos e3, if_pos e3, up2_n (by omega)]
        · rw [if_neg e3, if_neg e3]
theorem kHr_i {G : kG} {h : Nat → Option kC} : kup (kup9 h 81 9 17 (gB G)) 80 (kob 2 [.ref (gB G + 81)]) = kHr G h (kRr 1 0) := by
  rw [kRr_0]
  funext j
  unfold kup kHr kup9
  by_cases e1 : j = 80
  · rw [if_pos e1, if_pos e1]
  · rw [if_neg e1, if_neg e1]
    by_cases e2 : j = 81
    · rw [if_pos e2, if_pos e2]
    · rw [if_neg e2, if_neg e2]
      by_cases e3 : 82 ≤ j ∧ j ≤ 90
      · rw [if_pos (by omega), if_pos e3]
      · rw [if_neg (by omega), if_neg e3]
def kQp (G : kG) (h : Nat → Option kC) : kPo := fun r h' n' => r = none ∧ n' = 91 ∧ rHu G h' 80 81 ∧ ∀ j, j < 80 → h' j = h j
set_option maxHeartbeats 4000000 in
set_option maxRecDepth 100000 in
theorem n_hu_in {G : kG} {d : Nat} {h : Nat → Option kC} {w : Nat} (w0 : 1 ≤ w ∧ w ≤ 8) (hc : kE G mX3_init d 0 0 62 [some (.ref (gB G + 80)), some (.int (jI w)), some (.int (jI (kbn8 w (2 * w + 1)))), some (.int (jI ((2 * w + 1 : Nat) : Int)))] [] (kHr G h (kRr (w) (2 * w + 1))) 91 (kQp G h))  : ∀ (f : Nat) (i : Nat) (z y : Int), z = (i : Int) → i ≤ 2 * w + 1 → 2 * w + 1 - i ≤ f → y = kbn8 w i → kE G mX3_init d (0) (0) 28 [some (.ref (gB G + 80)), some (.int (jI w)), some (.int (jI y)), some (.int (jI z))] [] (kHr G h (kRr (w) (i))) (91) (kQp G h) := by
  intro f
  induction f with
  | zero =>
    intro i z y g1 g2 g3 g4
    refine e_iload_n rfl dX3_init_28 ?_
    refine e_iconst dX3_init_29 ?_
    refine e_iload_n rfl dX3_init_30 ?_
    refine e_imul dX3_init_31 ?_
    refine e_icmp_gt (tgt := 62) dX3_init_32 (by decide) (by first | assumption | (unfold inI at *; omega)) (by first | assumption | (unfold inI at *; omega)) (fun c32 => ?_) (fun c32 => ?_)
    · have e9 : i = 2 * w + 1 := by omega
      subst e9
      subst g1
      subst g4
      exact hc
    · exact absurd c32 (by omega)
  | succ f ih =>
    intro i z y g1 g2 g3 g4
    subst g4
    have q8 : i ≤ 2 * w → 0 ≤ kbn8 w i ∧ kbn8 w i ≤ 12870 := fun hi => ⟨(kbn8_ok w (by omega) i (by omega)).1, (kbn8_ok w (by omega) i (by omega)).2.1⟩
    refine e_iload_n rfl dX3_init_28 ?_
    refine e_iconst dX3_init_29 ?_
    refine e_iload_n rfl dX3_init_30 ?_
    refine e_imul dX3_init_31 ?_
    refine e_icmp_gt (tgt := 62) dX3_init_32 (by decide) (by unfold inI; omega) (by unfold inI; omega) (fun c32 => ?_) (fun c32 => ?_)
    · have e9 : i = 2 * w + 1 := by omega
      subst e9
      subst g1
      exact hc
    · subst g1
      have q7 := q8 (by omega)
      have q6 := kbn8_s w (by omega) i (by omega)
      have q5 := kcm_d q7 (y := 2 * (w : Int) - (i : Int)) (by omega)
      have q4 : kbn8 w i * (2 * (w : Int) - (i : Int)) / ((i : Int) + 1) = kbn8 w (i + 1) := by rcases q6 with q6 | q6 | q6; omega; omega; exact q6
      refine e_aload_n rfl dX3_init_35 ?_
      refine e_getf fdX3_11 dX3_init_36 kHr_80 rfl ?_
      refine e_iload_n rfl dX3_init_39 ?_
      refine e_aald (j := 81 + 1 + w) dX3_init_40 kHr_81 (fun _ => rfl) rfl (by omega) (by omega) (by rw [Int.toNat_natCast, if_pos (by omega)]) ?_
      refine e_iload_n rfl dX3_init_41 ?_
      refine e_iload_n rfl dX3_init_42 ?_
      refine e_iast dX3_init_43 (kHr_r (by omega)) (by omega) (by omega) ?_
      rw [kHr_s (by omega), Int.toNat_natCast, kRr_s]
      refine e_iload_n rfl dX3_init_44 ?_
      refine e_iconst dX3_init_45 ?_
      refine e_iload_n rfl dX3_init_46 ?_
      refine e_imul dX3_init_47 ?_
      refine e_iload_n rfl dX3_init_48 ?_
      refine e_isub dX3_init_49 ?_
      refine e_imul dX3_init_50 ?_
      refine e_iload_n rfl dX3_init_51 ?_
      refine e_iconst dX3_init_52 ?_
      refine e_iadd dX3_init_53 ?_
      refine e_idivN (by first | assumption | (unfold inI at *; omega)) (by first | assumption | (unfold inI at *; omega)) (by omega) (by omega) dX3_init_54 ?_
      rw [q4]
      refine e_istore_n dX3_init_55 rfl rfl ?_
      dsimp only [List.set]
      refine e_iinc dX3_init_56 rfl rfl ?_
      dsimp only [List.set]
      refine e_goto (tgt := 28) dX3_init_59 (by decide) ?_
      exact ih (i + 1) _ _ (by omega) (by omega) (by omega) rfl
set_option maxHeartbeats 4000000 in
set_option maxRecDepth 100000 in
theorem n_hu_out {G : kG} {d : Nat} {h : Nat → Option kC}  : ∀ (f : Nat) (w : Nat) (z : Int) (e2 e3 : Option Value), z = (w : Int) → 1 ≤ w ∧ w ≤ 9 → 9 - w ≤ f → kE G mX3_init d (0) (0) 18 [some (.ref (gB G + 80)), some (.int (jI z)), e2, e3] [] (kHr G h (kRr (w) (0))) (91) (kQp G h) := by
  intro f
  induction f with
  | zero =>
    intro w z e2 e3 g1 g2 g3
    refine e_iload_n rfl dX3_init_18 ?_
    refine e_bipush (by decide) dX3_init_19 ?_
    refine e_icmp_gt (tgt := 68) dX3_init_21 (by decide) (by first | assumption | (unfold inI at *; omega)) (by first | assumption | (unfold inI at *; omega)) (fun c21 => ?_) (fun c21 => ?_)
    · refine e_return dX3_init_68 rfl ?_
      have e9 : w = 9 := by omega
      subst e9
      exact ⟨rfl, rfl, ⟨kHr_80, kHr_81, fun r hr => by rw [kHr_r hr]; unfold kRr; simp only [hr, if_true]⟩, fun j hj => kHr_o hj⟩
    · exact absurd c21 (by omega)
  | succ f ih =>
    intro w z e2 e3 g1 g2 g3
    subst g1
    refine e_iload_n rfl dX3_init_18 ?_
    refine e_bipush (by decide) dX3_init_19 ?_
    refine e_icmp_gt (tgt := 68) dX3_init_21 (by decide) (by first | assumption | (unfold inI at *; omega)) (by first | assumption | (unfold inI at *; omega)) (fun c21 => ?_) (fun c21 => ?_)
    · refine e_return dX3_init_68 rfl ?_
      have e9 : w = 9 := by omega
      subst e9
      exact ⟨rfl, rfl, ⟨kHr_80, kHr_81, fun r hr => by rw [kHr_r hr]; unfold kRr; simp only [hr, if_true]⟩, fun j hj => kHr_o hj⟩
    · refine e_iconst dX3_init_24 ?_
      refine e_istore_n dX3_init_25 rfl rfl ?_
      dsimp only [List.set]
      refine e_iconst dX3_init_26 ?_
      refine e_istore_n dX3_init_27 rfl rfl ?_
      dsimp only [List.set]
      refine n_hu_in (w := w) (by omega) ?_ 40 0 0 _ (by omega) (by omega) (by omega) (by rcases (show w = 1 ∨ w = 2 ∨ w = 3 ∨ w = 4 ∨ w = 5 ∨ w = 6 ∨ w = 7 ∨ w = 8 by omega) with e | e | e | e | e | e | e | e <;> subst e <;> rfl)
      refine e_iinc dX3_init_62 rfl rfl ?_
      dsimp only [List.set]
      refine e_goto (tgt := 18) dX3_init_65 (by decide) ?_
      rw [kRr_n (by omega)]
      exact ih (w + 1) _ _ _ (by omega) (by omega) (by omega)
set_option maxHeartbeats 4000000 in
set_option maxRecDepth 100000 in
theorem n_humps {G : kG} {d : Nat} {h : Nat → Option kC} {n : Nat} (hi : h 80 = some (kob 2 [.null])) (hn : n = 81) : kCall G mX3_init (d + 1) 10 162 [.ref (gB G + 80)] h n (kQp G h) := by
  show kE G mX3_init (d + 1) 10 162 0 [some (.ref (gB G + 80)), none, none, none] [] h n _
  subst hn
  refine e_aload_n rfl dX3_init_0 ?_
  refine e_objInit lkX3_3 dX3_init_1 rfl ?_
  refine e_aload_n rfl dX3_init_4 ?_
  refine e_bipush (by decide) dX3_init_5 ?_
  refine e_bipush (by decide) dX3_init_7 ?_
  refine e_mna9 (A := 9) (B := 17) cwX3_9 la_8 dX3_init_9 rfl rfl rfl rfl ?_
  refine e_putF pfX3_11 dX3_init_13 rfl (by unfold kup9; rw [if_neg (by decide), if_neg (by decide)]; exact hi) rfl rfl rfl ?_
  dsimp only [List.set]
  rw [kHr_i]
  refine e_iconst dX3_init_16 ?_
  refine e_istore_n dX3_init_17 rfl rfl ?_
  dsimp only [List.set]
  exact kE.less (n_hu_out 9 1 1 _ _ (by omega) (by omega) (by omega)) (by decide) (by decide)
