/-! THE CLASS: WORLDS -/
def kwld (u m w x : Int) : Prop := (0 ≤ u ∧ u ≤ 9999) ∧ ((0 ≤ m ∧ m ≤ 63) ∧ 1 ≤ w ∧ w ≤ 8) ∧ 1 ≤ x ∧ x ≤ 200
def a_make (Z : kCs) (b u m w x : Int) : Int := if ¬ (0 ≤ b ∧ b ≤ 5) then -1 else if (0 ≤ u ∧ u ≤ 9999) ∧ ((0 ≤ m ∧ m ≤ 63) ∧ 1 ≤ w ∧ w ≤ 8) ∧ 1 ≤ x ∧ x ≤ 200 then ksum (kmk (hW (cN Z)) (kln (hE (cN Z) b.toNat) (hR (cN Z))) m w u x.toNat).1 64 else -2
def s_make (Z : kCs) (b u m w x : Int) : kCs := if (0 ≤ b ∧ b ≤ 5) ∧ (0 ≤ u ∧ u ≤ 9999) ∧ ((0 ≤ m ∧ m ≤ 63) ∧ 1 ≤ w ∧ w ≤ 8) ∧ 1 ≤ x ∧ x ≤ 200 then (kSM (cN Z) b.toNat (kmk (hW (cN Z)) (kln (hE (cN Z) b.toNat) (hR (cN Z))) m w u x.toNat).1, Z.2) else Z
theorem s_makeN {Z : kCs} {b u m w x : Int} (h : ¬ ((0 ≤ b ∧ b ≤ 5) ∧ (0 ≤ u ∧ u ≤ 9999) ∧ ((0 ≤ m ∧ m ≤ 63) ∧ 1 ≤ w ∧ w ≤ 8) ∧ 1 ≤ x ∧ x ≤ 200)) : s_make Z b u m w x = Z := if_neg h
theorem rKI_kfh {G : kG} {h : Nat → Option kC} {Z : kCs} (z : rKI G h Z) {i : Nat} (hi : i < 6) {s : Int} {A : Nat → Int} : rKI G (kfh G h (3 + 7 + 3 * i) s A) (kSM (cN Z) i A, Z.2) := by
  obtain ⟨⟨q, zq⟩, ⟨P, zP⟩, _, A9, E9, t9, zt⟩ := z.2.2.2.2.2
  have z1 : rKI G (kup h 93 (kMa G s)) Z := rKI_wk z (fun j hj => kup_o (by omega)) ⟨⟨q, kup_n (by omega) zq⟩, ⟨P, kup_n (by omega) zP⟩, ⟨s, kup_s⟩, A9, E9, t9, rBk_up zt (by omega) (by omega) (by omega)⟩
  refine rKI_now z1 (fun j hj => by unfold kfh; rw [kup_o (by omega), kup_o (by omega)]) ?_
  have q9 := rHd_bk (h' := kfh G h (3 + 7 + 3 * i) s A) (A := A) (E := hE (cN Z) i) z1.2.2.1 hi (fun j hj => by unfold kfh; rw [kup_o (by omega), kup_o (by omega)]) ⟨kup_s, kup_n (by omega) kup_s, kup_n (by omega) (kup_n (by omega) (rHd_b z1.2.2.1 hi).2.2)⟩
  rw [up2_id] at q9
  exact q9
theorem rKI_kf9 {G : kG} {h : Nat → Option kC} {Z : kCs} (z : rKI G h Z) {E : Nat → Int} (he : h 96 = some (kia 3 E)) {s : Int} {A : Nat → Int} : rKI G (kfh G h 94 s A) Z ∧ rBk G (kfh G h 94 s A) 94 95 96 A E (ksum A 64) := by
  obtain ⟨⟨q, zq⟩, ⟨P, zP⟩, _, _⟩ := z.2.2.2.2.2
  have rb : rBk G (kfh G h 94 s A) 94 95 96 A E (ksum A 64) := ⟨kup_s, kup_n (by omega) kup_s, kup_n (by omega) (kup_n (by omega) (kup_n (by omega) he))⟩
  exact ⟨rKI_wk z (fun j hj => by unfold kfh; rw [kup_o (by omega), kup_o (by omega), kup_o (by omega)]) ⟨⟨q, kup_n (by omega) (kup_n (by omega) (kup_n (by omega) zq))⟩, ⟨P, kup_n (by omega) (kup_n (by omega) (kup_n (by omega) zP))⟩, ⟨s, kup_n (by omega) (kup_n (by omega) kup_s)⟩, A, E, _, rb⟩, rb⟩
/-- MIDDLE that a RULE OF UNDOING tells -/
def kund (Z : kCs) (A E : Nat → Int) (w t : Int) : Int := if t = 0 then (if ksum A 64 = 0 then 0 else ksm A 0 / ksum A 64) else if t = 1 then kmo A 64 else if t = 2 then kbm (kso A w (kln E (hR (cN Z))) (hW (cN Z) 0)) 64 else kbm (ks2 A w (hW (cN Z) 0)) 4096 % 64
theorem kund_in {Z : kCs} {A E : Nat → Int} (hA : kAok A) {w t : Int} : -1 ≤ kund Z A E w t ∧ kund Z A E w t ≤ 4027968 := by
  have a1 := ksm_in hA 0
  have a2 := kA_sum hA
  have a3 : 0 ≤ ksm A 0 / ksum A 64 := Int.ediv_nonneg a1.1 a2.1
  have a4 : ksm A 0 / ksum A 64 ≤ ksm A 0 := Int.ediv_le_self _ a1.1
  have a5 := kmo_in A 64
  have a6 := kbm_in (kso A w (kln E (hR (cN Z))) (hW (cN Z) 0)) 64
  unfold kund
  (repeat' split) <;> omega
def kof1 (Z : kCs) (E : Nat → Int) (s m w x t : Int) : Int := if ksum (kmk (hW (cN Z)) (kln E (hR (cN Z))) m w s x.toNat).1 64 = 0 then 63 else kab (kund Z (kmk (hW (cN Z)) (kln E (hR (cN Z))) m w s x.toNat).1 E w t - m)
def kofs (Z : kCs) (E : Nat → Int) (u m w x t : Int) (k : Nat) : Int := ksum (fun i => kof1 Z E (u + i) m w x t) k
theorem kmk_ok {Z : kCs} (ok : kHok (cN Z)) {E : Nat → Int} {m w s x : Int} (s0 : 0 ≤ s) (s1 : s ≤ 65536) (x0 : 0 ≤ x) (x1 : x ≤ 200) : kAok (kmk (hW (cN Z)) (kln E (hR (cN Z))) m w s x.toNat).1 := by
  have tl := kln_in (E := E) ok.2.2.2.1
  have q9 := kmk_in (hW (cN Z)) (m := m) (w := w) tl.1 tl.2 s0 s1 x.toNat
  exact fun j hj => by have := q9.1 j; omega
theorem kof1_in {Z : kCs} (ok : kHok (cN Z)) {E : Nat → Int} {m w s x t : Int} (s0 : 0 ≤ s) (s1 : s ≤ 65536) (x0 : 0 ≤ x) (x1 : x ≤ 200) (m0 : 0 ≤ m) (m1 : m ≤ 63) : 0 ≤ kof1 Z E s m w x t ∧ kof1 Z E s m w x t ≤ 5000000 := by
  have a1 := kund_in (Z := Z) (E := E) (w := w) (t := t) (kmk_ok ok (E := E) (m := m) (w := w) s0 s1 x0 x1)
  unfold kof1 kab
  (repeat' split) <;> omega
theorem kofs_in {Z : kCs} (ok : kHok (cN Z)) {E : Nat → Int} {m w u x t : Int} (s0 : 0 ≤ u) (s1 : u ≤ 9999) (x0 : 0 ≤ x) (x1 : x ≤ 200) (m0 : 0 ≤ m) (m1 : m ≤ 63) {k : Nat} (hk : k ≤ 8) : 0 ≤ kofs Z E u m w x t k ∧ kofs Z E u m w x t k ≤ 40000000 := by
  have h1 : ∀ i : Nat, i < k → 0 ≤ kof1 Z E (u + i) m w x t ∧ kof1 Z E (u + i) m w x t ≤ 5000000 := fun i hi => kof1_in ok (by omega) (by omega) x0 x1 m0 m1
  have h2 : kofs Z E u m w x t k ≤ k * 5000000 := ksum_le (fun i hi => (h1 i hi).2)
  exact ⟨ksum_nn (fun i hi => (h1 i hi).1), by omega⟩
def kof0 (Z : kCs) (E : Nat → Int) (u m w x v : Int) : Nat → Int := fun t => kofs Z E u m w x t v.toNat
/-- the first k + 1 RULES OF UNDOING: the best of them -/
def kbr (F : Nat → Int) : Nat → Int
  | 0 => 0
  | k + 1 => if F (k + 1) < F (kbr F k).toNat then ((k + 1 : Nat) : Int) else kbr F k
def a_off (Z : kCs) (b u m w x v t : Int) : Int := if ¬ (0 ≤ b ∧ b ≤ 5) then -1 else if ((0 ≤ u ∧ u ≤ 9999) ∧ ((0 ≤ m ∧ m ≤ 63) ∧ 1 ≤ w ∧ w ≤ 8) ∧ 1 ≤ x ∧ x ≤ 200) ∧ (1 ≤ v ∧ v ≤ 8) ∧ 0 ≤ t ∧ t ≤ 3 then kofs Z (hE (cN Z) b.toNat) u m w x t v.toNat else -2
def a_best (Z : kCs) (b u m w x v : Int) : Int := if ¬ (0 ≤ b ∧ b ≤ 5) then -1 else if ((0 ≤ u ∧ u ≤ 9999) ∧ ((0 ≤ m ∧ m ≤ 63) ∧ 1 ≤ w ∧ w ≤ 8) ∧ 1 ≤ x ∧ x ≤ 200) ∧ 1 ≤ v ∧ v ≤ 8 then kbr (kof0 Z (hE (cN Z) b.toNat) u m w x v) 3 else -2
theorem kbr_in (F : Nat → Int) : ∀ k : Nat, 0 ≤ kbr F k ∧ kbr F k ≤ k
  | 0 => by unfold kbr; omega
  | k + 1 => by
    have := kbr_in F k
    unfold kbr
    split <;> omega
theorem k_kabsi (z : Int) : kabsi z = kab z := by
  unfold kabsi kab
  (repeat' split) <;> omega
def kQu (G : kG) (h : Nat → Option kC) (n : Nat) (v : Value) (Z : kCs) : kPo := fun r h' n' => r = some v ∧ rKI G h' Z ∧ (∀ j, j ≠ 91 → j ≠ 92 → h' j = h j) ∧ n' = n
def kQw (G : kG) (h : Nat → Option kC) (n : Nat) (v : Value) (Z : kCs) : kPo := fun r h' n' => r = some v ∧ rKI G h' Z ∧ (∀ j, j < 91 ∨ 96 < j → h' j = h j) ∧ n' = n
set_option maxHeartbeats 4000000 in
set_option maxRecDepth 100000 in
theorem k_isWorld {G : kG} {d : Nat} {h : Nat → Option kC} {n : Nat} {u m w x : Int} (hu : inI u) (hm : inI m) (hw : inI w) (hx : inI x) : kCall G mX9_isWorld (d + 3) 0 0 [.int (jI u), .int (jI m), .int (jI w), .int (jI x)] h n (kre (some (.int (jI (if (0 ≤ u ∧ u ≤ 9999) ∧ ((0 ≤ m ∧ m ≤ 63) ∧ 1 ≤ w ∧ w ≤ 8) ∧ 1 ≤ x ∧ x ≤ 200 then 1 else 0)))) h n) := by
  show kE G mX9_isWorld (d + 3) 0 0 0 [some (.int (jI u)), some (.int (jI m)), some (.int (jI w)), some (.int (jI x))] [] h n _
  refine e_iload_n rfl dX9_isWorld_0 ?_
  refine e_iconst dX9_isWorld_1 ?_
  refine e_sipush (by decide) dX9_isWorld_2 ?_
  refine eS3 mtX9_within msX9_within lkX9_69 dX9_isWorld_5 rfl rfl (k_within (by first | assumption | (unfold inI at *; omega)) (by first | assumption | (unfold inI at *; omega)) (by first | assumption | (unfold inI at *; omega))) ?_
  dsimp only [Option.toList, List.cons_append, List.nil_append]
  refine e_ifeqP (tgt := 34) dX9_isWorld_8 (by decide) (fun c8 => ?_) (fun c8 => ?_)
  · refine e_iconst dX9_isWorld_34 ?_
    refine e_ireturn dX9_isWorld_35 rfl (by decide) ?_
    exact ⟨by (repeat' split) <;> first | rfl | (exfalso; omega), rfl, rfl⟩
  · refine e_iload_n rfl dX9_isWorld_11 ?_
    refine e_iload_n rfl dX9_isWorld_12 ?_
    refine eS2 mtX9_isHump msX9_isHump lkX9_137 dX9_isWorld_13 rfl rfl (k_isHump (by first | assumption | (unfold inI at *; omega)) (by first | assumption | (unfold inI at *; omega))) ?_
    dsimp only [Option.toList, List.cons_append, List.nil_append]
    refine e_ifeqP (tgt := 34) dX9_isWorld_16 (by decide) (fun c16 => ?_) (fun c16 => ?_)
    · refine e_iconst dX9_isWorld_34 ?_
      refine e_ireturn dX9_isWorld_35 rfl (by decide) ?_
      exact ⟨by (repeat' split) <;> first | rfl | (exfalso; omega), rfl, rfl⟩
    · refine e_iload_n rfl dX9_isWorld_19 ?_
      refine e_iconst dX9_isWorld_20 ?_
      refine e_sipush (by decide) dX9_isWorld_21 ?_
      refine eS3 mtX9_within msX9_within lkX9_69 dX9_isWorld_24 rfl rfl (k_within (by first | assumption | (unfold inI at *; omega)) (by first | assumption | (unfold inI at *; omega)) (by first | assumption | (unfold inI at *; omega))) ?_
      dsimp only [Option.toList, List.cons_append, List.nil_append]
      refine e_ifeqP (tgt := 34) dX9_isWorld_27 (by decide) (fun c27 => ?_) (fun c27 => ?_)
      · refine e_iconst dX9_isWorld_34 ?_
        refine e_ireturn dX9_isWorld_35 rfl (by decide) ?_
        exact ⟨by (repeat' split) <;> first | rfl | (exfalso; omega), rfl, rfl⟩
      · refine e_iconst dX9_isWorld_30 ?_
        refine e_goto (tgt := 35) dX9_isWorld_31 (by decide) ?_
        refine e_ireturn dX9_isWorld_35 rfl (by decide) ?_
        exact ⟨by (repeat' split) <;> first | rfl | (exfalso; omega), rfl, rfl⟩
set_option maxHeartbeats 4000000 in
set_option maxRecDepth 100000 in
theorem k_makeN {G : kG} {d : Nat} {h : Nat → Option kC} {n : Nat} {Z : kCs} (g : rSt G) (z : rKI G h Z) (ok : kCok Z) {b : Int} (hb : inI b) (hbn : ¬ (0 ≤ b ∧ b ≤ 5)) {u : Int} (hu : inI u) {m : Int} (hm : inI m) {w : Int} (hw : inI w) {x : Int} (hx : inI x) : kCall G mX9_make (d + 5) 0 0 [.ref (gB G + 0), .int (jI b), .int (jI u), .int (jI m), .int (jI w), .int (jI x)] h n (kQc G h n (.int (jI (a_make Z b u m w x))) (s_make Z b u m w x)) := by
  show kE G mX9_make (d + 5) 0 0 0 [some (.ref (gB G + 0)), some (.int (jI b)), some (.int (jI u)), some (.int (jI m)), some (.int (jI w)), some (.int (jI x)), none] [] h n _
  obtain ⟨⟨z0, ⟨f0, z28, z28f⟩, zu⟩, zp, zn, zi, zk, ⟨q, zq⟩, ⟨P, zP⟩, ⟨s, zs⟩, A9, E9, t9, zt⟩ := id z
  have zp1 := zp.1
  have zn1 := zn.1.1
  have zu1 := zu.1
  obtain ⟨okn, ⟨p0, p1, p2⟩, oki, okk⟩ := id ok
  refine e_aload_n rfl dX9_make_0 ?_
  refine e_getf fdX9_19 dX9_make_1 (by first | assumption | exact kup_s | exact kup_n (by omega) (by first | assumption | exact kup_s | exact kup_n (by omega) (by first | assumption | exact kup_s | exact kup_n (by omega) (by assumption)))) rfl ?_
  refine e_iload_n rfl dX9_make_4 ?_
  refine eV1 mtX2_bookAt miX2_bookAt lkX9_61 dX9_make_5 (by first | assumption | exact kup_s | exact kup_n (by omega) (by first | assumption | exact kup_s | exact kup_n (by omega) (by first | assumption | exact kup_s | exact kup_n (by omega) (by assumption)))) rfl rfl rfl (k_bookAtN zn.1 (by assumption) (by assumption)) ?_
  dsimp only [Option.toList, List.cons_append, List.nil_append]
  refine e_astoreN dX9_make_8 rfl rfl ?_
  dsimp only [List.set]
  refine e_aloadN rfl dX9_make_10 ?_
  refine e_ifnonnullN dX9_make_12 ?_
  refine e_iconst dX9_make_15 ?_
  refine e_ireturn dX9_make_16 rfl rfl ?_
  rw [s_makeN (by omega)]
  exact kQc_0 (by unfold a_make; (repeat' split) <;> first | rfl | (exfalso; omega)) z
set_option maxHeartbeats 4000000 in
set_option maxRecDepth 100000 in
theorem k_makeY {G : kG} {d : Nat} {h : Nat → Option kC} {n : Nat} {Z : kCs} (g : rSt G) (z : rKI G h Z) (ok : kCok Z) {b : Int} (hb : inI b) (hby : 0 ≤ b ∧ b ≤ 5) {u : Int} (hu : inI u) {m : Int} (hm : inI m) {w : Int} (hw : inI w) {x : Int} (hx : inI x) : kCall G mX9_make (d + 5) 0 0 [.ref (gB G + 0), .int (jI b), .int (jI u), .int (jI m), .int (jI w), .int (jI x)] h n (kQc G h n (.int (jI (a_make Z b u m w x))) (s_make Z b u m w x)) := by
  show kE G mX9_make (d + 5) 0 0 0 [some (.ref (gB G + 0)), some (.int (jI b)), some (.int (jI u)), some (.int (jI m)), some (.int (jI w)), some (.int (jI x)), none] [] h n _
  obtain ⟨⟨z0, ⟨f0, z28, z28f⟩, zu⟩, zp, zn, zi, zk, ⟨q, zq⟩, ⟨P, zP⟩, ⟨s, zs⟩, A9, E9, t9, zt⟩ := id z
  have zp1 := zp.1
  have zn1 := zn.1.1
  have zu1 := zu.1
  obtain ⟨okn, ⟨p0, p1, p2⟩, oki, okk⟩ := id ok
  have zb := rHd_b zn (i := b.toNat) (by omega)
  have zb1 := zb.1
  have za := okn.1 b.toNat (by omega)
  have ze := okn.2.1 b.toNat (by omega)
  have zA := kA_sum za
  obtain ⟨⟨y00, y01⟩, ⟨y10, y11⟩, ⟨y20, y21⟩⟩ := id ze
  refine e_aload_n rfl dX9_make_0 ?_
  refine e_getf fdX9_19 dX9_make_1 (by first | assumption | exact kup_s | exact kup_n (by omega) (by first | assumption | exact kup_s | exact kup_n (by omega) (by first | assumption | exact kup_s | exact kup_n (by omega) (by assumption)))) rfl ?_
  refine e_iload_n rfl dX9_make_4 ?_
  refine eV1 mtX2_bookAt miX2_bookAt lkX9_61 dX9_make_5 (by first | assumption | exact kup_s | exact kup_n (by omega) (by first | assumption | exact kup_s | exact kup_n (by omega) (by first | assumption | exact kup_s | exact kup_n (by omega) (by assumption)))) rfl rfl rfl (k_bookAt zn.1 (by omega) (by omega)) ?_
  dsimp only [Option.toList, List.cons_append, List.nil_append]
  refine e_astore dX9_make_8 rfl rfl ?_
  dsimp only [List.set]
  refine e_aload rfl dX9_make_10 ?_
  refine e_ifnonnull (tgt := 17) dX9_make_12 (by decide) ?_
  refine e_iload_n rfl dX9_make_17 ?_
  refine e_iload_n rfl dX9_make_18 ?_
  refine e_iload rfl dX9_make_19 ?_
  refine e_iload rfl dX9_make_21 ?_
  refine eS4 mtX9_isWorld msX9_isWorld lkX9_261 dX9_make_23 rfl rfl (k_isWorld (by first | assumption | (unfold inI at *; omega)) (by first | assumption | (unfold inI at *; omega)) (by first | assumption | (unfold inI at *; omega)) (by first | assumption | (unfold inI at *; omega))) ?_
  dsimp only [Option.toList, List.cons_append, List.nil_append]
  refine e_ifeqP (tgt := 51) dX9_make_26 (by decide) (fun c26 => ?_) (fun c26 => ?_)
  · refine e_bipush (by decide) dX9_make_51 ?_
    refine e_ireturn dX9_make_53 rfl rfl ?_
    rw [s_makeN (by omega)]
    exact kQc_0 (by unfold a_make; (repeat' split) <;> first | rfl | (exfalso; omega)) z
  · refine e_aload_n rfl dX9_make_29 ?_
    refine e_getf fdX9_50 dX9_make_30 (by first | assumption | exact kup_s | exact kup_n (by omega) (by first | assumption | exact kup_s | exact kup_n (by omega) (by first | assumption | exact kup_s | exact kup_n (by omega) (by assumption)))) rfl ?_
    refine e_aload rfl dX9_make_33 ?_
    refine e_aload_n rfl dX9_make_35 ?_
    refine e_getf fdX9_19 dX9_make_36 (by first | assumption | exact kup_s | exact kup_n (by omega) (by first | assumption | exact kup_s | exact kup_n (by omega) (by first | assumption | exact kup_s | exact kup_n (by omega) (by assumption)))) rfl ?_
    refine e_iload_n rfl dX9_make_39 ?_
    refine e_iload_n rfl dX9_make_40 ?_
    refine e_iload rfl dX9_make_41 ?_
    refine e_iload rfl dX9_make_43 ?_
    refine eV6 mtX4_fill miX4_fill lkX9_264 dX9_make_45 (by first | assumption | exact kup_s | exact kup_n (by omega) (by first | assumption | exact kup_s | exact kup_n (by omega) (by first | assumption | exact kup_s | exact kup_n (by omega) (by assumption)))) rfl rfl rfl (k_fillM zn.1 zu okn zs zb ze (by omega) (by omega) (by omega) (by omega) (by omega) (by omega) (by omega) (by omega) (by omega) (by omega)) ?_
    dsimp only [Option.toList, List.cons_append, List.nil_append]
    refine e_goto (tgt := 53) dX9_make_48 (by decide) ?_
    refine e_ireturn dX9_make_53 rfl rfl ?_
    refine ⟨by unfold a_make; rw [if_neg (by omega), if_pos (by omega)], ?_, fun j h1 _ => by unfold kfh; rw [kup_o (by omega), kup_o (by omega), kup_o (by omega)], Nat.le_refl n⟩
    have e9 : s_make Z b u m w x = (kSM (cN Z) b.toNat (kmk (hW (cN Z)) (kln (hE (cN Z) b.toNat) (hR (cN Z))) m w u x.toNat).1, Z.2) := if_pos ⟨by omega, by omega⟩
    rw [e9]
    exact rKI_kfh z (by omega)
theorem k_make {G : kG} {d : Nat} {h : Nat → Option kC} {n : Nat} {Z : kCs} (g : rSt G) (z : rKI G h Z) (ok : kCok Z) {b : Int} (hb : inI b)  {u : Int} (hu : inI u) {m : Int} (hm : inI m) {w : Int} (hw : inI w) {x : Int} (hx : inI x) : kCall G mX9_make (d + 5) 0 0 [.ref (gB G + 0), .int (jI b), .int (jI u), .int (jI m), .int (jI w), .int (jI x)] h n (kQc G h n (.int (jI (a_make Z b u m w x))) (s_make Z b u m w x)) := by
  by_cases c9 : 0 ≤ b ∧ b ≤ 5
  · exact k_makeY g z ok hb c9 hu hm hw hx
  · exact k_makeN g z ok hb c9 hu hm hw hx
set_option maxHeartbeats 4000000 in
set_option maxRecDepth 100000 in
theorem k_undone {G : kG} {d : Nat} {h : Nat → Option kC} {n : Nat} {Z : kCs} (g : rSt G) (z : rKI G h Z) (ok : kCok Z) {A E : Nat → Int} (rb : rBk G h 94 95 96 A E (ksum A 64)) (hA : kAok A) (qe : kEok E) {w t : Int} (w1 : 1 ≤ w) (w8 : w ≤ 8) (t0 : 0 ≤ t) (t1 : t ≤ 3) : kCall G mX9_undone (d + 5) 0 0 [.ref (gB G + 0), .ref (gB G + 94), .int (jI w), .int (jI t)] h n (kQu G h n (.int (jI (kund Z A E w t))) Z) := by
  show kE G mX9_undone (d + 5) 0 0 0 [some (.ref (gB G + 0)), some (.ref (gB G + 94)), some (.int (jI w)), some (.int (jI t))] [] h n _
  obtain ⟨⟨z0, ⟨f0, z28, z28f⟩, zu⟩, zp, zn, zi, zk, ⟨q, zq⟩, ⟨P, zP⟩, ⟨s, zs⟩, A9, E9, t9, zt⟩ := id z
  have zp1 := zp.1
  have zn1 := zn.1.1
  have zu1 := zu.1
  obtain ⟨okn, ⟨p0, p1, p2⟩, oki, okk⟩ := id ok
  obtain ⟨⟨w00, w01⟩, ⟨w10, w11⟩, ⟨w20, w21⟩, ⟨w30, w31⟩, ⟨w40, w41⟩⟩ := id okn.2.2.1
  have rb1 := rb.1
  have tA := kA_sum hA
  have q8 := ksm_in hA 0
  refine e_iload_n rfl dX9_undone_0 ?_
  rcases (show t = 0 ∨ t = 1 ∨ t = 2 ∨ (t < 0 ∨ 2 < t) by omega) with c1 | c1 | c1 | c1
  · rw [c1]
    refine e_tabIn (tgt := 28) dX9_undone_1 (by unfold inI; omega) (by decide) (by decide) rfl (by decide) ?_
    refine e_aload_n rfl dX9_undone_28 ?_
    refine e_getf fdX9_205 dX9_undone_29 (by first | assumption | exact kup_s | exact kup_n (by omega) (by first | assumption | exact kup_s | exact kup_n (by omega) (by first | assumption | exact kup_s | exact kup_n (by omega) (by assumption)))) rfl ?_
    refine e_if_ne (tgt := 39) dX9_undone_32 (by decide) (by first | assumption | (unfold inI at *; omega)) (fun c32 => ?_) (fun c32 => ?_)
    · refine e_aload_n rfl dX9_undone_39 ?_
      refine e_iconst dX9_undone_40 ?_
      refine eV1 mtX0_sumMoved miX0_sumMoved lkX9_253 dX9_undone_41 (by first | assumption | exact kup_s | exact kup_n (by omega) (by first | assumption | exact kup_s | exact kup_n (by omega) (by first | assumption | exact kup_s | exact kup_n (by omega) (by assumption)))) rfl rfl rfl (k_sumMoved rb hA (by omega) (by omega)) ?_
      dsimp only [Option.toList, List.cons_append, List.nil_append]
      refine e_aload_n rfl dX9_undone_44 ?_
      refine e_getf fdX9_205 dX9_undone_45 (by first | assumption | exact kup_s | exact kup_n (by omega) (by first | assumption | exact kup_s | exact kup_n (by omega) (by first | assumption | exact kup_s | exact kup_n (by omega) (by assumption)))) rfl ?_
      refine e_i2l (by first | assumption | (unfold inI at *; omega)) dX9_undone_48 ?_
      refine e_ldivN (by first | assumption | (unfold inL at *; omega)) (by first | assumption | (unfold inL at *; omega)) (by omega) (by omega) dX9_undone_49 ?_
      refine e_l2i dX9_undone_50 ?_
      refine e_ireturn dX9_undone_51 rfl rfl ?_
      refine ⟨by unfold kund; (repeat' split) <;> first | rfl | (exfalso; omega), ?_, ?_, rfl⟩
      · first | exact z | exact rKI_kuh z
      · first | exact fun j _ _ => rfl | exact fun j h1 h2 => kuh_o9 h1 h2
    · refine e_iconst dX9_undone_35 ?_
      refine e_goto (tgt := 51) dX9_undone_36 (by decide) ?_
      refine e_ireturn dX9_undone_51 rfl rfl ?_
      refine ⟨by unfold kund; (repeat' split) <;> first | rfl | (exfalso; omega), ?_, ?_, rfl⟩
      · first | exact z | exact rKI_kuh z
      · first | exact fun j _ _ => rfl | exact fun j h1 h2 => kuh_o9 h1 h2
  · rw [c1]
    refine e_tabIn (tgt := 52) dX9_undone_1 (by unfold inI; omega) (by decide) (by decide) rfl (by decide) ?_
    refine e_aload_n rfl dX9_undone_52 ?_
    refine eV0 mtX0_commonest miX0_commonest lkX9_256 dX9_undone_53 (by first | assumption | exact kup_s | exact kup_n (by omega) (by first | assumption | exact kup_s | exact kup_n (by omega) (by first | assumption | exact kup_s | exact kup_n (by omega) (by assumption)))) rfl rfl rfl (k_commonest rb hA) ?_
    dsimp only [Option.toList, List.cons_append, List.nil_append]
    refine e_ireturn dX9_undone_56 rfl rfl ?_
    refine ⟨by unfold kund; (repeat' split) <;> first | rfl | (exfalso; omega), ?_, ?_, rfl⟩
    · first | exact z | exact rKI_kuh z
    · first | exact fun j _ _ => rfl | exact fun j h1 h2 => kuh_o9 h1 h2
  · rw [c1]
    refine e_tabIn (tgt := 57) dX9_undone_1 (by unfold inI; omega) (by decide) (by decide) rfl (by decide) ?_
    refine e_aload_n rfl dX9_undone_57 ?_
    refine e_aload_n rfl dX9_undone_58 ?_
    refine e_iload_n rfl dX9_undone_59 ?_
    refine eV2R mtX9_seekMiddle miX9_seekMiddle lkX9_167 dX9_undone_60 (by first | exact z0 | exact (kuh_o9 (by omega) (by omega)).trans z0 | exact (kuh_o9 (by omega) (by omega)).trans ((kuh_o9 (by omega) (by omega)).trans z0)) rfl rfl rfl (k_zseekM g z ok rb (by omega) hA qe zq zP w1 w8) (fun r60 h60 n60 hp60 => ?_)
    obtain ⟨P1, rfl, rfl, rfl⟩ := hp60
    dsimp only [Option.toList, List.cons_append, List.nil_append]
    refine e_aload_n rfl dX9_undone_63 ?_
    refine e_getf fdX9_43 dX9_undone_64 (by first | exact z0 | exact (kuh_o9 (by omega) (by omega)).trans z0 | exact (kuh_o9 (by omega) (by omega)).trans ((kuh_o9 (by omega) (by omega)).trans z0)) rfl ?_
    refine e_getf fdX9_171 dX9_undone_67 kuh_9o rfl ?_
    refine e_ireturn dX9_undone_70 rfl rfl ?_
    refine ⟨by unfold kund; (repeat' split) <;> first | rfl | (exfalso; omega), ?_, ?_, rfl⟩
    · first | exact z | exact rKI_kuh z
    · first | exact fun j _ _ => rfl | exact fun j h1 h2 => kuh_o9 h1 h2
  · refine e_tabOut (tgt := 71) dX9_undone_1 (by first | assumption | (unfold inI at *; omega)) c1 (by decide) ?_
    refine e_aload_n rfl dX9_undone_71 ?_
    refine e_getf fdX9_43 dX9_undone_72 (by first | assumption | exact kup_s | exact kup_n (by omega) (by first | assumption | exact kup_s | exact kup_n (by omega) (by first | assumption | exact kup_s | exact kup_n (by omega) (by assumption)))) rfl ?_
    refine e_aload_n rfl dX9_undone_75 ?_
    refine e_iload_n rfl dX9_undone_76 ?_
    refine e_aload_n rfl dX9_undone_77 ?_
    refine e_getf fdX9_19 dX9_undone_78 (by first | assumption | exact kup_s | exact kup_n (by omega) (by first | assumption | exact kup_s | exact kup_n (by omega) (by first | assumption | exact kup_s | exact kup_n (by omega) (by assumption)))) rfl ?_
    refine e_iconst dX9_undone_81 ?_
    refine eV1 mtX2_wayOf miX2_wayOf lkX9_97 dX9_undone_82 (by first | assumption | exact kup_s | exact kup_n (by omega) (by first | assumption | exact kup_s | exact kup_n (by omega) (by first | assumption | exact kup_s | exact kup_n (by omega) (by assumption)))) rfl rfl rfl (k_wayOf zn.1 (by omega) (by omega)) ?_
    dsimp only [Option.toList, List.cons_append, List.nil_append]
    rw [show (0 : Int).toNat = 0 from rfl]
    refine eV3R mtX8_seekLine miX8_seekLine lkX9_187 dX9_undone_85 zq rfl rfl rfl (k_seekLine zq zP zu rb (by omega) hA w1 w8 (by omega) (by omega)) (fun r85 h85 n85 hp85 => ?_)
    obtain ⟨P1, rfl, rfl, rfl⟩ := hp85
    dsimp only [Option.toList, List.cons_append, List.nil_append]
    refine e_aload_n rfl dX9_undone_88 ?_
    refine e_getf fdX9_43 dX9_undone_89 (by first | exact z0 | exact (kuh_o9 (by omega) (by omega)).trans z0 | exact (kuh_o9 (by omega) (by omega)).trans ((kuh_o9 (by omega) (by omega)).trans z0)) rfl ?_
    refine e_getf fdX9_171 dX9_undone_92 kuh_9o rfl ?_
    refine e_ireturn dX9_undone_95 rfl rfl ?_
    refine ⟨by unfold kund; (repeat' split) <;> first | rfl | (exfalso; omega), ?_, ?_, rfl⟩
    · first | exact z | exact rKI_kuh z
    · first | exact fun j _ _ => rfl | exact fun j h1 h2 => kuh_o9 h1 h2
set_option maxHeartbeats 4000000 in
set_option maxRecDepth 100000 in
theorem k_offBy_lp {G : kG} {d : Nat} {h : Nat → Option kC} {n : Nat} {Z : kCs} (g : rSt G) (ok : kCok Z) {b : Nat} {E : Nat → Int} (qe : kEok E) {u m w x v t : Int} (u0 : 0 ≤ u ∧ u ≤ 9999) (m0 : 0 ≤ m ∧ m ≤ 63) (w0 : 1 ≤ w ∧ w ≤ 8) (x0 : 0 ≤ x ∧ x ≤ 200) (v0 : 0 ≤ v ∧ v ≤ 8) (t0 : 0 ≤ t ∧ t ≤ 3)  : ∀ (f : Nat) (i : Nat) (z9 c : Int) (h9 : Nat → Option kC) (A9 : Nat → Int) (t9 : Int) (e10 : Option Value), z9 = (i : Int) → (i : Int) ≤ v → v - (i : Int) ≤ f → rKI G h9 Z → rBk G h9 94 95 96 A9 E t9 → (∀ j, j < 91 ∨ 96 < j → h9 j = h j) → c = ksum (fun i => kof1 Z E (u + i) m w x t) i → kE G mX9_offBy (d + 6) 0 0 14 [some (.ref (gB G + 0)), some (.ref (gB G + b)), some (.int (jI u)), some (.int (jI m)), some (.int (jI w)), some (.int (jI x)), some (.int (jI v)), some (.int (jI t)), some (.int (jI c)), some (.int (jI z9)), e10] [] h9 n (kQw G h n (.int (jI (kofs Z E u m w x t v.toNat))) Z) := by
  have okn := ok.1
  intro f
  induction f with
  | zero =>
    intro i z9 c h9 A9 t9 e10 g1 g2 g3 g4 g5 g6 g7
    refine e_iload rfl dX9_offBy_14 ?_
    refine e_iload rfl dX9_offBy_16 ?_
    refine e_icmp_ge (tgt := 85) dX9_offBy_18 (by decide) (by first | assumption | (unfold inI at *; omega)) (by first | assumption | (unfold inI at *; omega)) (fun c18 => ?_) (fun c18 => ?_)
    · refine e_iload rfl dX9_offBy_85 ?_
      refine e_ireturn dX9_offBy_87 rfl rfl ?_
      exact ⟨by rw [g7, show i = v.toNat by omega]; rfl, g4, g6, rfl⟩
    · exact absurd c18 (by omega)
  | succ f ih =>
    intro i z9 c h9 A9 t9 e10 g1 g2 g3 g4 g5 g6 g7
    subst g1
    obtain ⟨⟨z0, ⟨f0, z28, z28f⟩, zu⟩, zp, zn, zi, zk, ⟨q, zq⟩, ⟨P, zP⟩, ⟨s, zs⟩, _⟩ := id g4
    have zn1 := zn.1.1
    have zm1 := g5.1
    have q6 := kof1_in okn (E := E) (m := m) (w := w) (s := u + (i : Int)) (x := x) (t := t) (by omega) (by omega) (by omega) (by omega) (by omega) (by omega)
    have q5 := kofs_in okn (E := E) (m := m) (w := w) (u := u) (x := x) (t := t) (by omega) (by omega) (by omega) (by omega) (by omega) (by omega) (show i ≤ 8 by omega)
    unfold kofs at q5
    rw [← g7] at q5
    refine e_iload rfl dX9_offBy_14 ?_
    refine e_iload rfl dX9_offBy_16 ?_
    refine e_icmp_ge (tgt := 85) dX9_offBy_18 (by decide) (by first | assumption | (unfold inI at *; omega)) (by first | assumption | (unfold inI at *; omega)) (fun c18 => ?_) (fun c18 => ?_)
    · refine e_iload rfl dX9_offBy_85 ?_
      refine e_ireturn dX9_offBy_87 rfl rfl ?_
      exact ⟨by rw [g7, show i = v.toNat by omega]; rfl, g4, g6, rfl⟩
    · refine e_aload_n rfl dX9_offBy_21 ?_
      refine e_getf fdX9_50 dX9_offBy_22 z0 rfl ?_
      refine e_aload_n rfl dX9_offBy_25 ?_
      refine e_getf fdX9_57 dX9_offBy_26 (by first | assumption | exact kup_s | exact kup_n (by omega) (by first | assumption | exact kup_s | exact kup_n (by omega) (by first | assumption | exact kup_s | exact kup_n (by omega) (by assumption)))) rfl ?_
      refine e_aload_n rfl dX9_offBy_29 ?_
      refine e_getf fdX9_19 dX9_offBy_30 (by first | assumption | exact kup_s | exact kup_n (by omega) (by first | assumption | exact kup_s | exact kup_n (by omega) (by first | assumption | exact kup_s | exact kup_n (by omega) (by assumption)))) rfl ?_
      refine e_iload_n rfl dX9_offBy_33 ?_
      refine e_iload rfl dX9_offBy_34 ?_
      refine e_iadd dX9_offBy_36 ?_
      refine e_iload_n rfl dX9_offBy_37 ?_
      refine e_iload rfl dX9_offBy_38 ?_
      refine e_iload rfl dX9_offBy_40 ?_
      refine eV6 mtX4_fill miX4_fill lkX9_264 dX9_offBy_42 zs rfl rfl rfl (k_fillM zn.1 zu okn zs g5 qe (by omega) (by omega) (by omega) (by omega) (by omega) (by omega) (by omega) (by omega) (by omega) (by omega)) ?_
      dsimp only [Option.toList, List.cons_append, List.nil_append]
      have qA := kmk_ok okn (E := E) (m := m) (w := w) (s := u + (i : Int)) (x := x) (by omega) (by omega) (by omega) (by omega)
      have tA := kA_sum qA
      have zz := rKI_kf9 (s := (kmk (hW (cN Z)) (kln E (hR (cN Z))) m w (u + (i : Int)) x.toNat).2) (A := (kmk (hW (cN Z)) (kln E (hR (cN Z))) m w (u + (i : Int)) x.toNat).1) g4 g5.2.2
      have zz0 := zz.1.1.1
      have q4 : kof1 Z E (u + (i : Int)) m w x t = if ksum (kmk (hW (cN Z)) (kln E (hR (cN Z))) m w (u + (i : Int)) x.toNat).1 64 = 0 then 63 else kab (kund Z (kmk (hW (cN Z)) (kln E (hR (cN Z))) m w (u + (i : Int)) x.toNat).1 E w t - m) := rfl
      have q3 := kund_in (Z := Z) (E := E) (w := w) (t := t) qA
      have hh : ∀ j, j < 91 ∨ 96 < j → kfh G h9 94 (kmk (hW (cN Z)) (kln E (hR (cN Z))) m w (u + (i : Int)) x.toNat).2 (kmk (hW (cN Z)) (kln E (hR (cN Z))) m w (u + (i : Int)) x.toNat).1 j = h j := fun j hj => by unfold kfh; rw [kup_o (by omega), kup_o (by omega), kup_o (by omega)]; exact g6 j hj
      refine e_istore dX9_offBy_45 rfl rfl ?_
      dsimp only [List.set]
      refine e_iload rfl dX9_offBy_47 ?_
      refine e_iload rfl dX9_offBy_49 ?_
      refine e_if_ne (tgt := 59) dX9_offBy_51 (by decide) (by first | assumption | (unfold inI at *; omega)) (fun c51 => ?_) (fun c51 => ?_)
      · refine e_aload_n rfl dX9_offBy_59 ?_
        refine e_aload_n rfl dX9_offBy_60 ?_
        refine e_getf fdX9_57 dX9_offBy_61 zz0 rfl ?_
        refine e_iload rfl dX9_offBy_64 ?_
        refine e_iload rfl dX9_offBy_66 ?_
        refine eV3R mtX9_undone miX9_undone lkX9_288 dX9_offBy_68 zz0 rfl rfl rfl (k_undone g zz.1 ok zz.2 qA qe (by omega) (by omega) (by omega) (by omega)) (fun r68 h68 n68 hp68 => ?_)
        obtain ⟨hr8, z8, hh8, hn8⟩ := hp68
        subst hr8
        subst hn8
        dsimp only [Option.toList, List.cons_append, List.nil_append]
        refine e_iload_n rfl dX9_offBy_71 ?_
        refine e_isub dX9_offBy_72 ?_
        refine e_mabs (by first | assumption | (unfold inI at *; omega)) lkX9_292 dX9_offBy_73 rfl ?_
        rw [k_kabsi]
        refine e_iadd dX9_offBy_76 ?_
        refine e_istore dX9_offBy_77 rfl rfl ?_
        dsimp only [List.set]
        refine e_iinc dX9_offBy_79 rfl rfl ?_
        dsimp only [List.set]
        refine e_goto (tgt := 14) dX9_offBy_82 (by decide) ?_
        first
        | (rw [if_pos (by assumption)] at q4; exact ih (i + 1) _ _ _ _ _ _ (by omega) (by omega) (by omega) zz.1 zz.2 hh (by rw [g7, ksum_s, q4]))
        | (rw [if_neg (by assumption)] at q4; exact ih (i + 1) _ _ _ _ _ _ (by omega) (by omega) (by omega) z8 (rBk_cg zz.2 (hh8 _ (by omega) (by omega)) (hh8 _ (by omega) (by omega)) (hh8 _ (by omega) (by omega))) (fun j hj => (hh8 j (by omega) (by omega)).trans (hh j hj)) (by rw [g7, ksum_s, q4]))
      · refine e_bipush (by decide) dX9_offBy_54 ?_
        refine e_goto (tgt := 76) dX9_offBy_56 (by decide) ?_
        refine e_iadd dX9_offBy_76 ?_
        refine e_istore dX9_offBy_77 rfl rfl ?_
        dsimp only [List.set]
        refine e_iinc dX9_offBy_79 rfl rfl ?_
        dsimp only [List.set]
        refine e_goto (tgt := 14) dX9_offBy_82 (by decide) ?_
        first
        | (rw [if_pos (by assumption)] at q4; exact ih (i + 1) _ _ _ _ _ _ (by omega) (by omega) (by omega) zz.1 zz.2 hh (by rw [g7, ksum_s, q4]))
        | (rw [if_neg (by assumption)] at q4; exact ih (i + 1) _ _ _ _ _ _ (by omega) (by omega) (by omega) z8 (rBk_cg zz.2 (hh8 _ (by omega) (by omega)) (hh8 _ (by omega) (by omega)) (hh8 _ (by omega) (by omega))) (fun j hj => (hh8 j (by omega) (by omega)).trans (hh j hj)) (by rw [g7, ksum_s, q4]))
set_option maxHeartbeats 4000000 in
set_option maxRecDepth 100000 in
theorem k_offBy {G : kG} {d : Nat} {h : Nat → Option kC} {n : Nat} {Z : kCs} (g : rSt G) (z : rKI G h Z) (ok : kCok Z) {b : Nat} {A : Nat → Int} {t8 : Int} {E : Nat → Int} (qe : kEok E) {u m w x v t : Int} (u0 : 0 ≤ u ∧ u ≤ 9999) (m0 : 0 ≤ m ∧ m ≤ 63) (w0 : 1 ≤ w ∧ w ≤ 8) (x0 : 0 ≤ x ∧ x ≤ 200) (v0 : 0 ≤ v ∧ v ≤ 8) (t0 : 0 ≤ t ∧ t ≤ 3) (rb : rBk G h b (b + 1) (b + 2) A E t8) : kCall G mX9_offBy (d + 6) 0 0 [.ref (gB G + 0), .ref (gB G + b), .int (jI u), .int (jI m), .int (jI w), .int (jI x), .int (jI v), .int (jI t)] h n (kQw G h n (.int (jI (kofs Z E u m w x t v.toNat))) Z) := by
  show kE G mX9_offBy (d + 6) 0 0 0 [some (.ref (gB G + 0)), some (.ref (gB G + b)), some (.int (jI u)), some (.int (jI m)), some (.int (jI w)), some (.int (jI x)), some (.int (jI v)), some (.int (jI t)), none, none, none] [] h n _
  obtain ⟨⟨z0, ⟨f0, z28, z28f⟩, zu⟩, zp, zn, zi, zk, ⟨q, zq⟩, ⟨P, zP⟩, ⟨s, zs⟩, A9, E9, t9, zt⟩ := id z
  have zp1 := zp.1
  have zn1 := zn.1.1
  have zu1 := zu.1
  obtain ⟨okn, ⟨p0, p1, p2⟩, oki, okk⟩ := id ok
  have rb1 := rb.1
  have zt1 := zt.1
  refine e_aload_n rfl dX9_offBy_0 ?_
  refine e_getf fdX9_57 dX9_offBy_1 (by first | assumption | exact kup_s | exact kup_n (by omega) (by first | assumption | exact kup_s | exact kup_n (by omega) (by first | assumption | exact kup_s | exact kup_n (by omega) (by assumption)))) rfl ?_
  refine e_aload_n rfl dX9_offBy_4 ?_
  refine eV1 mtX0_copyEntries miX0_copyEntries lkX9_284 dX9_offBy_5 zt1 rfl rfl rfl (k_copyEntries zt rb) ?_
  dsimp only [Option.toList, List.cons_append, List.nil_append]
  refine e_iconst dX9_offBy_8 ?_
  refine e_istore dX9_offBy_9 rfl rfl ?_
  dsimp only [List.set]
  refine e_iconst dX9_offBy_11 ?_
  refine e_istore dX9_offBy_12 rfl rfl ?_
  dsimp only [List.set]
  exact k_offBy_lp g ok qe u0 m0 w0 x0 v0 t0 100 0 0 0 _ A9 t9 _ (by omega) (by omega) (by omega) (rKI_wk z (fun j hj => kup_o (by omega)) ⟨⟨q, kup_n (by omega) zq⟩, ⟨P, kup_n (by omega) zP⟩, ⟨s, kup_n (by omega) zs⟩, A9, E, t9, kup_n (by omega) zt.1, kup_n (by omega) zt.2.1, kup_s⟩) ⟨kup_n (by omega) zt.1, kup_n (by omega) zt.2.1, kup_s⟩ (fun j hj => kup_o (by omega)) rfl
set_option maxHeartbeats 4000000 in
set_option maxRecDepth 100000 in
theorem k_offN {G : kG} {d : Nat} {h : Nat → Option kC} {n : Nat} {Z : kCs} (g : rSt G) (z : rKI G h Z) (ok : kCok Z) {b : Int} (hb : inI b) (hbn : ¬ (0 ≤ b ∧ b ≤ 5)) {u : Int} (hu : inI u) {m : Int} (hm : inI m) {w : Int} (hw : inI w) {x : Int} (hx : inI x) {v : Int} (hv : inI v) {t : Int} (ht : inI t) : kCall G mX9_off (d + 7) 0 0 [.ref (gB G + 0), .int (jI b), .int (jI u), .int (jI m), .int (jI w), .int (jI x), .int (jI v), .int (jI t)] h n (kQc G h n (.int (jI (a_off Z b u m w x v t))) (Z)) := by
  show kE G mX9_off (d + 7) 0 0 0 [some (.ref (gB G + 0)), some (.int (jI b)), some (.int (jI u)), some (.int (jI m)), some (.int (jI w)), some (.int (jI x)), some (.int (jI v)), some (.int (jI t)), none] [] h n _
  obtain ⟨⟨z0, ⟨f0, z28, z28f⟩, zu⟩, zp, zn, zi, zk, ⟨q, zq⟩, ⟨P, zP⟩, ⟨s, zs⟩, A9, E9, t9, zt⟩ := id z
  have zp1 := zp.1
  have zn1 := zn.1.1
  have zu1 := zu.1
  obtain ⟨okn, ⟨p0, p1, p2⟩, oki, okk⟩ := id ok
  refine e_aload_n rfl dX9_off_0 ?_
  refine e_getf fdX9_19 dX9_off_1 (by first | assumption | exact kup_s | exact kup_n (by omega) (by first | assumption | exact kup_s | exact kup_n (by omega) (by first | assumption | exact kup_s | exact kup_n (by omega) (by assumption)))) rfl ?_
  refine e_iload_n rfl dX9_off_4 ?_
  refine eV1 mtX2_bookAt miX2_bookAt lkX9_61 dX9_off_5 (by first | assumption | exact kup_s | exact kup_n (by omega) (by first | assumption | exact kup_s | exact kup_n (by omega) (by first | assumption | exact kup_s | exact kup_n (by omega) (by assumption)))) rfl rfl rfl (k_bookAtN zn.1 (by assumption) (by assumption)) ?_
  dsimp only [Option.toList, List.cons_append, List.nil_append]
  refine e_astoreN dX9_off_8 rfl rfl ?_
  dsimp only [List.set]
  refine e_aloadN rfl dX9_off_10 ?_
  refine e_ifnonnullN dX9_off_12 ?_
  refine e_iconst dX9_off_15 ?_
  refine e_ireturn dX9_off_16 rfl rfl ?_
  exact kQc_0 (by unfold a_off; (repeat' split) <;> first | rfl | (exfalso; omega)) z
set_option maxHeartbeats 4000000 in
set_option maxRecDepth 100000 in
theorem k_offY {G : kG} {d : Nat} {h : Nat → Option kC} {n : Nat} {Z : kCs} (g : rSt G) (z : rKI G h Z) (ok : kCok Z) {b : Int} (hb : inI b) (hby : 0 ≤ b ∧ b ≤ 5) {u : Int} (hu : inI u) {m : Int} (hm : inI m) {w : Int} (hw : inI w) {x : Int} (hx : inI x) {v : Int} (hv : inI v) {t : Int} (ht : inI t) : kCall G mX9_off (d + 7) 0 0 [.ref (gB G + 0), .int (jI b), .int (jI u), .int (jI m), .int (jI w), .int (jI x), .int (jI v), .int (jI t)] h n (kQc G h n (.int (jI (a_off Z b u m w x v t))) (Z)) := by
  show kE G mX9_off (d + 7) 0 0 0 [some (.ref (gB G + 0)), some (.int (jI b)), some (.int (jI u)), some (.int (jI m)), some (.int (jI w)), some (.int (jI x)), some (.int (jI v)), some (.int (jI t)), none] [] h n _
  obtain ⟨⟨z0, ⟨f0, z28, z28f⟩, zu⟩, zp, zn, zi, zk, ⟨q, zq⟩, ⟨P, zP⟩, ⟨s, zs⟩, A9, E9, t9, zt⟩ := id z
  have zp1 := zp.1
  have zn1 := zn.1.1
  have zu1 := zu.1
  obtain ⟨okn, ⟨p0, p1, p2⟩, oki, okk⟩ := id ok
  have zb := rHd_b zn (i := b.toNat) (by omega)
  have zb1 := zb.1
  have za := okn.1 b.toNat (by omega)
  have ze := okn.2.1 b.toNat (by omega)
  have zA := kA_sum za
  obtain ⟨⟨y00, y01⟩, ⟨y10, y11⟩, ⟨y20, y21⟩⟩ := id ze
  refine e_aload_n rfl dX9_off_0 ?_
  refine e_getf fdX9_19 dX9_off_1 (by first | assumption | exact kup_s | exact kup_n (by omega) (by first | assumption | exact kup_s | exact kup_n (by omega) (by first | assumption | exact kup_s | exact kup_n (by omega) (by assumption)))) rfl ?_
  refine e_iload_n rfl dX9_off_4 ?_
  refine eV1 mtX2_bookAt miX2_bookAt lkX9_61 dX9_off_5 (by first | assumption | exact kup_s | exact kup_n (by omega) (by first | assumption | exact kup_s | exact kup_n (by omega) (by first | assumption | exact kup_s | exact kup_n (by omega) (by assumption)))) rfl rfl rfl (k_bookAt zn.1 (by omega) (by omega)) ?_
  dsimp only [Option.toList, List.cons_append, List.nil_append]
  refine e_astore dX9_off_8 rfl rfl ?_
  dsimp only [List.set]
  refine e_aload rfl dX9_off_10 ?_
  refine e_ifnonnull (tgt := 17) dX9_off_12 (by decide) ?_
  refine e_iload_n rfl dX9_off_17 ?_
  refine e_iload_n rfl dX9_off_18 ?_
  refine e_iload rfl dX9_off_19 ?_
  refine e_iload rfl dX9_off_21 ?_
  refine eS4 mtX9_isWorld msX9_isWorld lkX9_261 dX9_off_23 rfl rfl (k_isWorld (by first | assumption | (unfold inI at *; omega)) (by first | assumption | (unfold inI at *; omega)) (by first | assumption | (unfold inI at *; omega)) (by first | assumption | (unfold inI at *; omega))) ?_
  dsimp only [Option.toList, List.cons_append, List.nil_append]
  refine e_ifeqP (tgt := 50) dX9_off_26 (by decide) (fun c26 => ?_) (fun c26 => ?_)
  · refine e_bipush (by decide) dX9_off_50 ?_
    refine e_ireturn dX9_off_52 rfl rfl ?_
    exact kQc_0 (by unfold a_off; (repeat' split) <;> first | rfl | (exfalso; omega)) z
  · refine e_iload rfl dX9_off_29 ?_
    refine e_iconst dX9_off_31 ?_
    refine e_bipush (by decide) dX9_off_32 ?_
    refine eS3 mtX9_within msX9_within lkX9_69 dX9_off_34 rfl rfl (k_within (by first | assumption | (unfold inI at *; omega)) (by first | assumption | (unfold inI at *; omega)) (by first | assumption | (unfold inI at *; omega))) ?_
    dsimp only [Option.toList, List.cons_append, List.nil_append]
    refine e_ifeqP (tgt := 50) dX9_off_37 (by decide) (fun c37 => ?_) (fun c37 => ?_)
    · refine e_bipush (by decide) dX9_off_50 ?_
      refine e_ireturn dX9_off_52 rfl rfl ?_
      exact kQc_0 (by unfold a_off; (repeat' split) <;> first | rfl | (exfalso; omega)) z
    · refine e_iload rfl dX9_off_40 ?_
      refine e_iconst dX9_off_42 ?_
      refine e_iconst dX9_off_43 ?_
      refine eS3 mtX9_within msX9_within lkX9_69 dX9_off_44 rfl rfl (k_within (by first | assumption | (unfold inI at *; omega)) (by first | assumption | (unfold inI at *; omega)) (by first | assumption | (unfold inI at *; omega))) ?_
      dsimp only [Option.toList, List.cons_append, List.nil_append]
      refine e_ifneP (tgt := 53) dX9_off_47 (by decide) (fun c47 => ?_) (fun c47 => ?_)
      · refine e_aload_n rfl dX9_off_53 ?_
        refine e_aload rfl dX9_off_54 ?_
        refine e_iload_n rfl dX9_off_56 ?_
        refine e_iload_n rfl dX9_off_57 ?_
        refine e_iload rfl dX9_off_58 ?_
        refine e_iload rfl dX9_off_60 ?_
        refine e_iload rfl dX9_off_62 ?_
        refine e_iload rfl dX9_off_64 ?_
        refine eV7R mtX9_offBy miX9_offBy lkX9_268 dX9_off_66 z0 rfl rfl rfl (k_offBy g z ok ze (by omega) (by omega) (by omega) (by omega) (by omega) (by omega) zb) (fun r66 h66 n66 hp66 => ?_)
        obtain ⟨hr8, z8, hh8, hn8⟩ := hp66
        subst hr8
        subst hn8
        dsimp only [Option.toList, List.cons_append, List.nil_append]
        refine e_ireturn dX9_off_69 rfl rfl ?_
        refine ⟨by unfold a_off; rw [if_neg (by omega), if_pos (by omega)], z8, fun j h1 _ => hh8 j (by omega), by omega⟩
      · refine e_bipush (by decide) dX9_off_50 ?_
        refine e_ireturn dX9_off_52 rfl rfl ?_
        exact kQc_0 (by unfold a_off; (repeat' split) <;> first | rfl | (exfalso; omega)) z
theorem k_off {G : kG} {d : Nat} {h : Nat → Option kC} {n : Nat} {Z : kCs} (g : rSt G) (z : rKI G h Z) (ok : kCok Z) {b : Int} (hb : inI b)  {u : Int} (hu : inI u) {m : Int} (hm : inI m) {w : Int} (hw : inI w) {x : Int} (hx : inI x) {v : Int} (hv : inI v) {t : Int} (ht : inI t) : kCall G mX9_off (d + 7) 0 0 [.ref (gB G + 0), .int (jI b), .int (jI u), .int (jI m), .int (jI w), .int (jI x), .int (jI v), .int (jI t)] h n (kQc G h n (.int (jI (a_off Z b u m w x v t))) (Z)) := by
  by_cases c9 : 0 ≤ b ∧ b ≤ 5
  · exact k_offY g z ok hb c9 hu hm hw hx hv ht
  · exact k_offN g z ok hb c9 hu hm hw hx hv ht
set_option maxHeartbeats 4000000 in
set_option maxRecDepth 100000 in
theorem k_best_lp {G : kG} {d : Nat} {h : Nat → Option kC} {n : Nat} {Z : kCs} (g : rSt G) (ok : kCok Z) {b u m w x v : Int} (hby : 0 ≤ b ∧ b ≤ 5) (u0 : 0 ≤ u ∧ u ≤ 9999) (m0 : 0 ≤ m ∧ m ≤ 63) (w0 : 1 ≤ w ∧ w ≤ 8) (x0 : 0 ≤ x ∧ x ≤ 200) (v0 : 0 ≤ v ∧ v ≤ 8)  : ∀ (f : Nat) (i : Nat) (z9 : Int) (h9 : Nat → Option kC) (e11 : Option Value), z9 = (i : Int) → 1 ≤ i ∧ i ≤ 4 → 4 - (i : Int) ≤ f → rKI G h9 Z → (∀ j, j < 91 ∨ 96 < j → h9 j = h j) → kE G mX9_best (d + 7) 0 0 66 [some (.ref (gB G + 0)), some (.int (jI b)), some (.int (jI u)), some (.int (jI m)), some (.int (jI w)), some (.int (jI x)), some (.int (jI v)), some (.ref (gB G + (3 + 7 + 3 * b.toNat))), some (.int (jI (kbr (kof0 Z (hE (cN Z) b.toNat) u m w x v) (i - 1)))), some (.int (jI ((kof0 Z (hE (cN Z) b.toNat) u m w x v) (kbr (kof0 Z (hE (cN Z) b.toNat) u m w x v) (i - 1)).toNat))), some (.int (jI z9)), e11] [] h9 n (kQw G h n (.int (jI (kbr (kof0 Z (hE (cN Z) b.toNat) u m w x v) 3))) Z) := by
  have okn := ok.1
  intro f
  induction f with
  | zero =>
    intro i z9 h9 e11 g1 g2 g3 g4 g5
    refine e_iload rfl dX9_best_66 ?_
    refine e_iconst dX9_best_68 ?_
    refine e_icmp_ge (tgt := 111) dX9_best_69 (by decide) (by first | assumption | (unfold inI at *; omega)) (by first | assumption | (unfold inI at *; omega)) (fun c69 => ?_) (fun c69 => ?_)
    · refine e_iload rfl dX9_best_111 ?_
      refine e_ireturn dX9_best_113 rfl rfl ?_
      exact ⟨by rw [show (3 : Nat) = i - 1 by omega], g4, g5, rfl⟩
    · exact absurd c69 (by omega)
  | succ f ih =>
    intro i z9 h9 e11 g1 g2 g3 g4 g5
    subst g1
    have z0 := g4.1.1
    have ze := okn.2.1 b.toNat (by omega)
    have q7 := kbr_in (kof0 Z (hE (cN Z) b.toNat) u m w x v) (i - 1)
    have q6 := fun t => kofs_in okn (E := hE (cN Z) b.toNat) (m := m) (w := w) (u := u) (x := x) (t := t) (by omega) (by omega) (by omega) (by omega) (by omega) (by omega) (show v.toNat ≤ 8 by omega)
    have q5 := q6 (i : Int)
    have q4 : 0 ≤ (kof0 Z (hE (cN Z) b.toNat) u m w x v) (kbr (kof0 Z (hE (cN Z) b.toNat) u m w x v) (i - 1)).toNat ∧ (kof0 Z (hE (cN Z) b.toNat) u m w x v) (kbr (kof0 Z (hE (cN Z) b.toNat) u m w x v) (i - 1)).toNat ≤ 40000000 := q6 _
    have q3 : kbr (kof0 Z (hE (cN Z) b.toNat) u m w x v) i = if (kof0 Z (hE (cN Z) b.toNat) u m w x v) i < (kof0 Z (hE (cN Z) b.toNat) u m w x v) (kbr (kof0 Z (hE (cN Z) b.toNat) u m w x v) (i - 1)).toNat then (i : Int) else kbr (kof0 Z (hE (cN Z) b.toNat) u m w x v) (i - 1) := by
      obtain ⟨k, rfl⟩ : ∃ k, i = k + 1 := ⟨i - 1, by omega⟩
      rfl
    have q2 : (kof0 Z (hE (cN Z) b.toNat) u m w x v) i = kofs Z (hE (cN Z) b.toNat) u m w x (i : Int) v.toNat := rfl
    rw [← q2] at q5
    refine e_iload rfl dX9_best_66 ?_
    refine e_iconst dX9_best_68 ?_
    refine e_icmp_ge (tgt := 111) dX9_best_69 (by decide) (by first | assumption | (unfold inI at *; omega)) (by first | assumption | (unfold inI at *; omega)) (fun c69 => ?_) (fun c69 => ?_)
    · refine e_iload rfl dX9_best_111 ?_
      refine e_ireturn dX9_best_113 rfl rfl ?_
      exact ⟨by rw [show (3 : Nat) = i - 1 by omega], g4, g5, rfl⟩
    · refine e_aload_n rfl dX9_best_72 ?_
      refine e_aload rfl dX9_best_73 ?_
      refine e_iload_n rfl dX9_best_75 ?_
      refine e_iload_n rfl dX9_best_76 ?_
      refine e_iload rfl dX9_best_77 ?_
      refine e_iload rfl dX9_best_79 ?_
      refine e_iload rfl dX9_best_81 ?_
      refine e_iload rfl dX9_best_83 ?_
      refine eV7R mtX9_offBy miX9_offBy lkX9_268 dX9_best_85 z0 rfl rfl rfl (k_offBy g g4 ok ze (by omega) (by omega) (by omega) (by omega) (by omega) (by omega) (rHd_b g4.2.2.1 (i := b.toNat) (by omega))) (fun r85 h85 n85 hp85 => ?_)
      obtain ⟨hr8, z8, hh8, hn8⟩ := hp85
      subst hr8
      subst hn8
      rw [← q2]
      dsimp only [Option.toList, List.cons_append, List.nil_append]
      refine e_istore dX9_best_88 rfl rfl ?_
      dsimp only [List.set]
      refine e_iload rfl dX9_best_90 ?_
      refine e_iload rfl dX9_best_92 ?_
      refine e_icmp_ge (tgt := 105) dX9_best_94 (by decide) (by unfold inI; omega) (by unfold inI; omega) (fun c94 => ?_) (fun c94 => ?_)
      · refine e_iinc dX9_best_105 rfl rfl ?_
        dsimp only [List.set]
        refine e_goto (tgt := 66) dX9_best_108 (by decide) ?_
        have q1 := ih (i + 1) ((i : Int) + 1) h85 (some (.int (jI (kof0 Z (hE (cN Z) b.toNat) u m w x v i)))) (by omega) (by omega) (by omega) z8 (fun j hj => (hh8 j hj).trans (g5 j hj))
        rw [show i + 1 - 1 = i by omega, q3] at q1
        first
        | (rw [if_pos (by omega), Int.toNat_natCast] at q1; exact q1)
        | (rw [if_neg (by omega)] at q1; exact q1)
      · refine e_iload rfl dX9_best_97 ?_
        refine e_istore dX9_best_99 rfl rfl ?_
        dsimp only [List.set]
        refine e_iload rfl dX9_best_101 ?_
        refine e_istore dX9_best_103 rfl rfl ?_
        dsimp only [List.set]
        refine e_iinc dX9_best_105 rfl rfl ?_
        dsimp only [List.set]
        refine e_goto (tgt := 66) dX9_best_108 (by decide) ?_
        have q1 := ih (i + 1) ((i : Int) + 1) h85 (some (.int (jI (kof0 Z (hE (cN Z) b.toNat) u m w x v i)))) (by omega) (by omega) (by omega) z8 (fun j hj => (hh8 j hj).trans (g5 j hj))
        rw [show i + 1 - 1 = i by omega, q3] at q1
        first
        | (rw [if_pos (by omega), Int.toNat_natCast] at q1; exact q1)
        | (rw [if_neg (by omega)] at q1; exact q1)
set_option maxHeartbeats 4000000 in
set_option maxRecDepth 100000 in
theorem k_bestN {G : kG} {d : Nat} {h : Nat → Option kC} {n : Nat} {Z : kCs} (g : rSt G) (z : rKI G h Z) (ok : kCok Z) {b : Int} (hb : inI b) (hbn : ¬ (0 ≤ b ∧ b ≤ 5)) {u : Int} (hu : inI u) {m : Int} (hm : inI m) {w : Int} (hw : inI w) {x : Int} (hx : inI x) {v : Int} (hv : inI v) : kCall G mX9_best (d + 7) 0 0 [.ref (gB G + 0), .int (jI b), .int (jI u), .int (jI m), .int (jI w), .int (jI x), .int (jI v)] h n (kQc G h n (.int (jI (a_best Z b u m w x v))) (Z)) := by
  show kE G mX9_best (d + 7) 0 0 0 [some (.ref (gB G + 0)), some (.int (jI b)), some (.int (jI u)), some (.int (jI m)), some (.int (jI w)), some (.int (jI x)), some (.int (jI v)), none, none, none, none, none] [] h n _
  obtain ⟨⟨z0, ⟨f0, z28, z28f⟩, zu⟩, zp, zn, zi, zk, ⟨q, zq⟩, ⟨P, zP⟩, ⟨s, zs⟩, A9, E9, t9, zt⟩ := id z
  have zp1 := zp.1
  have zn1 := zn.1.1
  have zu1 := zu.1
  obtain ⟨okn, ⟨p0, p1, p2⟩, oki, okk⟩ := id ok
  refine e_aload_n rfl dX9_best_0 ?_
  refine e_getf fdX9_19 dX9_best_1 (by first | assumption | exact kup_s | exact kup_n (by omega) (by first | assumption | exact kup_s | exact kup_n (by omega) (by first | assumption | exact kup_s | exact kup_n (by omega) (by assumption)))) rfl ?_
  refine e_iload_n rfl dX9_best_4 ?_
  refine eV1 mtX2_bookAt miX2_bookAt lkX9_61 dX9_best_5 (by first | assumption | exact kup_s | exact kup_n (by omega) (by first | assumption | exact kup_s | exact kup_n (by omega) (by first | assumption | exact kup_s | exact kup_n (by omega) (by assumption)))) rfl rfl rfl (k_bookAtN zn.1 (by assumption) (by assumption)) ?_
  dsimp only [Option.toList, List.cons_append, List.nil_append]
  refine e_astoreN dX9_best_8 rfl rfl ?_
  dsimp only [List.set]
  refine e_aloadN rfl dX9_best_10 ?_
  refine e_ifnonnullN dX9_best_12 ?_
  refine e_iconst dX9_best_15 ?_
  refine e_ireturn dX9_best_16 rfl rfl ?_
  exact kQc_0 (by unfold a_best; (repeat' split) <;> first | rfl | (exfalso; omega)) z
set_option maxHeartbeats 4000000 in
set_option maxRecDepth 100000 in
theorem k_bestY {G : kG} {d : Nat} {h : Nat → Option kC} {n : Nat} {Z : kCs} (g : rSt G) (z : rKI G h Z) (ok : kCok Z) {b : Int} (hb : inI b) (hby : 0 ≤ b ∧ b ≤ 5) {u : Int} (hu : inI u) {m : Int} (hm : inI m) {w : Int} (hw : inI w) {x : Int} (hx : inI x) {v : Int} (hv : inI v) : kCall G mX9_best (d + 7) 0 0 [.ref (gB G + 0), .int (jI b), .int (jI u), .int (jI m), .int (jI w), .int (jI x), .int (jI v)] h n (kQc G h n (.int (jI (a_best Z b u m w x v))) (Z)) := by
  show kE G mX9_best (d + 7) 0 0 0 [some (.ref (gB G + 0)), some (.int (jI b)), some (.int (jI u)), some (.int (jI m)), some (.int (jI w)), some (.int (jI x)), some (.int (jI v)), none, none, none, none, none] [] h n _
  obtain ⟨⟨z0, ⟨f0, z28, z28f⟩, zu⟩, zp, zn, zi, zk, ⟨q, zq⟩, ⟨P, zP⟩, ⟨s, zs⟩, A9, E9, t9, zt⟩ := id z
  have zp1 := zp.1
  have zn1 := zn.1.1
  have zu1 := zu.1
  obtain ⟨okn, ⟨p0, p1, p2⟩, oki, okk⟩ := id ok
  have zb := rHd_b zn (i := b.toNat) (by omega)
  have zb1 := zb.1
  have za := okn.1 b.toNat (by omega)
  have ze := okn.2.1 b.toNat (by omega)
  have zA := kA_sum za
  obtain ⟨⟨y00, y01⟩, ⟨y10, y11⟩, ⟨y20, y21⟩⟩ := id ze
  refine e_aload_n rfl dX9_best_0 ?_
  refine e_getf fdX9_19 dX9_best_1 (by first | assumption | exact kup_s | exact kup_n (by omega) (by first | assumption | exact kup_s | exact kup_n (by omega) (by first | assumption | exact kup_s | exact kup_n (by omega) (by assumption)))) rfl ?_
  refine e_iload_n rfl dX9_best_4 ?_
  refine eV1 mtX2_bookAt miX2_bookAt lkX9_61 dX9_best_5 (by first | assumption | exact kup_s | exact kup_n (by omega) (by first | assumption | exact kup_s | exact kup_n (by omega) (by first | assumption | exact kup_s | exact kup_n (by omega) (by assumption)))) rfl rfl rfl (k_bookAt zn.1 (by omega) (by omega)) ?_
  dsimp only [Option.toList, List.cons_append, List.nil_append]
  refine e_astore dX9_best_8 rfl rfl ?_
  dsimp only [List.set]
  refine e_aload rfl dX9_best_10 ?_
  refine e_ifnonnull (tgt := 17) dX9_best_12 (by decide) ?_
  refine e_iload_n rfl dX9_best_17 ?_
  refine e_iload_n rfl dX9_best_18 ?_
  refine e_iload rfl dX9_best_19 ?_
  refine e_iload rfl dX9_best_21 ?_
  refine eS4 mtX9_isWorld msX9_isWorld lkX9_261 dX9_best_23 rfl rfl (k_isWorld (by first | assumption | (unfold inI at *; omega)) (by first | assumption | (unfold inI at *; omega)) (by first | assumption | (unfold inI at *; omega)) (by first | assumption | (unfold inI at *; omega))) ?_
  dsimp only [Option.toList, List.cons_append, List.nil_append]
  refine e_ifeqP (tgt := 40) dX9_best_26 (by decide) (fun c26 => ?_) (fun c26 => ?_)
  · refine e_bipush (by decide) dX9_best_40 ?_
    refine e_ireturn dX9_best_42 rfl rfl ?_
    exact kQc_0 (by unfold a_best; (repeat' split) <;> first | rfl | (exfalso; omega)) z
  · refine e_iload rfl dX9_best_29 ?_
    refine e_iconst dX9_best_31 ?_
    refine e_bipush (by decide) dX9_best_32 ?_
    refine eS3 mtX9_within msX9_within lkX9_69 dX9_best_34 rfl rfl (k_within (by first | assumption | (unfold inI at *; omega)) (by first | assumption | (unfold inI at *; omega)) (by first | assumption | (unfold inI at *; omega))) ?_
    dsimp only [Option.toList, List.cons_append, List.nil_append]
    refine e_ifneP (tgt := 43) dX9_best_37 (by decide) (fun c37 => ?_) (fun c37 => ?_)
    · refine e_iconst dX9_best_43 ?_
      refine e_istore dX9_best_44 rfl rfl ?_
      dsimp only [List.set]
      refine e_aload_n rfl dX9_best_46 ?_
      refine e_aload rfl dX9_best_47 ?_
      refine e_iload_n rfl dX9_best_49 ?_
      refine e_iload_n rfl dX9_best_50 ?_
      refine e_iload rfl dX9_best_51 ?_
      refine e_iload rfl dX9_best_53 ?_
      refine e_iload rfl dX9_best_55 ?_
      refine e_iconst dX9_best_57 ?_
      refine eV7R mtX9_offBy miX9_offBy lkX9_268 dX9_best_58 z0 rfl rfl rfl (k_offBy g z ok ze (by omega) (by omega) (by omega) (by omega) (by omega) (by omega) zb) (fun r58 h58 n58 hp58 => ?_)
      obtain ⟨hr8, z8, hh8, hn8⟩ := hp58
      subst hr8
      subst hn8
      dsimp only [Option.toList, List.cons_append, List.nil_append]
      refine e_istore dX9_best_61 rfl rfl ?_
      dsimp only [List.set]
      refine e_iconst dX9_best_63 ?_
      refine e_istore dX9_best_64 rfl rfl ?_
      dsimp only [List.set]
      refine kE.mono (k_best_lp g ok hby (by omega) (by omega) (by omega) (by omega) (by omega) 10 1 1 h58 none (by omega) (by omega) (by omega) z8 hh8) (fun r h' n' hq => ?_)
      obtain ⟨y1, y2, y3, y4⟩ := hq
      exact ⟨by rw [y1]; unfold a_best; rw [if_neg (by omega), if_pos (by omega)], y2, fun j h1 _ => y3 j (by omega), by omega⟩
    · refine e_bipush (by decide) dX9_best_40 ?_
      refine e_ireturn dX9_best_42 rfl rfl ?_
      exact kQc_0 (by unfold a_best; (repeat' split) <;> first | rfl | (exfalso; omega)) z
theorem k_best {G : kG} {d : Nat} {h : Nat → Option kC} {n : Nat} {Z : kCs} (g : rSt G) (z : rKI G h Z) (ok : kCok Z) {b : Int} (hb : inI b)  {u : Int} (hu : inI u) {m : Int} (hm : inI m) {w : Int} (hw : inI w) {x : Int} (hx : inI x) {v : Int} (hv : inI v) : kCall G mX9_best (d + 7) 0 0 [.ref (gB G + 0), .int (jI b), .int (jI u), .int (jI m), .int (jI w), .int (jI x), .int (jI v)] h n (kQc G h n (.int (jI (a_best Z b u m w x v))) (Z)) := by
  by_cases c9 : 0 ≤ b ∧ b ≤ 5
  · exact k_bestY g z ok hb c9 hu hm hw hx hv
  · exact k_bestN g z ok hb c9 hu hm hw hx hv
