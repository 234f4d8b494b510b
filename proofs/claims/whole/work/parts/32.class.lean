/-! THE CLASS: ITS STATE -/
/-- now, pad, IMAGES, which are kept -/
abbrev kCs : Type := kHd × (Int × (Nat → Int)) × (Nat → kHd) × (Nat → Int)
def cN (Z : kCs) : kHd := Z.1
def cP (Z : kCs) : Int × (Nat → Int) := Z.2.1
def cI (Z : kCs) : Nat → kHd := Z.2.2.1
def cK (Z : kCs) : Nat → Int := Z.2.2.2
def kPok (q : Int × (Nat → Int)) : Prop := 0 ≤ q.1 ∧ q.1 ≤ 60 ∧ (∀ j, j < 60 → 0 ≤ q.2 j ∧ q.2 j ≤ 126)
def kCok (Z : kCs) : Prop := kHok (cN Z) ∧ kPok (cP Z) ∧ (∀ i, i < 2 → kHok (cI Z i)) ∧ (∀ i, i < 2 → cK Z i = 0 ∨ cK Z i = 1)
def kMW (j : Nat) : Int := if j = 0 then 9 else if j = 1 then 9 else if j = 2 then 4 else 10
def kLE (j : Nat) : Int := if j = 1 then 14 else 0
def kFE (j : Nat) : Int := if j = 1 then 25 else 0
def kME (j : Nat) : Int := if j = 0 then 99 else if j = 1 then 40 else 2
def rSt (G : kG) : Prop := (gT G)[0]? = some (gS G 0, 5, fun j => jI (kMW j)) ∧ (gT G)[1]? = some (gS G 1, 3, fun j => jI (kFE j)) ∧ (gT G)[2]? = some (gS G 2, 3, fun j => jI (kLE j)) ∧ (gT G)[3]? = some (gS G 3, 3, fun j => jI (kME j))
def rFx (G : kG) (h : Nat → Option kC) : Prop :=
  h 0 = some (kob 7 [.ref (gB G + 1), .ref (gB G + 3), .ref (gB G + 28), .ref (gB G + 79), .ref (gB G + 80), .ref (gB G + 91), .ref (gB G + 93), .ref (gB G + 94)]) ∧ (∃ f : Nat → Option Nat, h 28 = some (kra 4 2 f) ∧ ∀ i, i < 2 → f i = some (gB G + (29 + 25 * i))) ∧ rHu G h 80 81
def rWk (G : kG) (h : Nat → Option kC) : Prop :=
  (∃ q, h 91 = some (kUn G q)) ∧ (∃ P, h 92 = some (kla 64 P)) ∧ (∃ s, h 93 = some (kMa G s)) ∧ ∃ A E t, rBk G h 94 95 96 A E t
def rKI (G : kG) (h : Nat → Option kC) (Z : kCs) : Prop :=
  rFx G h ∧ rTx G h 1 2 (cP Z).1 (cP Z).2 ∧ rHd G h 3 (cN Z) ∧ (∀ i, i < 2 → rHd G h (29 + 25 * i) (cI Z i)) ∧ h 79 = some (kza 2 (cK Z)) ∧ rWk G h
theorem rTx_cg {G : kG} {h h' : Nat → Option kC} {t s : Nat} {c : Int} {F : Nat → Int} (r : rTx G h t s c F) (h1 : h' t = h t) (h2 : h' s = h s) : rTx G h' t s c F := ⟨h1.trans r.1, h2.trans r.2⟩
theorem rBk_cg {G : kG} {h h' : Nat → Option kC} {b m e : Nat} {A E : Nat → Int} {t : Int} (r : rBk G h b m e A E t) (h1 : h' b = h b) (h2 : h' m = h m) (h3 : h' e = h e) : rBk G h' b m e A E t := ⟨h1.trans r.1, h2.trans r.2.1, h3.trans r.2.2⟩
theorem rHn_cg {G : kG} {h h' : Nat → Option kC} {a : Nat} {S : kHd} (r : rHn G h a S) (hh : ∀ j, a ≤ j → j ≤ a + 6 → h' j = h j) : rHn G h' a S := by
  obtain ⟨r1, ⟨f9, r2, r2f⟩, r3, r4, r5⟩ := r
  exact ⟨(hh _ (by omega) (by omega)).trans r1, ⟨f9, (hh _ (by omega) (by omega)).trans r2, r2f⟩, rTx_cg r3 (hh _ (by omega) (by omega)) (hh _ (by omega) (by omega)), rTx_cg r4 (hh _ (by omega) (by omega)) (hh _ (by omega) (by omega)), (hh _ (by omega) (by omega)).trans r5⟩
theorem rHd_cg {G : kG} {h h' : Nat → Option kC} {a : Nat} {S : kHd} (r : rHd G h a S) (hh : ∀ j, a ≤ j → j ≤ a + 24 → h' j = h j) : rHd G h' a S := ⟨rHn_cg r.1 (fun j h1 h2 => hh j h1 (by omega)), fun i hi => rBk_cg (r.2 i hi) (hh _ (by omega) (by omega)) (hh _ (by omega) (by omega)) (hh _ (by omega) (by omega))⟩
theorem rHu_cg {G : kG} {h h' : Nat → Option kC} {a b : Nat} (r : rHu G h a b) (h1 : h' a = h a) (hh : ∀ j, b ≤ j → j ≤ b + 9 → h' j = h j) : rHu G h' a b := ⟨h1.trans r.1, (hh _ (by omega) (by omega)).trans r.2.1, fun w hw => (hh _ (by omega) (by omega)).trans (r.2.2 w hw)⟩
theorem rFx_cg {G : kG} {h h' : Nat → Option kC} (r : rFx G h) (h1 : h' 0 = h 0) (h2 : h' 28 = h 28) (hh : ∀ j, 80 ≤ j → j ≤ 90 → h' j = h j) : rFx G h' := by
  obtain ⟨r1, ⟨f9, r2, r2f⟩, r3⟩ := r
  exact ⟨h1.trans r1, ⟨f9, h2.trans r2, r2f⟩, rHu_cg r3 (hh _ (by omega) (by omega)) (fun j q1 q2 => hh j (by omega) (by omega))⟩
theorem rWk_cg {G : kG} {h h' : Nat → Option kC} (r : rWk G h) (hh : ∀ j, 91 ≤ j → j ≤ 96 → h' j = h j) : rWk G h' := by
  obtain ⟨⟨q, r1⟩, ⟨P, r2⟩, ⟨s, r3⟩, A, E, t, r4⟩ := r
  exact ⟨⟨q, (hh _ (by omega) (by omega)).trans r1⟩, ⟨P, (hh _ (by omega) (by omega)).trans r2⟩, ⟨s, (hh _ (by omega) (by omega)).trans r3⟩, A, E, t, rBk_cg r4 (hh _ (by omega) (by omega)) (hh _ (by omega) (by omega)) (hh _ (by omega) (by omega))⟩
theorem rKI_cg {G : kG} {h h' : Nat → Option kC} {Z : kCs} (r : rKI G h Z) (hh : ∀ j, j ≤ 96 → h' j = h j) : rKI G h' Z := by
  obtain ⟨r1, r2, r3, r4, r5, r6⟩ := r
  exact ⟨rFx_cg r1 (hh _ (by omega)) (hh _ (by omega)) (fun j _ _ => hh j (by omega)), rTx_cg r2 (hh _ (by omega)) (hh _ (by omega)), rHd_cg r3 (fun j _ _ => hh j (by omega)), fun i hi => rHd_cg (r4 i hi) (fun j _ _ => hh j (by omega)), (hh _ (by omega)).trans r5, rWk_cg r6 (fun j _ _ => hh j (by omega))⟩
theorem rKI_pad {G : kG} {h h' : Nat → Option kC} {Z : kCs} {q : Int × (Nat → Int)} (r : rKI G h Z) (hh : ∀ j, j < 1 ∨ 2 < j → h' j = h j) (rn : rTx G h' 1 2 q.1 q.2) : rKI G h' (cN Z, q, Z.2.2) := by
  obtain ⟨r1, r2, r3, r4, r5, r6⟩ := r
  exact ⟨rFx_cg r1 (hh _ (by omega)) (hh _ (by omega)) (fun j _ _ => hh j (by omega)), rn, rHd_cg r3 (fun j _ _ => hh j (by omega)), fun i hi => rHd_cg (r4 i hi) (fun j _ _ => hh j (by omega)), (hh _ (by omega)).trans r5, rWk_cg r6 (fun j _ _ => hh j (by omega))⟩
theorem rKI_now {G : kG} {h h' : Nat → Option kC} {Z : kCs} {S : kHd} (r : rKI G h Z) (hh : ∀ j, j < 3 ∨ 27 < j → h' j = h j) (rn : rHd G h' 3 S) : rKI G h' (S, Z.2) := by
  obtain ⟨r1, r2, r3, r4, r5, r6⟩ := r
  exact ⟨rFx_cg r1 (hh _ (by omega)) (hh _ (by omega)) (fun j _ _ => hh j (by omega)), rTx_cg r2 (hh _ (by omega)) (hh _ (by omega)), rn, fun i hi => rHd_cg (r4 i hi) (fun j _ _ => hh j (by omega)), (hh _ (by omega)).trans r5, rWk_cg r6 (fun j _ _ => hh j (by omega))⟩
theorem rKI_wk {G : kG} {h h' : Nat → Option kC} {Z : kCs} (r : rKI G h Z) (hh : ∀ j, j < 91 ∨ 96 < j → h' j = h j) (rn : rWk G h') : rKI G h' Z := by
  obtain ⟨r1, r2, r3, r4, r5, r6⟩ := r
  exact ⟨rFx_cg r1 (hh _ (by omega)) (hh _ (by omega)) (fun j _ _ => hh j (by omega)), rTx_cg r2 (hh _ (by omega)) (hh _ (by omega)), rHd_cg r3 (fun j _ _ => hh j (by omega)), fun i hi => rHd_cg (r4 i hi) (fun j _ _ => hh j (by omega)), (hh _ (by omega)).trans r5, rn⟩
theorem rHd_b {G : kG} {h : Nat → Option kC} {a i : Nat} {S : kHd} (r : rHd G h a S) (hi : i < 6) : rBk G h (a + 7 + 3 * i) (a + 7 + 3 * i + 1) (a + 7 + 3 * i + 2) (hM S i) (hE S i) (ksum (hM S i) 64) := by
  have q := r.2 i hi
  rwa [show a + 8 + 3 * i = a + 7 + 3 * i + 1 by omega, show a + 9 + 3 * i = a + 7 + 3 * i + 2 by omega] at q
def up2 (F : Nat → Nat → Int) (i : Nat) (A : Nat → Int) : Nat → Nat → Int := fun j => if j = i then A else F j
def kSM (S : kHd) (i : Nat) (A : Nat → Int) : kHd := (up2 (hM S) i A, S.2)
def kSE (S : kHd) (i : Nat) (E : Nat → Int) : kHd := (hM S, up2 (hE S) i E, S.2.2)
def kSW (S : kHd) (W : Nat → Int) : kHd := (hM S, hE S, W, hR S, hG S)
/-- one BOOK of it told anew -/
theorem rHd_bk {G : kG} {h h' : Nat → Option kC} {a i : Nat} {S : kHd} {A E : Nat → Int} (r : rHd G h a S) (hi : i < 6) (hh : ∀ j, j < a + 7 + 3 * i ∨ a + 7 + 3 * i + 2 < j → h' j = h j) (rb : rBk G h' (a + 7 + 3 * i) (a + 7 + 3 * i + 1) (a + 7 + 3 * i + 2) A E (ksum A 64)) : rHd G h' a (up2 (hM S) i A, up2 (hE S) i E, S.2.2) := by
  refine ⟨rHn_cg (S := (up2 (hM S) i A, up2 (hE S) i E, S.2.2)) (h := h) r.1 (fun j _ _ => hh j (by omega)), fun k hk => ?_⟩
  show rBk G h' _ _ _ (up2 (hM S) i A k) (up2 (hE S) i E k) (ksum (up2 (hM S) i A k) 64)
  unfold up2
  by_cases e : k = i
  · subst e
    rw [if_pos rfl, if_pos rfl, show a + 8 + 3 * k = a + 7 + 3 * k + 1 by omega, show a + 9 + 3 * k = a + 7 + 3 * k + 2 by omega]
    exact rb
  · rw [if_neg e, if_neg e]
    exact rBk_cg (r.2 k hk) (hh _ (by omega)) (hh _ (by omega)) (hh _ (by omega))
theorem up2_id {F : Nat → Nat → Int} {i : Nat} : up2 F i (F i) = F := by
  funext j
  unfold up2
  split <;> rename_i e
  · rw [e]
  · rfl
theorem kup_o {h : Nat → Option kC} {i j : Nat} {e : kC} (hne : j ≠ i) : kup h i e j = h j := if_neg hne
/-- a call's answer and the class's state after it; the rest stays -/
def kQc (G : kG) (h : Nat → Option kC) (n : Nat) (v : Value) (Z : kCs) : kPo := fun r h' n' => r = some v ∧ rKI G h' Z ∧ (∀ j, 96 < j → j < n → h' j = h j) ∧ n ≤ n'
theorem kQc_0 {G : kG} {h : Nat → Option kC} {n : Nat} {v : Value} {Z : kCs} {r : Option Value} (hr : r = some v) (z : rKI G h Z) : kQc G h n v Z r h n := ⟨hr, z, fun _ _ _ => rfl, Nat.le_refl n⟩
def a_men (Z : kCs) (b x v : Int) : Int := if ¬ (0 ≤ b ∧ b ≤ 5) then -1 else if (0 ≤ x ∧ x ≤ 63) ∧ 0 ≤ v ∧ v ≤ 999 then hM (cN Z) b.toNat x.toNat else -2
def s_men (Z : kCs) (b x v : Int) : kCs := if (0 ≤ b ∧ b ≤ 5) ∧ (0 ≤ x ∧ x ≤ 63) ∧ 0 ≤ v ∧ v ≤ 999 then (kSM (cN Z) b.toNat (up (hM (cN Z) b.toNat) x.toNat v), Z.2) else Z
theorem s_menN {Z : kCs} {b x v : Int} (h : ¬ ((0 ≤ b ∧ b ≤ 5) ∧ (0 ≤ x ∧ x ≤ 63) ∧ 0 ≤ v ∧ v ≤ 999)) : s_men Z b x v = Z := if_neg h
set_option maxHeartbeats 4000000 in
set_option maxRecDepth 100000 in
theorem k_menN {G : kG} {d : Nat} {h : Nat → Option kC} {n : Nat} {Z : kCs} (g : rSt G) (z : rKI G h Z) (ok : kCok Z) {b : Int} (hb : inI b) (hbn : ¬ (0 ≤ b ∧ b ≤ 5)) {x v : Int} : kCall G mX9_men (d + 2) 0 0 [.ref (gB G + 0), .int (jI b), .int (jI x), .int (jI v)] h n (kQc G h n (.int (jI (a_men Z b x v))) (s_men Z b x v)) := by
  show kE G mX9_men (d + 2) 0 0 0 [some (.ref (gB G + 0)), some (.int (jI b)), some (.int (jI x)), some (.int (jI v)), none, none] [] h n _
  obtain ⟨⟨z0, ⟨f0, z28, z28f⟩, zu⟩, zp, zn, zi, zk, ⟨q, zq⟩, ⟨P, zP⟩, ⟨s, zs⟩, A9, E9, t9, zt⟩ := id z
  have zp1 := zp.1
  have zn1 := zn.1.1
  have zu1 := zu.1
  obtain ⟨okn, ⟨p0, p1, p2⟩, oki, okk⟩ := id ok
  refine e_aload_n rfl dX9_men_0 ?_
  refine e_getf fdX9_19 dX9_men_1 (by first | assumption | exact kup_s | exact kup_n (by omega) (by first | assumption | exact kup_s | exact kup_n (by omega) (by first | assumption | exact kup_s | exact kup_n (by omega) (by assumption)))) rfl ?_
  refine e_iload_n rfl dX9_men_4 ?_
  refine eV1 mtX2_bookAt miX2_bookAt lkX9_61 dX9_men_5 (by first | assumption | exact kup_s | exact kup_n (by omega) (by first | assumption | exact kup_s | exact kup_n (by omega) (by first | assumption | exact kup_s | exact kup_n (by omega) (by assumption)))) rfl rfl rfl (k_bookAtN zn.1 (by assumption) (by assumption)) ?_
  dsimp only [Option.toList, List.cons_append, List.nil_append]
  refine e_astoreN dX9_men_8 rfl rfl ?_
  dsimp only [List.set]
  refine e_aloadN rfl dX9_men_10 ?_
  refine e_ifnonnullN dX9_men_12 ?_
  refine e_iconst dX9_men_15 ?_
  refine e_ireturn dX9_men_16 rfl rfl ?_
  rw [s_menN (by omega)]
  exact kQc_0 (by unfold a_men; (repeat' split) <;> first | rfl | (exfalso; omega)) z
set_option maxHeartbeats 4000000 in
set_option maxRecDepth 100000 in
theorem k_menY {G : kG} {d : Nat} {h : Nat → Option kC} {n : Nat} {Z : kCs} (g : rSt G) (z : rKI G h Z) (ok : kCok Z) {b : Int} (hb : inI b) (hby : 0 ≤ b ∧ b ≤ 5) {x v : Int} (hx : inI x) (hv : inI v) : kCall G mX9_men (d + 3) 0 0 [.ref (gB G + 0), .int (jI b), .int (jI x), .int (jI v)] h n (kQc G h n (.int (jI (a_men Z b x v))) (s_men Z b x v)) := by
  show kE G mX9_men (d + 3) 0 0 0 [some (.ref (gB G + 0)), some (.int (jI b)), some (.int (jI x)), some (.int (jI v)), none, none] [] h n _
  obtain ⟨⟨z0, ⟨f0, z28, z28f⟩, zu⟩, zp, zn, zi, zk, ⟨q, zq⟩, ⟨P, zP⟩, ⟨s, zs⟩, A9, E9, t9, zt⟩ := id z
  have zp1 := zp.1
  have zn1 := zn.1.1
  have zu1 := zu.1
  obtain ⟨okn, ⟨p0, p1, p2⟩, oki, okk⟩ := id ok
  have zb := rHd_b zn (i := b.toNat) (by omega)
  have zb1 := zb.1
  refine e_aload_n rfl dX9_men_0 ?_
  refine e_getf fdX9_19 dX9_men_1 (by first | assumption | exact kup_s | exact kup_n (by omega) (by first | assumption | exact kup_s | exact kup_n (by omega) (by first | assumption | exact kup_s | exact kup_n (by omega) (by assumption)))) rfl ?_
  refine e_iload_n rfl dX9_men_4 ?_
  refine eV1 mtX2_bookAt miX2_bookAt lkX9_61 dX9_men_5 (by first | assumption | exact kup_s | exact kup_n (by omega) (by first | assumption | exact kup_s | exact kup_n (by omega) (by first | assumption | exact kup_s | exact kup_n (by omega) (by assumption)))) rfl rfl rfl (k_bookAt zn.1 (by omega) (by omega)) ?_
  dsimp only [Option.toList, List.cons_append, List.nil_append]
  refine e_astore dX9_men_8 rfl rfl ?_
  dsimp only [List.set]
  refine e_aload rfl dX9_men_10 ?_
  refine e_ifnonnull (tgt := 17) dX9_men_12 (by decide) ?_
  refine e_iload_n rfl dX9_men_17 ?_
  refine eS1 mtX9_isHeight msX9_isHeight lkX9_65 dX9_men_18 rfl rfl (k_isHeight (by first | assumption | (unfold inI at *; omega))) ?_
  dsimp only [Option.toList, List.cons_append, List.nil_append]
  refine e_ifeqP (tgt := 35) dX9_men_21 (by decide) (fun c21 => ?_) (fun c21 => ?_)
  · refine e_bipush (by decide) dX9_men_35 ?_
    refine e_ireturn dX9_men_37 rfl rfl ?_
    rw [s_menN (by omega)]
    exact kQc_0 (by unfold a_men; (repeat' split) <;> first | rfl | (exfalso; omega)) z
  · refine e_iload_n rfl dX9_men_24 ?_
    refine e_iconst dX9_men_25 ?_
    refine e_sipush (by decide) dX9_men_26 ?_
    refine eS3 mtX9_within msX9_within lkX9_69 dX9_men_29 rfl rfl (k_within (by first | assumption | (unfold inI at *; omega)) (by first | assumption | (unfold inI at *; omega)) (by first | assumption | (unfold inI at *; omega))) ?_
    dsimp only [Option.toList, List.cons_append, List.nil_append]
    refine e_ifneP (tgt := 38) dX9_men_32 (by decide) (fun c32 => ?_) (fun c32 => ?_)
    · refine e_aload rfl dX9_men_38 ?_
      refine e_iload_n rfl dX9_men_40 ?_
      refine eV1 mtX0_menAt miX0_menAt lkX9_73 dX9_men_41 (by first | assumption | exact kup_s | exact kup_n (by omega) (by first | assumption | exact kup_s | exact kup_n (by omega) (by first | assumption | exact kup_s | exact kup_n (by omega) (by assumption)))) rfl rfl rfl (k_menAtB zb (by omega) (by omega)) ?_
      dsimp only [Option.toList, List.cons_append, List.nil_append]
      refine e_istore dX9_men_44 rfl rfl ?_
      dsimp only [List.set]
      refine e_aload rfl dX9_men_46 ?_
      refine e_iload_n rfl dX9_men_48 ?_
      refine e_iload_n rfl dX9_men_49 ?_
      refine eV2 mtX0_put miX0_put lkX9_77 dX9_men_50 (by first | assumption | exact kup_s | exact kup_n (by omega) (by first | assumption | exact kup_s | exact kup_n (by omega) (by first | assumption | exact kup_s | exact kup_n (by omega) (by assumption)))) rfl rfl rfl (k_put zb (by omega) (by omega) (by omega)) ?_
      dsimp only [Option.toList, List.cons_append, List.nil_append]
      refine e_iload rfl dX9_men_53 ?_
      refine e_ireturn dX9_men_55 rfl rfl ?_
      refine ⟨by unfold a_men; (repeat' split) <;> first | rfl | (exfalso; omega), ?_, fun j h1 _ => by rw [kup_o (by omega), kup_o (by omega)], Nat.le_refl n⟩
      have e9 : s_men Z b x v = (kSM (cN Z) b.toNat (up (hM (cN Z) b.toNat) x.toNat v), Z.2) := if_pos ⟨hby, by omega, by omega⟩
      rw [e9]
      refine rKI_now z (fun j hj => by rw [kup_o (by omega), kup_o (by omega)]) ?_
      have q9 := rHd_bk (h' := kup (kup h (3 + 7 + 3 * b.toNat) (kob 0 [.ref (gB G + (3 + 7 + 3 * b.toNat + 1)), .ref (gB G + (3 + 7 + 3 * b.toNat + 2)), .int (jI (ksum (hM (cN Z) b.toNat) 64 + (v - hM (cN Z) b.toNat x.toNat)))])) (3 + 7 + 3 * b.toNat + 1) (kia 64 (up (hM (cN Z) b.toNat) x.toNat v))) (A := up (hM (cN Z) b.toNat) x.toNat v) (E := hE (cN Z) b.toNat) zn (i := b.toNat) (by omega) (fun j hj => by rw [kup_o (by omega), kup_o (by omega)]) ⟨kup_n (by omega) (by rw [kup_s, ksum_up (by omega), show ∀ p q r : Int, p + (r - q) = p - q + r from fun p q r => by omega]), kup_s, kup_n (by omega) (kup_n (by omega) zb.2.2)⟩
      rw [up2_id] at q9
      exact q9
    · refine e_bipush (by decide) dX9_men_35 ?_
      refine e_ireturn dX9_men_37 rfl rfl ?_
      rw [s_menN (by omega)]
      exact kQc_0 (by unfold a_men; (repeat' split) <;> first | rfl | (exfalso; omega)) z
