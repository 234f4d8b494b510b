/-! THE CLASS: ITS SEARCHES -/
theorem kuh_o9 {G : kG} {h : Nat → Option kC} {P : Nat → Int} {q : Int × Int × Int × Int × Int} {j : Nat} (h1 : j ≠ 91) (h2 : j ≠ 92) : kuh G h P q j = h j := by
  unfold kuh
  rw [kup_o h1, kup_o h2]
theorem rKI_kuh {G : kG} {h : Nat → Option kC} {Z : kCs} {P : Nat → Int} {q : Int × Int × Int × Int × Int} (z : rKI G h Z) : rKI G (kuh G h P q) Z := by
  obtain ⟨_, _, ⟨s, zs⟩, A9, E9, t9, zt⟩ := z.2.2.2.2.2
  refine rKI_wk z (fun j hj => kuh_o9 (by omega) (by omega)) ⟨⟨q, kuh_91⟩, ⟨P, kuh_92⟩, ⟨s, (kuh_o9 (by omega) (by omega)).trans zs⟩, A9, E9, t9, rBk_cg zt (kuh_o9 (by omega) (by omega)) (kuh_o9 (by omega) (by omega)) (kuh_o9 (by omega) (by omega))⟩
theorem rKI_92 {G : kG} {h : Nat → Option kC} {Z : kCs} {P : Nat → Int} (z : rKI G h Z) : rKI G (kup h 92 (kla 64 P)) Z := by
  obtain ⟨⟨q, zq⟩, _, ⟨s, zs⟩, A9, E9, t9, zt⟩ := z.2.2.2.2.2
  refine rKI_wk z (fun j hj => kup_o (by omega)) ⟨⟨q, kup_n (by omega) zq⟩, ⟨P, kup_s⟩, ⟨s, kup_n (by omega) zs⟩, A9, E9, t9, rBk_cg zt (kup_o (by omega)) (kup_o (by omega)) (kup_o (by omega))⟩
def a_misfit (Z : kCs) (b m w l : Int) : Int := if ¬ (0 ≤ b ∧ b ≤ 5) then -1 else if ((0 ≤ m ∧ m ≤ 63) ∧ 1 ≤ w ∧ w ≤ 8) ∧ 0 ≤ l ∧ l ≤ 63 then kmf (hM (cN Z) b.toNat) m w l (hW (cN Z) 0) else -2
def a_fit (Z : kCs) (b w x : Int) : Int := if ¬ (0 ≤ b ∧ b ≤ 5) then -1 else if (1 ≤ w ∧ w ≤ 8) ∧ 0 ≤ x ∧ x ≤ 1 then (if x = 0 then (kbm (kso (hM (cN Z) b.toNat) w (kln (hE (cN Z) b.toNat) (hR (cN Z))) (hW (cN Z) 0)) 64) else ((kso (hM (cN Z) b.toNat) w (kln (hE (cN Z) b.toNat) (hR (cN Z))) (hW (cN Z) 0)) (kbm (kso (hM (cN Z) b.toNat) w (kln (hE (cN Z) b.toNat) (hR (cN Z))) (hW (cN Z) 0)) 64).toNat)) else -2
def a_span (Z : kCs) (b w x e : Int) : Int := if ¬ (0 ≤ b ∧ b ≤ 5) then -1 else if (1 ≤ w ∧ w ≤ 8) ∧ (0 ≤ x ∧ x ≤ 999) ∧ 0 ≤ e ∧ e ≤ 1 then (if e = 0 then ksp (kso (hM (cN Z) b.toNat) w (kln (hE (cN Z) b.toNat) (hR (cN Z))) (hW (cN Z) 0)) (((kso (hM (cN Z) b.toNat) w (kln (hE (cN Z) b.toNat) (hR (cN Z))) (hW (cN Z) 0)) (kbm (kso (hM (cN Z) b.toNat) w (kln (hE (cN Z) b.toNat) (hR (cN Z))) (hW (cN Z) 0)) 64).toNat) + x) 64 else ksq (kso (hM (cN Z) b.toNat) w (kln (hE (cN Z) b.toNat) (hR (cN Z))) (hW (cN Z) 0)) (((kso (hM (cN Z) b.toNat) w (kln (hE (cN Z) b.toNat) (hR (cN Z))) (hW (cN Z) 0)) (kbm (kso (hM (cN Z) b.toNat) w (kln (hE (cN Z) b.toNat) (hR (cN Z))) (hW (cN Z) 0)) 64).toNat) + x) 64) else -2
def a_found (Z : kCs) (b w x : Int) : Int := if ¬ (0 ≤ b ∧ b ≤ 5) then -1 else if (1 ≤ w ∧ w ≤ 8) ∧ 0 ≤ x ∧ x ≤ 2 then (if x = 0 then kbm (ks2 (hM (cN Z) b.toNat) w (hW (cN Z) 0)) 4096 / 64 else if x = 1 then kbm (ks2 (hM (cN Z) b.toNat) w (hW (cN Z) 0)) 4096 % 64 else ks2 (hM (cN Z) b.toNat) w (hW (cN Z) 0) (kbm (ks2 (hM (cN Z) b.toNat) w (hW (cN Z) 0)) 4096).toNat) else -2
def a_right (Z : kCs) (b w p : Int) : Int := if ¬ (0 ≤ b ∧ b ≤ 5) then -1000000000000000001 else if ¬ ((1 ≤ w ∧ w ≤ 8) ∧ 0 ≤ p ∧ p ≤ 1) then -1000000000000000002 else ktl (10 * (kbm (kso (hM (cN Z) b.toNat) w (kln (hE (cN Z) b.toNat) (hR (cN Z))) (hW (cN Z) 0)) 64) + kmg (hG (cN Z)) (hW (cN Z) 4) (hE (cN Z) b.toNat 1)) 10 p
def a_beside (Z : kCs) (b c w p : Int) : Int := if ¬ ((0 ≤ b ∧ b ≤ 5) ∧ 0 ≤ c ∧ c ≤ 5) then -1000000000000000001 else if ¬ ((1 ≤ w ∧ w ≤ 8) ∧ 0 ≤ p ∧ p ≤ 1) then -1000000000000000002 else if ¬ (hE (cN Z) b.toNat 2 = 1 ∧ ¬ ksum (hM (cN Z) b.toNat) 64 = 0) then -1000000000000000003 else ktl (ksm (hM (cN Z) b.toNat) 0 - (kbm (kso (hM (cN Z) c.toNat) w (kln (hE (cN Z) c.toNat) (hR (cN Z))) (hW (cN Z) 0)) 64) * ksum (hM (cN Z) b.toNat) 64) (ksum (hM (cN Z) b.toNat) 64) p
def a_shorter (Z : kCs) (b c w x : Int) : Int := if ¬ ((0 ≤ b ∧ b ≤ 5) ∧ 0 ≤ c ∧ c ≤ 5) then -1 else if ¬ ((1 ≤ w ∧ w ≤ 8) ∧ 0 ≤ x ∧ x ≤ 999) then -2 else if ksq (kso (hM (cN Z) c.toNat) w (kln (hE (cN Z) c.toNat) (hR (cN Z))) (hW (cN Z) 0)) (((kso (hM (cN Z) c.toNat) w (kln (hE (cN Z) c.toNat) (hR (cN Z))) (hW (cN Z) 0)) (kbm (kso (hM (cN Z) c.toNat) w (kln (hE (cN Z) c.toNat) (hR (cN Z))) (hW (cN Z) 0)) 64).toNat) + x) 64 < ksp (kso (hM (cN Z) b.toNat) w (kln (hE (cN Z) b.toNat) (hR (cN Z))) (hW (cN Z) 0)) (((kso (hM (cN Z) b.toNat) w (kln (hE (cN Z) b.toNat) (hR (cN Z))) (hW (cN Z) 0)) (kbm (kso (hM (cN Z) b.toNat) w (kln (hE (cN Z) b.toNat) (hR (cN Z))) (hW (cN Z) 0)) 64).toNat) + x) 64 then 2 else if ksp (kso (hM (cN Z) c.toNat) w (kln (hE (cN Z) c.toNat) (hR (cN Z))) (hW (cN Z) 0)) (((kso (hM (cN Z) c.toNat) w (kln (hE (cN Z) c.toNat) (hR (cN Z))) (hW (cN Z) 0)) (kbm (kso (hM (cN Z) c.toNat) w (kln (hE (cN Z) c.toNat) (hR (cN Z))) (hW (cN Z) 0)) 64).toNat) + x) 64 < ksp (kso (hM (cN Z) b.toNat) w (kln (hE (cN Z) b.toNat) (hR (cN Z))) (hW (cN Z) 0)) (((kso (hM (cN Z) b.toNat) w (kln (hE (cN Z) b.toNat) (hR (cN Z))) (hW (cN Z) 0)) (kbm (kso (hM (cN Z) b.toNat) w (kln (hE (cN Z) b.toNat) (hR (cN Z))) (hW (cN Z) 0)) 64).toNat) + x) 64 then 1 else 0
set_option maxHeartbeats 4000000 in
set_option maxRecDepth 100000 in
theorem k_zseekM {G : kG} {d : Nat} {h : Nat → Option kC} {n : Nat} {Z : kCs} (g : rSt G) (z : rKI G h Z) (ok : kCok Z) {b : Nat} {A E : Nat → Int} (rb : rBk G h b (b + 1) (b + 2) A E (ksum A 64)) (hb : b + 2 < 80 ∨ 92 < b) (hA : kAok A) (qe : kEok E) {q8 : Int × Int × Int × Int × Int} {P8 : Nat → Int} (hu : h 91 = some (kUn G q8)) (hp : h 92 = some (kla 64 P8)) {w : Int} (w1 : 1 ≤ w) (w8 : w ≤ 8)  : kCall G mX9_seekMiddle (d + 4) 0 0 [.ref (gB G + 0), .ref (gB G + b), .int (jI w)] h n (kfP G h n (kln E (hR (cN Z)), kbm (kso A w (kln E (hR (cN Z))) (hW (cN Z) 0)) 64, (kso A w (kln E (hR (cN Z))) (hW (cN Z) 0)) (kbm (kso A w (kln E (hR (cN Z))) (hW (cN Z) 0)) 64).toNat, q8.2.2.2)) := by
  show kE G mX9_seekMiddle (d + 4) 0 0 0 [some (.ref (gB G + 0)), some (.ref (gB G + b)), some (.int (jI w))] [] h n _
  obtain ⟨⟨z0, ⟨f0, z28, z28f⟩, zu⟩, zp, zn, zi, zk, ⟨q, zq⟩, ⟨P, zP⟩, ⟨s, zs⟩, A9, E9, t9, zt⟩ := id z
  have zp1 := zp.1
  have zn1 := zn.1.1
  have zu1 := zu.1
  obtain ⟨okn, ⟨p0, p1, p2⟩, oki, okk⟩ := id ok
  obtain ⟨⟨w00, w01⟩, ⟨w10, w11⟩, ⟨w20, w21⟩, ⟨w30, w31⟩, ⟨w40, w41⟩⟩ := id okn.2.2.1
  have tl := kln_in (E := E) okn.2.2.2.1
  refine e_aload_n rfl dX9_seekMiddle_0 ?_
  refine e_getf fdX9_43 dX9_seekMiddle_1 (by first | assumption | exact kup_s | exact kup_n (by omega) (by first | assumption | exact kup_s | exact kup_n (by omega) (by first | assumption | exact kup_s | exact kup_n (by omega) (by assumption)))) rfl ?_
  refine e_aload_n rfl dX9_seekMiddle_4 ?_
  refine e_iload_n rfl dX9_seekMiddle_5 ?_
  refine e_aload_n rfl dX9_seekMiddle_6 ?_
  refine e_getf fdX9_19 dX9_seekMiddle_7 (by first | assumption | exact kup_s | exact kup_n (by omega) (by first | assumption | exact kup_s | exact kup_n (by omega) (by first | assumption | exact kup_s | exact kup_n (by omega) (by assumption)))) rfl ?_
  refine e_aload_n rfl dX9_seekMiddle_10 ?_
  refine eV1 mtX2_lineOf miX2_lineOf lkX9_133 dX9_seekMiddle_11 (by first | assumption | exact kup_s | exact kup_n (by omega) (by first | assumption | exact kup_s | exact kup_n (by omega) (by first | assumption | exact kup_s | exact kup_n (by omega) (by assumption)))) rfl rfl rfl (k_lineOf zn.1 okn rb qe) ?_
  dsimp only [Option.toList, List.cons_append, List.nil_append]
  refine e_aload_n rfl dX9_seekMiddle_14 ?_
  refine e_getf fdX9_19 dX9_seekMiddle_15 (by first | assumption | exact kup_s | exact kup_n (by omega) (by first | assumption | exact kup_s | exact kup_n (by omega) (by first | assumption | exact kup_s | exact kup_n (by omega) (by assumption)))) rfl ?_
  refine e_iconst dX9_seekMiddle_18 ?_
  refine eV1 mtX2_wayOf miX2_wayOf lkX9_97 dX9_seekMiddle_19 (by first | assumption | exact kup_s | exact kup_n (by omega) (by first | assumption | exact kup_s | exact kup_n (by omega) (by first | assumption | exact kup_s | exact kup_n (by omega) (by assumption)))) rfl rfl rfl (k_wayOf zn.1 (by omega) (by omega)) ?_
  dsimp only [Option.toList, List.cons_append, List.nil_append]
  rw [show (0 : Int).toNat = 0 from rfl]
  refine eV4R mtX8_seekMiddle miX8_seekMiddle lkX9_278 dX9_seekMiddle_22 hu rfl rfl rfl (k_seekMiddle hu hp zu rb hb hA w1 w8 tl.1 tl.2 (by omega) (by omega)) (fun r22 h22 n22 hp22 => ?_)
  obtain ⟨P1, rfl, rfl, rfl⟩ := hp22
  dsimp only [Option.toList, List.cons_append, List.nil_append]
  refine e_return dX9_seekMiddle_25 rfl ?_
  exact ⟨P1, rfl, rfl, rfl⟩
set_option maxHeartbeats 4000000 in
set_option maxRecDepth 100000 in
theorem k_zseekS {G : kG} {d : Nat} {h : Nat → Option kC} {n : Nat} {Z : kCs} (g : rSt G) (z : rKI G h Z) (ok : kCok Z) {b : Nat} {A E : Nat → Int} (rb : rBk G h b (b + 1) (b + 2) A E (ksum A 64)) (hb : b + 2 < 80 ∨ 92 < b) (hA : kAok A) (qe : kEok E) {q8 : Int × Int × Int × Int × Int} {P8 : Nat → Int} (hu : h 91 = some (kUn G q8)) (hp : h 92 = some (kla 64 P8)) {w : Int} (w1 : 1 ≤ w) (w8 : w ≤ 8) {x : Int} (x0 : 0 ≤ x) (x1 : x ≤ 999) : kCall G mX9_seekSpan (d + 5) 0 0 [.ref (gB G + 0), .ref (gB G + b), .int (jI w), .int (jI x)] h n (kfP G h n (kln E (hR (cN Z)), kbm (kso A w (kln E (hR (cN Z))) (hW (cN Z) 0)) 64, (kso A w (kln E (hR (cN Z))) (hW (cN Z) 0)) (kbm (kso A w (kln E (hR (cN Z))) (hW (cN Z) 0)) 64).toNat, ksp (kso A w (kln E (hR (cN Z))) (hW (cN Z) 0)) ((kso A w (kln E (hR (cN Z))) (hW (cN Z) 0)) (kbm (kso A w (kln E (hR (cN Z))) (hW (cN Z) 0)) 64).toNat + x) 64, ksq (kso A w (kln E (hR (cN Z))) (hW (cN Z) 0)) ((kso A w (kln E (hR (cN Z))) (hW (cN Z) 0)) (kbm (kso A w (kln E (hR (cN Z))) (hW (cN Z) 0)) 64).toNat + x) 64)) := by
  show kE G mX9_seekSpan (d + 5) 0 0 0 [some (.ref (gB G + 0)), some (.ref (gB G + b)), some (.int (jI w)), some (.int (jI x))] [] h n _
  obtain ⟨⟨z0, ⟨f0, z28, z28f⟩, zu⟩, zp, zn, zi, zk, ⟨q, zq⟩, ⟨P, zP⟩, ⟨s, zs⟩, A9, E9, t9, zt⟩ := id z
  have zp1 := zp.1
  have zn1 := zn.1.1
  have zu1 := zu.1
  obtain ⟨okn, ⟨p0, p1, p2⟩, oki, okk⟩ := id ok
  obtain ⟨⟨w00, w01⟩, ⟨w10, w11⟩, ⟨w20, w21⟩, ⟨w30, w31⟩, ⟨w40, w41⟩⟩ := id okn.2.2.1
  have tl := kln_in (E := E) okn.2.2.2.1
  refine e_aload_n rfl dX9_seekSpan_0 ?_
  refine e_getf fdX9_43 dX9_seekSpan_1 (by first | assumption | exact kup_s | exact kup_n (by omega) (by first | assumption | exact kup_s | exact kup_n (by omega) (by first | assumption | exact kup_s | exact kup_n (by omega) (by assumption)))) rfl ?_
  refine e_aload_n rfl dX9_seekSpan_4 ?_
  refine e_iload_n rfl dX9_seekSpan_5 ?_
  refine e_aload_n rfl dX9_seekSpan_6 ?_
  refine e_getf fdX9_19 dX9_seekSpan_7 (by first | assumption | exact kup_s | exact kup_n (by omega) (by first | assumption | exact kup_s | exact kup_n (by omega) (by first | assumption | exact kup_s | exact kup_n (by omega) (by assumption)))) rfl ?_
  refine e_aload_n rfl dX9_seekSpan_10 ?_
  refine eV1 mtX2_lineOf miX2_lineOf lkX9_133 dX9_seekSpan_11 (by first | assumption | exact kup_s | exact kup_n (by omega) (by first | assumption | exact kup_s | exact kup_n (by omega) (by first | assumption | exact kup_s | exact kup_n (by omega) (by assumption)))) rfl rfl rfl (k_lineOf zn.1 okn rb qe) ?_
  dsimp only [Option.toList, List.cons_append, List.nil_append]
  refine e_aload_n rfl dX9_seekSpan_14 ?_
  refine e_getf fdX9_19 dX9_seekSpan_15 (by first | assumption | exact kup_s | exact kup_n (by omega) (by first | assumption | exact kup_s | exact kup_n (by omega) (by first | assumption | exact kup_s | exact kup_n (by omega) (by assumption)))) rfl ?_
  refine e_iconst dX9_seekSpan_18 ?_
  refine eV1 mtX2_wayOf miX2_wayOf lkX9_97 dX9_seekSpan_19 (by first | assumption | exact kup_s | exact kup_n (by omega) (by first | assumption | exact kup_s | exact kup_n (by omega) (by first | assumption | exact kup_s | exact kup_n (by omega) (by assumption)))) rfl rfl rfl (k_wayOf zn.1 (by omega) (by omega)) ?_
  dsimp only [Option.toList, List.cons_append, List.nil_append]
  rw [show (0 : Int).toNat = 0 from rfl]
  refine e_iload_n rfl dX9_seekSpan_22 ?_
  refine eV5R mtX8_seekSpan miX8_seekSpan lkX9_281 dX9_seekSpan_23 hu rfl rfl rfl (k_seekSpan hu hp zu rb hb hA w1 w8 tl.1 tl.2 (by omega) (by omega) x0 x1) (fun r23 h23 n23 hp23 => ?_)
  obtain ⟨P1, rfl, rfl, rfl⟩ := hp23
  dsimp only [Option.toList, List.cons_append, List.nil_append]
  refine e_return dX9_seekSpan_26 rfl ?_
  exact ⟨P1, rfl, rfl, rfl⟩
set_option maxHeartbeats 4000000 in
set_option maxRecDepth 100000 in
theorem k_misfitN {G : kG} {d : Nat} {h : Nat → Option kC} {n : Nat} {Z : kCs} (g : rSt G) (z : rKI G h Z) (ok : kCok Z) {b : Int} (hb : inI b) (hbn : ¬ (0 ≤ b ∧ b ≤ 5)) {m : Int} (hm : inI m) {w : Int} (hw : inI w) {l : Int} (hl : inI l) : kCall G mX9_misfit (d + 5) 0 0 [.ref (gB G + 0), .int (jI b), .int (jI m), .int (jI w), .int (jI l)] h n (kQc G h n (.int (jI (a_misfit Z b m w l))) (Z)) := by
  show kE G mX9_misfit (d + 5) 0 0 0 [some (.ref (gB G + 0)), some (.int (jI b)), some (.int (jI m)), some (.int (jI w)), some (.int (jI l)), none] [] h n _
  obtain ⟨⟨z0, ⟨f0, z28, z28f⟩, zu⟩, zp, zn, zi, zk, ⟨q, zq⟩, ⟨P, zP⟩, ⟨s, zs⟩, A9, E9, t9, zt⟩ := id z
  have zp1 := zp.1
  have zn1 := zn.1.1
  have zu1 := zu.1
  obtain ⟨okn, ⟨p0, p1, p2⟩, oki, okk⟩ := id ok
  refine e_aload_n rfl dX9_misfit_0 ?_
  refine e_getf fdX9_19 dX9_misfit_1 (by first | assumption | exact kup_s | exact kup_n (by omega) (by first | assumption | exact kup_s | exact kup_n (by omega) (by first | assumption | exact kup_s | exact kup_n (by omega) (by assumption)))) rfl ?_
  refine e_iload_n rfl dX9_misfit_4 ?_
  refine eV1 mtX2_bookAt miX2_bookAt lkX9_61 dX9_misfit_5 (by first | assumption | exact kup_s | exact kup_n (by omega) (by first | assumption | exact kup_s | exact kup_n (by omega) (by first | assumption | exact kup_s | exact kup_n (by omega) (by assumption)))) rfl rfl rfl (k_bookAtN zn.1 (by assumption) (by assumption)) ?_
  dsimp only [Option.toList, List.cons_append, List.nil_append]
  refine e_astoreN dX9_misfit_8 rfl rfl ?_
  dsimp only [List.set]
  refine e_aloadN rfl dX9_misfit_10 ?_
  refine e_ifnonnullN dX9_misfit_12 ?_
  refine e_iconst dX9_misfit_15 ?_
  refine e_ireturn dX9_misfit_16 rfl rfl ?_
  exact kQc_0 (by unfold a_misfit; (repeat' split) <;> first | rfl | (exfalso; omega)) z
set_option maxHeartbeats 4000000 in
set_option maxRecDepth 100000 in
theorem k_misfitY {G : kG} {d : Nat} {h : Nat → Option kC} {n : Nat} {Z : kCs} (g : rSt G) (z : rKI G h Z) (ok : kCok Z) {b : Int} (hb : inI b) (hby : 0 ≤ b ∧ b ≤ 5) {m : Int} (hm : inI m) {w : Int} (hw : inI w) {l : Int} (hl : inI l) : kCall G mX9_misfit (d + 5) 0 0 [.ref (gB G + 0), .int (jI b), .int (jI m), .int (jI w), .int (jI l)] h n (kQc G h n (.int (jI (a_misfit Z b m w l))) (Z)) := by
  show kE G mX9_misfit (d + 5) 0 0 0 [some (.ref (gB G + 0)), some (.int (jI b)), some (.int (jI m)), some (.int (jI w)), some (.int (jI l)), none] [] h n _
  obtain ⟨⟨z0, ⟨f0, z28, z28f⟩, zu⟩, zp, zn, zi, zk, ⟨q, zq⟩, ⟨P, zP⟩, ⟨s, zs⟩, A9, E9, t9, zt⟩ := id z
  have zp1 := zp.1
  have zn1 := zn.1.1
  have zu1 := zu.1
  obtain ⟨okn, ⟨p0, p1, p2⟩, oki, okk⟩ := id ok
  have zb := rHd_b zn (i := b.toNat) (by omega)
  have zb1 := zb.1
  have za := okn.1 b.toNat (by omega)
  have ze := okn.2.1 b.toNat (by omega)
  have zA := kA_sum za
  obtain ⟨⟨y00, y01⟩, ⟨y10, y11⟩, ⟨y20, y21⟩⟩ := id ze
  obtain ⟨⟨w00, w01⟩, ⟨w10, w11⟩, ⟨w20, w21⟩, ⟨w30, w31⟩, ⟨w40, w41⟩⟩ := id okn.2.2.1
  refine e_aload_n rfl dX9_misfit_0 ?_
  refine e_getf fdX9_19 dX9_misfit_1 (by first | assumption | exact kup_s | exact kup_n (by omega) (by first | assumption | exact kup_s | exact kup_n (by omega) (by first | assumption | exact kup_s | exact kup_n (by omega) (by assumption)))) rfl ?_
  refine e_iload_n rfl dX9_misfit_4 ?_
  refine eV1 mtX2_bookAt miX2_bookAt lkX9_61 dX9_misfit_5 (by first | assumption | exact kup_s | exact kup_n (by omega) (by first | assumption | exact kup_s | exact kup_n (by omega) (by first | assumption | exact kup_s | exact kup_n (by omega) (by assumption)))) rfl rfl rfl (k_bookAt zn.1 (by omega) (by omega)) ?_
  dsimp only [Option.toList, List.cons_append, List.nil_append]
  refine e_astore dX9_misfit_8 rfl rfl ?_
  dsimp only [List.set]
  refine e_aload rfl dX9_misfit_10 ?_
  refine e_ifnonnull (tgt := 17) dX9_misfit_12 (by decide) ?_
  refine e_iload_n rfl dX9_misfit_17 ?_
  refine e_iload_n rfl dX9_misfit_18 ?_
  refine eS2 mtX9_isHump msX9_isHump lkX9_137 dX9_misfit_19 rfl rfl (k_isHump (by first | assumption | (unfold inI at *; omega)) (by first | assumption | (unfold inI at *; omega))) ?_
  dsimp only [Option.toList, List.cons_append, List.nil_append]
  refine e_ifeqP (tgt := 33) dX9_misfit_22 (by decide) (fun c22 => ?_) (fun c22 => ?_)
  · refine e_bipush (by decide) dX9_misfit_33 ?_
    refine e_ireturn dX9_misfit_35 rfl rfl ?_
    refine ⟨by unfold a_misfit; (repeat' split) <;> first | rfl | (exfalso; omega), ?_, ?_, Nat.le_refl _⟩
    · first | exact z | exact rKI_92 z | exact rKI_kuh z | exact rKI_kuh (rKI_kuh z)
    · first | exact fun j h1 _ => rfl | exact fun j h1 _ => kup_o (by omega) | exact fun j h1 _ => kuh_o9 (by omega) (by omega) | exact fun j h1 _ => (kuh_o9 (by omega) (by omega)).trans (kuh_o9 (by omega) (by omega))
  · refine e_iload rfl dX9_misfit_25 ?_
    refine eS1 mtX9_isHeight msX9_isHeight lkX9_65 dX9_misfit_27 rfl rfl (k_isHeight (by first | assumption | (unfold inI at *; omega))) ?_
    dsimp only [Option.toList, List.cons_append, List.nil_append]
    refine e_ifneP (tgt := 36) dX9_misfit_30 (by decide) (fun c30 => ?_) (fun c30 => ?_)
    · refine e_aload_n rfl dX9_misfit_36 ?_
      refine e_getf fdX9_43 dX9_misfit_37 (by first | assumption | exact kup_s | exact kup_n (by omega) (by first | assumption | exact kup_s | exact kup_n (by omega) (by first | assumption | exact kup_s | exact kup_n (by omega) (by assumption)))) rfl ?_
      refine e_aload rfl dX9_misfit_40 ?_
      refine e_iload_n rfl dX9_misfit_42 ?_
      refine e_iload_n rfl dX9_misfit_43 ?_
      refine e_iload rfl dX9_misfit_44 ?_
      refine e_aload_n rfl dX9_misfit_46 ?_
      refine e_getf fdX9_19 dX9_misfit_47 (by first | assumption | exact kup_s | exact kup_n (by omega) (by first | assumption | exact kup_s | exact kup_n (by omega) (by first | assumption | exact kup_s | exact kup_n (by omega) (by assumption)))) rfl ?_
      refine e_iconst dX9_misfit_50 ?_
      refine eV1 mtX2_wayOf miX2_wayOf lkX9_97 dX9_misfit_51 (by first | assumption | exact kup_s | exact kup_n (by omega) (by first | assumption | exact kup_s | exact kup_n (by omega) (by first | assumption | exact kup_s | exact kup_n (by omega) (by assumption)))) rfl rfl rfl (k_wayOf zn.1 (by omega) (by omega)) ?_
      dsimp only [Option.toList, List.cons_append, List.nil_append]
      rw [show (0 : Int).toNat = 0 from rfl]
      refine eV5R mtX8_misfitOf miX8_misfitOf lkX9_160 dX9_misfit_54 zq rfl rfl rfl (k_misfitOf zu zq zb (by omega) za zP (by omega) (by omega) (by omega) (by omega) (by omega) (by omega) (by omega) (by omega)) (fun r54 h54 n54 hp54 => ?_)
      obtain ⟨P1, rfl, rfl, rfl⟩ := hp54
      dsimp only [Option.toList, List.cons_append, List.nil_append]
      refine e_ireturn dX9_misfit_57 rfl rfl ?_
      refine ⟨by unfold a_misfit; (repeat' split) <;> first | rfl | (exfalso; omega), ?_, ?_, Nat.le_refl _⟩
      · first | exact z | exact rKI_92 z | exact rKI_kuh z | exact rKI_kuh (rKI_kuh z)
      · first | exact fun j h1 _ => rfl | exact fun j h1 _ => kup_o (by omega) | exact fun j h1 _ => kuh_o9 (by omega) (by omega) | exact fun j h1 _ => (kuh_o9 (by omega) (by omega)).trans (kuh_o9 (by omega) (by omega))
    · refine e_bipush (by decide) dX9_misfit_33 ?_
      refine e_ireturn dX9_misfit_35 rfl rfl ?_
      refine ⟨by unfold a_misfit; (repeat' split) <;> first | rfl | (exfalso; omega), ?_, ?_, Nat.le_refl _⟩
      · first | exact z | exact rKI_92 z | exact rKI_kuh z | exact rKI_kuh (rKI_kuh z)
      · first | exact fun j h1 _ => rfl | exact fun j h1 _ => kup_o (by omega) | exact fun j h1 _ => kuh_o9 (by omega) (by omega) | exact fun j h1 _ => (kuh_o9 (by omega) (by omega)).trans (kuh_o9 (by omega) (by omega))
theorem k_misfit {G : kG} {d : Nat} {h : Nat → Option kC} {n : Nat} {Z : kCs} (g : rSt G) (z : rKI G h Z) (ok : kCok Z) {b : Int} (hb : inI b)  {m : Int} (hm : inI m) {w : Int} (hw : inI w) {l : Int} (hl : inI l) : kCall G mX9_misfit (d + 5) 0 0 [.ref (gB G + 0), .int (jI b), .int (jI m), .int (jI w), .int (jI l)] h n (kQc G h n (.int (jI (a_misfit Z b m w l))) (Z)) := by
  by_cases c9 : 0 ≤ b ∧ b ≤ 5
  · exact k_misfitY g z ok hb c9 hm hw hl
  · exact k_misfitN g z ok hb c9 hm hw hl
set_option maxHeartbeats 4000000 in
set_option maxRecDepth 100000 in
theorem k_fitN {G : kG} {d : Nat} {h : Nat → Option kC} {n : Nat} {Z : kCs} (g : rSt G) (z : rKI G h Z) (ok : kCok Z) {b : Int} (hb : inI b) (hbn : ¬ (0 ≤ b ∧ b ≤ 5)) {w : Int} (hw : inI w) {x : Int} (hx : inI x) : kCall G mX9_fit (d + 5) 0 0 [.ref (gB G + 0), .int (jI b), .int (jI w), .int (jI x)] h n (kQc G h n (.int (jI (a_fit Z b w x))) (Z)) := by
  show kE G mX9_fit (d + 5) 0 0 0 [some (.ref (gB G + 0)), some (.int (jI b)), some (.int (jI w)), some (.int (jI x)), none] [] h n _
  obtain ⟨⟨z0, ⟨f0, z28, z28f⟩, zu⟩, zp, zn, zi, zk, ⟨q, zq⟩, ⟨P, zP⟩, ⟨s, zs⟩, A9, E9, t9, zt⟩ := id z
  have zp1 := zp.1
  have zn1 := zn.1.1
  have zu1 := zu.1
  obtain ⟨okn, ⟨p0, p1, p2⟩, oki, okk⟩ := id ok
  refine e_aload_n rfl dX9_fit_0 ?_
  refine e_getf fdX9_19 dX9_fit_1 (by first | assumption | exact kup_s | exact kup_n (by omega) (by first | assumption | exact kup_s | exact kup_n (by omega) (by first | assumption | exact kup_s | exact kup_n (by omega) (by assumption)))) rfl ?_
  refine e_iload_n rfl dX9_fit_4 ?_
  refine eV1 mtX2_bookAt miX2_bookAt lkX9_61 dX9_fit_5 (by first | assumption | exact kup_s | exact kup_n (by omega) (by first | assumption | exact kup_s | exact kup_n (by omega) (by first | assumption | exact kup_s | exact kup_n (by omega) (by assumption)))) rfl rfl rfl (k_bookAtN zn.1 (by assumption) (by assumption)) ?_
  dsimp only [Option.toList, List.cons_append, List.nil_append]
  refine e_astoreN dX9_fit_8 rfl rfl ?_
  dsimp only [List.set]
  refine e_aloadN rfl dX9_fit_10 ?_
  refine e_ifnonnullN dX9_fit_12 ?_
  refine e_iconst dX9_fit_15 ?_
  refine e_ireturn dX9_fit_16 rfl rfl ?_
  exact kQc_0 (by unfold a_fit; (repeat' split) <;> first | rfl | (exfalso; omega)) z
set_option maxHeartbeats 4000000 in
set_option maxRecDepth 100000 in
theorem k_fitY {G : kG} {d : Nat} {h : Nat → Option kC} {n : Nat} {Z : kCs} (g : rSt G) (z : rKI G h Z) (ok : kCok Z) {b : Int} (hb : inI b) (hby : 0 ≤ b ∧ b ≤ 5) {w : Int} (hw : inI w) {x : Int} (hx : inI x) : kCall G mX9_fit (d + 5) 0 0 [.ref (gB G + 0), .int (jI b), .int (jI w), .int (jI x)] h n (kQc G h n (.int (jI (a_fit Z b w x))) (Z)) := by
  show kE G mX9_fit (d + 5) 0 0 0 [some (.ref (gB G + 0)), some (.int (jI b)), some (.int (jI w)), some (.int (jI x)), none] [] h n _
  obtain ⟨⟨z0, ⟨f0, z28, z28f⟩, zu⟩, zp, zn, zi, zk, ⟨q, zq⟩, ⟨P, zP⟩, ⟨s, zs⟩, A9, E9, t9, zt⟩ := id z
  have zp1 := zp.1
  have zn1 := zn.1.1
  have zu1 := zu.1
  obtain ⟨okn, ⟨p0, p1, p2⟩, oki, okk⟩ := id ok
  have zb := rHd_b zn (i := b.toNat) (by omega)
  have zb1 := zb.1
  have za := okn.1 b.toNat (by omega)
  have ze := okn.2.1 b.toNat (by omega)
  have zA := kA_sum za
  obtain ⟨⟨y00, y01⟩, ⟨y10, y11⟩, ⟨y20, y21⟩⟩ := id ze
  obtain ⟨⟨w00, w01⟩, ⟨w10, w11⟩, ⟨w20, w21⟩, ⟨w30, w31⟩, ⟨w40, w41⟩⟩ := id okn.2.2.1
  refine e_aload_n rfl dX9_fit_0 ?_
  refine e_getf fdX9_19 dX9_fit_1 (by first | assumption | exact kup_s | exact kup_n (by omega) (by first | assumption | exact kup_s | exact kup_n (by omega) (by first | assumption | exact kup_s | exact kup_n (by omega) (by assumption)))) rfl ?_
  refine e_iload_n rfl dX9_fit_4 ?_
  refine eV1 mtX2_bookAt miX2_bookAt lkX9_61 dX9_fit_5 (by first | assumption | exact kup_s | exact kup_n (by omega) (by first | assumption | exact kup_s | exact kup_n (by omega) (by first | assumption | exact kup_s | exact kup_n (by omega) (by assumption)))) rfl rfl rfl (k_bookAt zn.1 (by omega) (by omega)) ?_
  dsimp only [Option.toList, List.cons_append, List.nil_append]
  refine e_astore dX9_fit_8 rfl rfl ?_
  dsimp only [List.set]
  refine e_aload rfl dX9_fit_10 ?_
  refine e_ifnonnull (tgt := 17) dX9_fit_12 (by decide) ?_
  refine e_iload_n rfl dX9_fit_17 ?_
  refine eS1 mtX9_isWidth msX9_isWidth lkX9_164 dX9_fit_18 rfl rfl (k_isWidth (by first | assumption | (unfold inI at *; omega))) ?_
  dsimp only [Option.toList, List.cons_append, List.nil_append]
  refine e_ifeqP (tgt := 33) dX9_fit_21 (by decide) (fun c21 => ?_) (fun c21 => ?_)
  · refine e_bipush (by decide) dX9_fit_33 ?_
    refine e_ireturn dX9_fit_35 rfl rfl ?_
    refine ⟨by unfold a_fit; (repeat' split) <;> first | rfl | (exfalso; omega), ?_, ?_, Nat.le_refl _⟩
    · first | exact z | exact rKI_92 z | exact rKI_kuh z | exact rKI_kuh (rKI_kuh z)
    · first | exact fun j h1 _ => rfl | exact fun j h1 _ => kup_o (by omega) | exact fun j h1 _ => kuh_o9 (by omega) (by omega) | exact fun j h1 _ => (kuh_o9 (by omega) (by omega)).trans (kuh_o9 (by omega) (by omega))
  · refine e_iload_n rfl dX9_fit_24 ?_
    refine e_iconst dX9_fit_25 ?_
    refine e_iconst dX9_fit_26 ?_
    refine eS3 mtX9_within msX9_within lkX9_69 dX9_fit_27 rfl rfl (k_within (by first | assumption | (unfold inI at *; omega)) (by first | assumption | (unfold inI at *; omega)) (by first | assumption | (unfold inI at *; omega))) ?_
    dsimp only [Option.toList, List.cons_append, List.nil_append]
    refine e_ifneP (tgt := 36) dX9_fit_30 (by decide) (fun c30 => ?_) (fun c30 => ?_)
    · refine e_aload_n rfl dX9_fit_36 ?_
      refine e_aload rfl dX9_fit_37 ?_
      refine e_iload_n rfl dX9_fit_39 ?_
      refine eV2R mtX9_seekMiddle miX9_seekMiddle lkX9_167 dX9_fit_40 (by first | exact z0 | exact (kuh_o9 (by omega) (by omega)).trans z0 | exact (kuh_o9 (by omega) (by omega)).trans ((kuh_o9 (by omega) (by omega)).trans z0)) rfl rfl rfl (k_zseekM g z ok zb (by omega) za ze zq zP (by omega) (by omega)) (fun r40 h40 n40 hp40 => ?_)
      obtain ⟨P1, rfl, rfl, rfl⟩ := hp40
      dsimp only [Option.toList, List.cons_append, List.nil_append]
      refine e_iload_n rfl dX9_fit_43 ?_
      refine e_if_ne (tgt := 57) dX9_fit_44 (by decide) (by first | assumption | (unfold inI at *; omega)) (fun c44 => ?_) (fun c44 => ?_)
      · refine e_aload_n rfl dX9_fit_57 ?_
        refine e_getf fdX9_43 dX9_fit_58 (by first | exact z0 | exact (kuh_o9 (by omega) (by omega)).trans z0 | exact (kuh_o9 (by omega) (by omega)).trans ((kuh_o9 (by omega) (by omega)).trans z0)) rfl ?_
        refine e_getf fdX9_174 dX9_fit_61 kuh_9o rfl ?_
        refine e_ireturn dX9_fit_64 rfl rfl ?_
        refine ⟨by unfold a_fit; (repeat' split) <;> first | rfl | (exfalso; omega), ?_, ?_, Nat.le_refl _⟩
        · first | exact z | exact rKI_92 z | exact rKI_kuh z | exact rKI_kuh (rKI_kuh z)
        · first | exact fun j h1 _ => rfl | exact fun j h1 _ => kup_o (by omega) | exact fun j h1 _ => kuh_o9 (by omega) (by omega) | exact fun j h1 _ => (kuh_o9 (by omega) (by omega)).trans (kuh_o9 (by omega) (by omega))
      · refine e_aload_n rfl dX9_fit_47 ?_
        refine e_getf fdX9_43 dX9_fit_48 (by first | exact z0 | exact (kuh_o9 (by omega) (by omega)).trans z0 | exact (kuh_o9 (by omega) (by omega)).trans ((kuh_o9 (by omega) (by omega)).trans z0)) rfl ?_
        refine e_getf fdX9_171 dX9_fit_51 kuh_9o rfl ?_
        refine e_goto (tgt := 64) dX9_fit_54 (by decide) ?_
        refine e_ireturn dX9_fit_64 rfl rfl ?_
        refine ⟨by unfold a_fit; (repeat' split) <;> first | rfl | (exfalso; omega), ?_, ?_, Nat.le_refl _⟩
        · first | exact z | exact rKI_92 z | exact rKI_kuh z | exact rKI_kuh (rKI_kuh z)
        · first | exact fun j h1 _ => rfl | exact fun j h1 _ => kup_o (by omega) | exact fun j h1 _ => kuh_o9 (by omega) (by omega) | exact fun j h1 _ => (kuh_o9 (by omega) (by omega)).trans (kuh_o9 (by omega) (by omega))
    · refine e_bipush (by decide) dX9_fit_33 ?_
      refine e_ireturn dX9_fit_35 rfl rfl ?_
      refine ⟨by unfold a_fit; (repeat' split) <;> first | rfl | (exfalso; omega), ?_, ?_, Nat.le_refl _⟩
      · first | exact z | exact rKI_92 z | exact rKI_kuh z | exact rKI_kuh (rKI_kuh z)
      · first | exact fun j h1 _ => rfl | exact fun j h1 _ => kup_o (by omega) | exact fun j h1 _ => kuh_o9 (by omega) (by omega) | exact fun j h1 _ => (kuh_o9 (by omega) (by omega)).trans (kuh_o9 (by omega) (by omega))
theorem k_fit {G : kG} {d : Nat} {h : Nat → Option kC} {n : Nat} {Z : kCs} (g : rSt G) (z : rKI G h Z) (ok : kCok Z) {b : Int} (hb : inI b)  {w : Int} (hw : inI w) {x : Int} (hx : inI x) : kCall G mX9_fit (d + 5) 0 0 [.ref (gB G + 0), .int (jI b), .int (jI w), .int (jI x)] h n (kQc G h n (.int (jI (a_fit Z b w x))) (Z)) := by
  by_cases c9 : 0 ≤ b ∧ b ≤ 5
  · exact k_fitY g z ok hb c9 hw hx
  · exact k_fitN g z ok hb c9 hw hx
set_option maxHeartbeats 4000000 in
set_option maxRecDepth 100000 in
theorem k_spanN {G : kG} {d : Nat} {h : Nat → Option kC} {n : Nat} {Z : kCs} (g : rSt G) (z : rKI G h Z) (ok : kCok Z) {b : Int} (hb : inI b) (hbn : ¬ (0 ≤ b ∧ b ≤ 5)) {w : Int} (hw : inI w) {x : Int} (hx : inI x) {e : Int} (he : inI e) : kCall G mX9_span (d + 6) 0 0 [.ref (gB G + 0), .int (jI b), .int (jI w), .int (jI x), .int (jI e)] h n (kQc G h n (.int (jI (a_span Z b w x e))) (Z)) := by
  show kE G mX9_span (d + 6) 0 0 0 [some (.ref (gB G + 0)), some (.int (jI b)), some (.int (jI w)), some (.int (jI x)), some (.int (jI e)), none] [] h n _
  obtain ⟨⟨z0, ⟨f0, z28, z28f⟩, zu⟩, zp, zn, zi, zk, ⟨q, zq⟩, ⟨P, zP⟩, ⟨s, zs⟩, A9, E9, t9, zt⟩ := id z
  have zp1 := zp.1
  have zn1 := zn.1.1
  have zu1 := zu.1
  obtain ⟨okn, ⟨p0, p1, p2⟩, oki, okk⟩ := id ok
  refine e_aload_n rfl dX9_span_0 ?_
  refine e_getf fdX9_19 dX9_span_1 (by first | assumption | exact kup_s | exact kup_n (by omega) (by first | assumption | exact kup_s | exact kup_n (by omega) (by first | assumption | exact kup_s | exact kup_n (by omega) (by assumption)))) rfl ?_
  refine e_iload_n rfl dX9_span_4 ?_
  refine eV1 mtX2_bookAt miX2_bookAt lkX9_61 dX9_span_5 (by first | assumption | exact kup_s | exact kup_n (by omega) (by first | assumption | exact kup_s | exact kup_n (by omega) (by first | assumption | exact kup_s | exact kup_n (by omega) (by assumption)))) rfl rfl rfl (k_bookAtN zn.1 (by assumption) (by assumption)) ?_
  dsimp only [Option.toList, List.cons_append, List.nil_append]
  refine e_astoreN dX9_span_8 rfl rfl ?_
  dsimp only [List.set]
  refine e_aloadN rfl dX9_span_10 ?_
  refine e_ifnonnullN dX9_span_12 ?_
  refine e_iconst dX9_span_15 ?_
  refine e_ireturn dX9_span_16 rfl rfl ?_
  exact kQc_0 (by unfold a_span; (repeat' split) <;> first | rfl | (exfalso; omega)) z
set_option maxHeartbeats 4000000 in
set_option maxRecDepth 100000 in
theorem k_spanY {G : kG} {d : Nat} {h : Nat → Option kC} {n : Nat} {Z : kCs} (g : rSt G) (z : rKI G h Z) (ok : kCok Z) {b : Int} (hb : inI b) (hby : 0 ≤ b ∧ b ≤ 5) {w : Int} (hw : inI w) {x : Int} (hx : inI x) {e : Int} (he : inI e) : kCall G mX9_span (d + 6) 0 0 [.ref (gB G + 0), .int (jI b), .int (jI w), .int (jI x), .int (jI e)] h n (kQc G h n (.int (jI (a_span Z b w x e))) (Z)) := by
  show kE G mX9_span (d + 6) 0 0 0 [some (.ref (gB G + 0)), some (.int (jI b)), some (.int (jI w)), some (.int (jI x)), some (.int (jI e)), none] [] h n _
  obtain ⟨⟨z0, ⟨f0, z28, z28f⟩, zu⟩, zp, zn, zi, zk, ⟨q, zq⟩, ⟨P, zP⟩, ⟨s, zs⟩, A9, E9, t9, zt⟩ := id z
  have zp1 := zp.1
  have zn1 := zn.1.1
  have zu1 := zu.1
  obtain ⟨okn, ⟨p0, p1, p2⟩, oki, okk⟩ := id ok
  have zb := rHd_b zn (i := b.toNat) (by omega)
  have zb1 := zb.1
  have za := okn.1 b.toNat (by omega)
  have ze := okn.2.1 b.toNat (by omega)
  have zA := kA_sum za
  obtain ⟨⟨y00, y01⟩, ⟨y10, y11⟩, ⟨y20, y21⟩⟩ := id ze
  obtain ⟨⟨w00, w01⟩, ⟨w10, w11⟩, ⟨w20, w21⟩, ⟨w30, w31⟩, ⟨w40, w41⟩⟩ := id okn.2.2.1
  refine e_aload_n rfl dX9_span_0 ?_
  refine e_getf fdX9_19 dX9_span_1 (by first | assumption | exact kup_s | exact kup_n (by omega) (by first | assumption | exact kup_s | exact kup_n (by omega) (by first | assumption | exact kup_s | exact kup_n (by omega) (by assumption)))) rfl ?_
  refine e_iload_n rfl dX9_span_4 ?_
  refine eV1 mtX2_bookAt miX2_bookAt lkX9_61 dX9_span_5 (by first | assumption | exact kup_s | exact kup_n (by omega) (by first | assumption | exact kup_s | exact kup_n (by omega) (by first | assumption | exact kup_s | exact kup_n (by omega) (by assumption)))) rfl rfl rfl (k_bookAt zn.1 (by omega) (by omega)) ?_
  dsimp only [Option.toList, List.cons_append, List.nil_append]
  refine e_astore dX9_span_8 rfl rfl ?_
  dsimp only [List.set]
  refine e_aload rfl dX9_span_10 ?_
  refine e_ifnonnull (tgt := 17) dX9_span_12 (by decide) ?_
  refine e_iload_n rfl dX9_span_17 ?_
  refine eS1 mtX9_isWidth msX9_isWidth lkX9_164 dX9_span_18 rfl rfl (k_isWidth (by first | assumption | (unfold inI at *; omega))) ?_
  dsimp only [Option.toList, List.cons_append, List.nil_append]
  refine e_ifeqP (tgt := 45) dX9_span_21 (by decide) (fun c21 => ?_) (fun c21 => ?_)
  · refine e_bipush (by decide) dX9_span_45 ?_
    refine e_ireturn dX9_span_47 rfl rfl ?_
    refine ⟨by unfold a_span; (repeat' split) <;> first | rfl | (exfalso; omega), ?_, ?_, Nat.le_refl _⟩
    · first | exact z | exact rKI_92 z | exact rKI_kuh z | exact rKI_kuh (rKI_kuh z)
    · first | exact fun j h1 _ => rfl | exact fun j h1 _ => kup_o (by omega) | exact fun j h1 _ => kuh_o9 (by omega) (by omega) | exact fun j h1 _ => (kuh_o9 (by omega) (by omega)).trans (kuh_o9 (by omega) (by omega))
  · refine e_iload_n rfl dX9_span_24 ?_
    refine e_iconst dX9_span_25 ?_
    refine e_sipush (by decide) dX9_span_26 ?_
    refine eS3 mtX9_within msX9_within lkX9_69 dX9_span_29 rfl rfl (k_within (by first | assumption | (unfold inI at *; omega)) (by first | assumption | (unfold inI at *; omega)) (by first | assumption | (unfold inI at *; omega))) ?_
    dsimp only [Option.toList, List.cons_append, List.nil_append]
    refine e_ifeqP (tgt := 45) dX9_span_32 (by decide) (fun c32 => ?_) (fun c32 => ?_)
    · refine e_bipush (by decide) dX9_span_45 ?_
      refine e_ireturn dX9_span_47 rfl rfl ?_
      refine ⟨by unfold a_span; (repeat' split) <;> first | rfl | (exfalso; omega), ?_, ?_, Nat.le_refl _⟩
      · first | exact z | exact rKI_92 z | exact rKI_kuh z | exact rKI_kuh (rKI_kuh z)
      · first | exact fun j h1 _ => rfl | exact fun j h1 _ => kup_o (by omega) | exact fun j h1 _ => kuh_o9 (by omega) (by omega) | exact fun j h1 _ => (kuh_o9 (by omega) (by omega)).trans (kuh_o9 (by omega) (by omega))
    · refine e_iload rfl dX9_span_35 ?_
      refine e_iconst dX9_span_37 ?_
      refine e_iconst dX9_span_38 ?_
      refine eS3 mtX9_within msX9_within lkX9_69 dX9_span_39 rfl rfl (k_within (by first | assumption | (unfold inI at *; omega)) (by first | assumption | (unfold inI at *; omega)) (by first | assumption | (unfold inI at *; omega))) ?_
      dsimp only [Option.toList, List.cons_append, List.nil_append]
      refine e_ifneP (tgt := 48) dX9_span_42 (by decide) (fun c42 => ?_) (fun c42 => ?_)
      · refine e_aload_n rfl dX9_span_48 ?_
        refine e_aload rfl dX9_span_49 ?_
        refine e_iload_n rfl dX9_span_51 ?_
        refine e_iload_n rfl dX9_span_52 ?_
        refine eV3R mtX9_seekSpan miX9_seekSpan lkX9_177 dX9_span_53 (by first | exact z0 | exact (kuh_o9 (by omega) (by omega)).trans z0 | exact (kuh_o9 (by omega) (by omega)).trans ((kuh_o9 (by omega) (by omega)).trans z0)) rfl rfl rfl (k_zseekS g z ok zb (by omega) za ze zq zP (by omega) (by omega) (by omega) (by omega)) (fun r53 h53 n53 hp53 => ?_)
        obtain ⟨P1, rfl, rfl, rfl⟩ := hp53
        dsimp only [Option.toList, List.cons_append, List.nil_append]
        refine e_iload rfl dX9_span_56 ?_
        refine e_if_ne (tgt := 71) dX9_span_58 (by decide) (by first | assumption | (unfold inI at *; omega)) (fun c58 => ?_) (fun c58 => ?_)
        · refine e_aload_n rfl dX9_span_71 ?_
          refine e_getf fdX9_43 dX9_span_72 (by first | exact z0 | exact (kuh_o9 (by omega) (by omega)).trans z0 | exact (kuh_o9 (by omega) (by omega)).trans ((kuh_o9 (by omega) (by omega)).trans z0)) rfl ?_
          refine e_getf fdX9_184 dX9_span_75 kuh_9o rfl ?_
          refine e_ireturn dX9_span_78 rfl rfl ?_
          refine ⟨by unfold a_span; (repeat' split) <;> first | rfl | (exfalso; omega), ?_, ?_, Nat.le_refl _⟩
          · first | exact z | exact rKI_92 z | exact rKI_kuh z | exact rKI_kuh (rKI_kuh z)
          · first | exact fun j h1 _ => rfl | exact fun j h1 _ => kup_o (by omega) | exact fun j h1 _ => kuh_o9 (by omega) (by omega) | exact fun j h1 _ => (kuh_o9 (by omega) (by omega)).trans (kuh_o9 (by omega) (by omega))
        · refine e_aload_n rfl dX9_span_61 ?_
          refine e_getf fdX9_43 dX9_span_62 (by first | exact z0 | exact (kuh_o9 (by omega) (by omega)).trans z0 | exact (kuh_o9 (by omega) (by omega)).trans ((kuh_o9 (by omega) (by omega)).trans z0)) rfl ?_
          refine e_getf fdX9_181 dX9_span_65 kuh_9o rfl ?_
          refine e_goto (tgt := 78) dX9_span_68 (by decide) ?_
          refine e_ireturn dX9_span_78 rfl rfl ?_
          refine ⟨by unfold a_span; (repeat' split) <;> first | rfl | (exfalso; omega), ?_, ?_, Nat.le_refl _⟩
          · first | exact z | exact rKI_92 z | exact rKI_kuh z | exact rKI_kuh (rKI_kuh z)
          · first | exact fun j h1 _ => rfl | exact fun j h1 _ => kup_o (by omega) | exact fun j h1 _ => kuh_o9 (by omega) (by omega) | exact fun j h1 _ => (kuh_o9 (by omega) (by omega)).trans (kuh_o9 (by omega) (by omega))
      · refine e_bipush (by decide) dX9_span_45 ?_
        refine e_ireturn dX9_span_47 rfl rfl ?_
        refine ⟨by unfold a_span; (repeat' split) <;> first | rfl | (exfalso; omega), ?_, ?_, Nat.le_refl _⟩
        · first | exact z | exact rKI_92 z | exact rKI_kuh z | exact rKI_kuh (rKI_kuh z)
        · first | exact fun j h1 _ => rfl | exact fun j h1 _ => kup_o (by omega) | exact fun j h1 _ => kuh_o9 (by omega) (by omega) | exact fun j h1 _ => (kuh_o9 (by omega) (by omega)).trans (kuh_o9 (by omega) (by omega))
theorem k_span {G : kG} {d : Nat} {h : Nat → Option kC} {n : Nat} {Z : kCs} (g : rSt G) (z : rKI G h Z) (ok : kCok Z) {b : Int} (hb : inI b)  {w : Int} (hw : inI w) {x : Int} (hx : inI x) {e : Int} (he : inI e) : kCall G mX9_span (d + 6) 0 0 [.ref (gB G + 0), .int (jI b), .int (jI w), .int (jI x), .int (jI e)] h n (kQc G h n (.int (jI (a_span Z b w x e))) (Z)) := by
  by_cases c9 : 0 ≤ b ∧ b ≤ 5
  · exact k_spanY g z ok hb c9 hw hx he
  · exact k_spanN g z ok hb c9 hw hx he
set_option maxHeartbeats 4000000 in
set_option maxRecDepth 100000 in
theorem k_foundN {G : kG} {d : Nat} {h : Nat → Option kC} {n : Nat} {Z : kCs} (g : rSt G) (z : rKI G h Z) (ok : kCok Z) {b : Int} (hb : inI b) (hbn : ¬ (0 ≤ b ∧ b ≤ 5)) {w : Int} (hw : inI w) {x : Int} (hx : inI x) : kCall G mX9_found (d + 5) 0 0 [.ref (gB G + 0), .int (jI b), .int (jI w), .int (jI x)] h n (kQc G h n (.int (jI (a_found Z b w x))) (Z)) := by
  show kE G mX9_found (d + 5) 0 0 0 [some (.ref (gB G + 0)), some (.int (jI b)), some (.int (jI w)), some (.int (jI x)), none] [] h n _
  obtain ⟨⟨z0, ⟨f0, z28, z28f⟩, zu⟩, zp, zn, zi, zk, ⟨q, zq⟩, ⟨P, zP⟩, ⟨s, zs⟩, A9, E9, t9, zt⟩ := id z
  have zp1 := zp.1
  have zn1 := zn.1.1
  have zu1 := zu.1
  obtain ⟨okn, ⟨p0, p1, p2⟩, oki, okk⟩ := id ok
  refine e_aload_n rfl dX9_found_0 ?_
  refine e_getf fdX9_19 dX9_found_1 (by first | assumption | exact kup_s | exact kup_n (by omega) (by first | assumption | exact kup_s | exact kup_n (by omega) (by first | assumption | exact kup_s | exact kup_n (by omega) (by assumption)))) rfl ?_
  refine e_iload_n rfl dX9_found_4 ?_
  refine eV1 mtX2_bookAt miX2_bookAt lkX9_61 dX9_found_5 (by first | assumption | exact kup_s | exact kup_n (by omega) (by first | assumption | exact kup_s | exact kup_n (by omega) (by first | assumption | exact kup_s | exact kup_n (by omega) (by assumption)))) rfl rfl rfl (k_bookAtN zn.1 (by assumption) (by assumption)) ?_
  dsimp only [Option.toList, List.cons_append, List.nil_append]
  refine e_astoreN dX9_found_8 rfl rfl ?_
  dsimp only [List.set]
  refine e_aloadN rfl dX9_found_10 ?_
  refine e_ifnonnullN dX9_found_12 ?_
  refine e_iconst dX9_found_15 ?_
  refine e_ireturn dX9_found_16 rfl rfl ?_
  exact kQc_0 (by unfold a_found; (repeat' split) <;> first | rfl | (exfalso; omega)) z
set_option maxHeartbeats 4000000 in
set_option maxRecDepth 100000 in
theorem k_foundY {G : kG} {d : Nat} {h : Nat → Option kC} {n : Nat} {Z : kCs} (g : rSt G) (z : rKI G h Z) (ok : kCok Z) {b : Int} (hb : inI b) (hby : 0 ≤ b ∧ b ≤ 5) {w : Int} (hw : inI w) {x : Int} (hx : inI x) : kCall G mX9_found (d + 5) 0 0 [.ref (gB G + 0), .int (jI b), .int (jI w), .int (jI x)] h n (kQc G h n (.int (jI (a_found Z b w x))) (Z)) := by
  show kE G mX9_found (d + 5) 0 0 0 [some (.ref (gB G + 0)), some (.int (jI b)), some (.int (jI w)), some (.int (jI x)), none] [] h n _
  obtain ⟨⟨z0, ⟨f0, z28, z28f⟩, zu⟩, zp, zn, zi, zk, ⟨q, zq⟩, ⟨P, zP⟩, ⟨s, zs⟩, A9, E9, t9, zt⟩ := id z
  have zp1 := zp.1
  have zn1 := zn.1.1
  have zu1 := zu.1
  obtain ⟨okn, ⟨p0, p1, p2⟩, oki, okk⟩ := id ok
  have zb := rHd_b zn (i := b.toNat) (by omega)
  have zb1 := zb.1
  have za := okn.1 b.toNat (by omega)
  have ze := okn.2.1 b.toNat (by omega)
  have zA := kA_sum za
  obtain ⟨⟨y00, y01⟩, ⟨y10, y11⟩, ⟨y20, y21⟩⟩ := id ze
  obtain ⟨⟨w00, w01⟩, ⟨w10, w11⟩, ⟨w20, w21⟩, ⟨w30, w31⟩, ⟨w40, w41⟩⟩ := id okn.2.2.1
  refine e_aload_n rfl dX9_found_0 ?_
  refine e_getf fdX9_19 dX9_found_1 (by first | assumption | exact kup_s | exact kup_n (by omega) (by first | assumption | exact kup_s | exact kup_n (by omega) (by first | assumption | exact kup_s | exact kup_n (by omega) (by assumption)))) rfl ?_
  refine e_iload_n rfl dX9_found_4 ?_
  refine eV1 mtX2_bookAt miX2_bookAt lkX9_61 dX9_found_5 (by first | assumption | exact kup_s | exact kup_n (by omega) (by first | assumption | exact kup_s | exact kup_n (by omega) (by first | assumption | exact kup_s | exact kup_n (by omega) (by assumption)))) rfl rfl rfl (k_bookAt zn.1 (by omega) (by omega)) ?_
  dsimp only [Option.toList, List.cons_append, List.nil_append]
  refine e_astore dX9_found_8 rfl rfl ?_
  dsimp only [List.set]
  refine e_aload rfl dX9_found_10 ?_
  refine e_ifnonnull (tgt := 17) dX9_found_12 (by decide) ?_
  refine e_iload_n rfl dX9_found_17 ?_
  refine eS1 mtX9_isWidth msX9_isWidth lkX9_164 dX9_found_18 rfl rfl (k_isWidth (by first | assumption | (unfold inI at *; omega))) ?_
  dsimp only [Option.toList, List.cons_append, List.nil_append]
  refine e_ifeqP (tgt := 33) dX9_found_21 (by decide) (fun c21 => ?_) (fun c21 => ?_)
  · refine e_bipush (by decide) dX9_found_33 ?_
    refine e_ireturn dX9_found_35 rfl rfl ?_
    refine ⟨by unfold a_found; (repeat' split) <;> first | rfl | (exfalso; omega), ?_, ?_, Nat.le_refl _⟩
    · first | exact z | exact rKI_92 z | exact rKI_kuh z | exact rKI_kuh (rKI_kuh z)
    · first | exact fun j h1 _ => rfl | exact fun j h1 _ => kup_o (by omega) | exact fun j h1 _ => kuh_o9 (by omega) (by omega) | exact fun j h1 _ => (kuh_o9 (by omega) (by omega)).trans (kuh_o9 (by omega) (by omega))
  · refine e_iload_n rfl dX9_found_24 ?_
    refine e_iconst dX9_found_25 ?_
    refine e_iconst dX9_found_26 ?_
    refine eS3 mtX9_within msX9_within lkX9_69 dX9_found_27 rfl rfl (k_within (by first | assumption | (unfold inI at *; omega)) (by first | assumption | (unfold inI at *; omega)) (by first | assumption | (unfold inI at *; omega))) ?_
    dsimp only [Option.toList, List.cons_append, List.nil_append]
    refine e_ifneP (tgt := 36) dX9_found_30 (by decide) (fun c30 => ?_) (fun c30 => ?_)
    · refine e_aload_n rfl dX9_found_36 ?_
      refine e_getf fdX9_43 dX9_found_37 (by first | assumption | exact kup_s | exact kup_n (by omega) (by first | assumption | exact kup_s | exact kup_n (by omega) (by first | assumption | exact kup_s | exact kup_n (by omega) (by assumption)))) rfl ?_
      refine e_aload rfl dX9_found_40 ?_
      refine e_iload_n rfl dX9_found_42 ?_
      refine e_aload_n rfl dX9_found_43 ?_
      refine e_getf fdX9_19 dX9_found_44 (by first | assumption | exact kup_s | exact kup_n (by omega) (by first | assumption | exact kup_s | exact kup_n (by omega) (by first | assumption | exact kup_s | exact kup_n (by omega) (by assumption)))) rfl ?_
      refine e_iconst dX9_found_47 ?_
      refine eV1 mtX2_wayOf miX2_wayOf lkX9_97 dX9_found_48 (by first | assumption | exact kup_s | exact kup_n (by omega) (by first | assumption | exact kup_s | exact kup_n (by omega) (by first | assumption | exact kup_s | exact kup_n (by omega) (by assumption)))) rfl rfl rfl (k_wayOf zn.1 (by omega) (by omega)) ?_
      dsimp only [Option.toList, List.cons_append, List.nil_append]
      rw [show (0 : Int).toNat = 0 from rfl]
      refine eV3R mtX8_seekLine miX8_seekLine lkX9_187 dX9_found_51 zq rfl rfl rfl (k_seekLine zq zP zu zb (by omega) za (by omega) (by omega) (by omega) (by omega)) (fun r51 h51 n51 hp51 => ?_)
      obtain ⟨P1, rfl, rfl, rfl⟩ := hp51
      dsimp only [Option.toList, List.cons_append, List.nil_append]
      refine e_iload_n rfl dX9_found_54 ?_
      refine e_if_ne (tgt := 66) dX9_found_55 (by decide) (by first | assumption | (unfold inI at *; omega)) (fun c55 => ?_) (fun c55 => ?_)
      · refine e_iload_n rfl dX9_found_66 ?_
        refine e_iconst dX9_found_67 ?_
        refine e_icmp_ne (tgt := 81) dX9_found_68 (by decide) (by first | assumption | (unfold inI at *; omega)) (by first | assumption | (unfold inI at *; omega)) (fun c68 => ?_) (fun c68 => ?_)
        · refine e_aload_n rfl dX9_found_81 ?_
          refine e_getf fdX9_43 dX9_found_82 (by first | exact z0 | exact (kuh_o9 (by omega) (by omega)).trans z0 | exact (kuh_o9 (by omega) (by omega)).trans ((kuh_o9 (by omega) (by omega)).trans z0)) rfl ?_
          refine e_getf fdX9_174 dX9_found_85 kuh_9o rfl ?_
          refine e_ireturn dX9_found_88 rfl rfl ?_
          refine ⟨by unfold a_found; (repeat' split) <;> first | rfl | (exfalso; omega), ?_, ?_, Nat.le_refl _⟩
          · first | exact z | exact rKI_92 z | exact rKI_kuh z | exact rKI_kuh (rKI_kuh z)
          · first | exact fun j h1 _ => rfl | exact fun j h1 _ => kup_o (by omega) | exact fun j h1 _ => kuh_o9 (by omega) (by omega) | exact fun j h1 _ => (kuh_o9 (by omega) (by omega)).trans (kuh_o9 (by omega) (by omega))
        · refine e_aload_n rfl dX9_found_71 ?_
          refine e_getf fdX9_43 dX9_found_72 (by first | exact z0 | exact (kuh_o9 (by omega) (by omega)).trans z0 | exact (kuh_o9 (by omega) (by omega)).trans ((kuh_o9 (by omega) (by omega)).trans z0)) rfl ?_
          refine e_getf fdX9_171 dX9_found_75 kuh_9o rfl ?_
          refine e_goto (tgt := 88) dX9_found_78 (by decide) ?_
          refine e_ireturn dX9_found_88 rfl rfl ?_
          refine ⟨by unfold a_found; (repeat' split) <;> first | rfl | (exfalso; omega), ?_, ?_, Nat.le_refl _⟩
          · first | exact z | exact rKI_92 z | exact rKI_kuh z | exact rKI_kuh (rKI_kuh z)
          · first | exact fun j h1 _ => rfl | exact fun j h1 _ => kup_o (by omega) | exact fun j h1 _ => kuh_o9 (by omega) (by omega) | exact fun j h1 _ => (kuh_o9 (by omega) (by omega)).trans (kuh_o9 (by omega) (by omega))
      · refine e_aload_n rfl dX9_found_58 ?_
        refine e_getf fdX9_43 dX9_found_59 (by first | exact z0 | exact (kuh_o9 (by omega) (by omega)).trans z0 | exact (kuh_o9 (by omega) (by omega)).trans ((kuh_o9 (by omega) (by omega)).trans z0)) rfl ?_
        refine e_getf fdX9_190 dX9_found_62 kuh_9o rfl ?_
        refine e_ireturn dX9_found_65 rfl rfl ?_
        refine ⟨by unfold a_found; (repeat' split) <;> first | rfl | (exfalso; omega), ?_, ?_, Nat.le_refl _⟩
        · first | exact z | exact rKI_92 z | exact rKI_kuh z | exact rKI_kuh (rKI_kuh z)
        · first | exact fun j h1 _ => rfl | exact fun j h1 _ => kup_o (by omega) | exact fun j h1 _ => kuh_o9 (by omega) (by omega) | exact fun j h1 _ => (kuh_o9 (by omega) (by omega)).trans (kuh_o9 (by omega) (by omega))
    · refine e_bipush (by decide) dX9_found_33 ?_
      refine e_ireturn dX9_found_35 rfl rfl ?_
      refine ⟨by unfold a_found; (repeat' split) <;> first | rfl | (exfalso; omega), ?_, ?_, Nat.le_refl _⟩
      · first | exact z | exact rKI_92 z | exact rKI_kuh z | exact rKI_kuh (rKI_kuh z)
      · first | exact fun j h1 _ => rfl | exact fun j h1 _ => kup_o (by omega) | exact fun j h1 _ => kuh_o9 (by omega) (by omega) | exact fun j h1 _ => (kuh_o9 (by omega) (by omega)).trans (kuh_o9 (by omega) (by omega))
theorem k_found {G : kG} {d : Nat} {h : Nat → Option kC} {n : Nat} {Z : kCs} (g : rSt G) (z : rKI G h Z) (ok : kCok Z) {b : Int} (hb : inI b)  {w : Int} (hw : inI w) {x : Int} (hx : inI x) : kCall G mX9_found (d + 5) 0 0 [.ref (gB G + 0), .int (jI b), .int (jI w), .int (jI x)] h n (kQc G h n (.int (jI (a_found Z b w x))) (Z)) := by
  by_cases c9 : 0 ≤ b ∧ b ≤ 5
  · exact k_foundY g z ok hb c9 hw hx
  · exact k_foundN g z ok hb c9 hw hx
