/-! THE CLASS: BOOKS, TEXTS, HUMPS, HEAPS, MEANS -/
theorem ksm_in {A : Nat → Int} (hA : kAok A) (q : Int) : 0 ≤ ksm A q ∧ ksm A q ≤ 4027968 := by
  have hc : ∀ x : Int, 0 ≤ kcl x ∧ kcl x ≤ 63 := fun x => by unfold kcl; (repeat' split) <;> omega
  have h1 : ∀ k, k < 64 → A k * kcl ((k : Int) + q) ≤ 62937 := fun k hk => by
    have a1 := hA k hk
    have a2 := hc ((k : Int) + q)
    calc A k * kcl ((k : Int) + q) ≤ 999 * kcl ((k : Int) + q) := Int.mul_le_mul_of_nonneg_right a1.2 a2.1
      _ ≤ 62937 := by omega
  exact ⟨ksum_nn (fun k hk => Int.mul_nonneg (hA k hk).1 (hc _).1), Int.le_trans (ksum_le h1) (by omega)⟩
theorem kcf_in {m w l : Int} (w1 : 1 ≤ w) (w8 : w ≤ 8) : 0 ≤ kcf m w l ∧ kcf m w l ≤ 823680 := by
  have h1 : ∀ k : Nat, k < 64 → 0 ≤ (if l ≤ (k : Int) then khm m w k else 0) ∧ (if l ≤ (k : Int) then khm m w k else 0) ≤ 12870 := fun k _ => by have := khm_in (m := m) w1 w8 (k : Int); split <;> omega
  exact ⟨ksum_nn (fun k hk => (h1 k hk).1), Int.le_trans (ksum_le (fun k hk => (h1 k hk).2)) (by omega)⟩
theorem ksf_in {m w l : Int} (w1 : 1 ≤ w) (w8 : w ≤ 8) : 0 ≤ ksf m w l ∧ ksf m w l ≤ 51891840 := by
  have h1 : ∀ k : Nat, k < 64 → 0 ≤ (if l ≤ (k : Int) then (k : Int) * khm m w k else 0) ∧ (if l ≤ (k : Int) then (k : Int) * khm m w k else 0) ≤ 810810 := fun k hk => by
    have a1 := khm_in (m := m) w1 w8 (k : Int)
    have a2 : (k : Int) * khm m w k ≤ 63 * khm m w k := Int.mul_le_mul_of_nonneg_right (by omega) a1.1
    have a3 : 0 ≤ (k : Int) * khm m w k := Int.mul_nonneg (by omega) a1.1
    split <;> omega
  exact ⟨ksum_nn (fun k hk => (h1 k hk).1), Int.le_trans (ksum_le (fun k hk => (h1 k hk).2)) (by omega)⟩
theorem kgf_in {how : Int} {q : Int × (Nat → Int)} (ok : kTok how q) {a : Int} (a0 : 0 ≤ a) : 0 ≤ kgf q a ∧ kgf q a ≤ 22977 := by
  have h1 : ∀ k : Nat, 0 ≤ kgw q (a + k) ∧ kgw q (a + k) ≤ 999 := fun k => kga_in _ _ _ _ ok.2.2.2.2.2
  refine ⟨ksum_nn (fun k _ => (h1 k).1), Int.le_trans (ksum_le (fun k _ => (h1 k).2)) ?_⟩
  omega
theorem kmg_in {how : Int} {q : Int × (Nat → Int)} (ok : kTok how q) {a l : Int} (a0 : 1 ≤ a) (l0 : 0 ≤ l) (l1 : l ≤ 10) : 0 ≤ kmg q l a ∧ kmg q l a ≤ 459540 := by
  have h1 := kgf_in ok (a := a) (by omega)
  have h2 := kgf_in ok (a := a - 1) (by omega)
  unfold kmg
  have b1 : 0 ≤ (10 - l) * kgf q a := Int.mul_nonneg (by omega) h1.1
  have b2 : 0 ≤ l * kgf q (a - 1) := Int.mul_nonneg l0 h2.1
  have b3 : (10 - l) * kgf q a ≤ 10 * kgf q a := Int.mul_le_mul_of_nonneg_right (by omega) h1.1
  have b4 : l * kgf q (a - 1) ≤ 10 * kgf q (a - 1) := Int.mul_le_mul_of_nonneg_right (by omega) h2.1
  omega
theorem kwr_in {W : Nat → Int} (ok : kWok W) (l x y : Int) : 0 ≤ kwr W l x y ∧ kwr W l x y ≤ 300 := by
  obtain ⟨⟨w00, w01⟩, ⟨w10, w11⟩, ⟨w20, w21⟩, ⟨w30, w31⟩, ⟨w40, w41⟩⟩ := ok
  have h1 : 0 ≤ kfv W l x ∧ kfv W l x ≤ 10 := by unfold kfv; split <;> omega
  have h2 : 0 ≤ khp W x ∧ khp W x ≤ 9 := by unfold khp; split <;> omega
  unfold kwr
  have b1 : 0 ≤ (10 - kfv W l x) * khp W x := Int.mul_nonneg (by omega) h2.1
  have b2 : 0 ≤ (10 - kfv W l x) * (10 - khp W x) := Int.mul_nonneg (by omega) (by omega)
  have b3 : (10 - kfv W l x) * khp W x ≤ 10 * khp W x := Int.mul_le_mul_of_nonneg_right (by omega) h2.1
  have b4 : (10 - kfv W l x) * (10 - khp W x) ≤ 10 * (10 - khp W x) := Int.mul_le_mul_of_nonneg_right (by omega) (by omega)
  (repeat' split) <;> omega
def kbk (b : Int) : Prop := 0 ≤ b ∧ b ≤ 5
def a_line (Z : kCs) (b : Int) : Int := if ¬ (0 ≤ b ∧ b ≤ 5) then -1 else kln (hE (cN Z) b.toNat) (hR (cN Z))
def a_mean (Z : kCs) (b p : Int) : Int := if ¬ (0 ≤ b ∧ b ≤ 5) then -1000000000000000001 else if ¬ (0 ≤ p ∧ p ≤ 1) then -1000000000000000002 else ktl (ksm (hM (cN Z) b.toNat) 0) (ksum (hM (cN Z) b.toNat) 64) p
def a_pile (Z : kCs) (b p : Int) : Int := if ¬ (0 ≤ b ∧ b ≤ 5) then -1000000000000000001 else if ¬ (0 ≤ p ∧ p ≤ 1) then -1000000000000000002 else ktl (4 * ksum (fun k => hM (cN Z) b.toNat (4 * k)) 16) (ksum (hM (cN Z) b.toNat) 64) p
def a_grown (Z : kCs) (b x p : Int) : Int := if ¬ (0 ≤ b ∧ b ≤ 5) then -1000000000000000001 else if ¬ ((0 ≤ x ∧ x ≤ 1) ∧ 0 ≤ p ∧ p ≤ 1) then -1000000000000000002 else if x = 0 then ktl (kgf (hG (cN Z)) (hE (cN Z) b.toNat 1)) 1 p else ktl (kmg (hG (cN Z)) (hW (cN Z) 4) (hE (cN Z) b.toNat 1)) 10 p
def a_mode (Z : kCs) (b : Int) : Int := if ¬ (0 ≤ b ∧ b ≤ 5) then -1 else if ksum (hM (cN Z) b.toNat) 64 = 0 then -6 else kmo (hM (cN Z) b.toNat) 64
def a_about (Z : kCs) (b x e p : Int) : Int := if ¬ (0 ≤ b ∧ b ≤ 5) then -1000000000000000001 else if ¬ ((0 ≤ x ∧ x ≤ 8) ∧ (0 ≤ e ∧ e ≤ 1) ∧ 0 ≤ p ∧ p ≤ 1) then -1000000000000000002 else if ¬ hE (cN Z) b.toNat 2 = 2 then -1000000000000000003 else ktl (ksm (hM (cN Z) b.toNat) (if e = 0 then -x else x)) (ksum (hM (cN Z) b.toNat) 64) p
def a_fault (Z : kCs) (x : Int) : Int := if 0 ≤ x ∧ x ≤ 1 then kfault (cP Z).2 (cP Z).1 x else -2
def a_hump (_ : kCs) (m w x : Int) : Int := if ((0 ≤ m ∧ m ≤ 63) ∧ 1 ≤ w ∧ w ≤ 8) ∧ 0 ≤ x ∧ x ≤ 63 then khm m w x else -2
def a_upper (_ : kCs) (m w l x p : Int) : Int := if ¬ (((0 ≤ m ∧ m ≤ 63) ∧ 1 ≤ w ∧ w ≤ 8) ∧ (0 ≤ l ∧ l ≤ 63) ∧ (0 ≤ x ∧ x ≤ 1) ∧ 0 ≤ p ∧ p ≤ 1) then -1000000000000000002 else if x = 0 then ktl (kcf m w l) (kcf m w 0) p else ktl (ksf m w l) (kcf m w l) p
def a_written (Z : kCs) (l x y p : Int) : Int := if ¬ ((0 ≤ l ∧ l ≤ 63) ∧ (0 ≤ x ∧ x ≤ 63) ∧ (0 ≤ y ∧ y ≤ 63) ∧ 0 ≤ p ∧ p ≤ 1) then -1000000000000000002 else ktl (kwr (hW (cN Z)) l x y) 100 p
set_option maxHeartbeats 4000000 in
set_option maxRecDepth 100000 in
theorem k_lineN {G : kG} {d : Nat} {h : Nat → Option kC} {n : Nat} {Z : kCs} (g : rSt G) (z : rKI G h Z) (ok : kCok Z) {b : Int} (hb : inI b) (hbn : ¬ (0 ≤ b ∧ b ≤ 5)) : kCall G mX9_line (d + 4) 0 0 [.ref (gB G + 0), .int (jI b)] h n (kQc G h n (.int (jI (a_line Z b))) (Z)) := by
  show kE G mX9_line (d + 4) 0 0 0 [some (.ref (gB G + 0)), some (.int (jI b)), none] [] h n _
  obtain ⟨⟨z0, ⟨f0, z28, z28f⟩, zu⟩, zp, zn, zi, zk, ⟨q, zq⟩, ⟨P, zP⟩, ⟨s, zs⟩, A9, E9, t9, zt⟩ := id z
  have zp1 := zp.1
  have zn1 := zn.1.1
  have zu1 := zu.1
  obtain ⟨okn, ⟨p0, p1, p2⟩, oki, okk⟩ := id ok
  refine e_aload_n rfl dX9_line_0 ?_
  refine e_getf fdX9_19 dX9_line_1 (by first | assumption | exact kup_s | exact kup_n (by omega) (by first | assumption | exact kup_s | exact kup_n (by omega) (by first | assumption | exact kup_s | exact kup_n (by omega) (by assumption)))) rfl ?_
  refine e_iload_n rfl dX9_line_4 ?_
  refine eV1 mtX2_bookAt miX2_bookAt lkX9_61 dX9_line_5 (by first | assumption | exact kup_s | exact kup_n (by omega) (by first | assumption | exact kup_s | exact kup_n (by omega) (by first | assumption | exact kup_s | exact kup_n (by omega) (by assumption)))) rfl rfl rfl (k_bookAtN zn.1 (by assumption) (by assumption)) ?_
  dsimp only [Option.toList, List.cons_append, List.nil_append]
  refine e_astore_nN dX9_line_8 rfl rfl ?_
  dsimp only [List.set]
  refine e_aload_nN rfl dX9_line_9 ?_
  refine e_ifnonnullN dX9_line_10 ?_
  refine e_iconst dX9_line_13 ?_
  refine e_goto (tgt := 25) dX9_line_14 (by decide) ?_
  refine e_ireturn dX9_line_25 rfl rfl ?_
  exact kQc_0 (by unfold a_line; (repeat' split) <;> first | rfl | (exfalso; omega)) z
set_option maxHeartbeats 4000000 in
set_option maxRecDepth 100000 in
theorem k_lineY {G : kG} {d : Nat} {h : Nat → Option kC} {n : Nat} {Z : kCs} (g : rSt G) (z : rKI G h Z) (ok : kCok Z) {b : Int} (hb : inI b) (hby : 0 ≤ b ∧ b ≤ 5) : kCall G mX9_line (d + 4) 0 0 [.ref (gB G + 0), .int (jI b)] h n (kQc G h n (.int (jI (a_line Z b))) (Z)) := by
  show kE G mX9_line (d + 4) 0 0 0 [some (.ref (gB G + 0)), some (.int (jI b)), none] [] h n _
  obtain ⟨⟨z0, ⟨f0, z28, z28f⟩, zu⟩, zp, zn, zi, zk, ⟨q, zq⟩, ⟨P, zP⟩, ⟨s, zs⟩, A9, E9, t9, zt⟩ := id z
  have zp1 := zp.1
  have zn1 := zn.1.1
  have zu1 := zu.1
  obtain ⟨okn, ⟨p0, p1, p2⟩, oki, okk⟩ := id ok
  have zb := rHd_b zn (i := b.toNat) (by omega)
  have zb1 := zb.1
  have za := okn.1 b.toNat (by omega)
  have ze := okn.2.1 b.toNat (by omega)
  have zA := kA_sum za
  obtain ⟨⟨y00, y01⟩, ⟨y10, y11⟩, ⟨y20, y21⟩⟩ := id ze
  refine e_aload_n rfl dX9_line_0 ?_
  refine e_getf fdX9_19 dX9_line_1 (by first | assumption | exact kup_s | exact kup_n (by omega) (by first | assumption | exact kup_s | exact kup_n (by omega) (by first | assumption | exact kup_s | exact kup_n (by omega) (by assumption)))) rfl ?_
  refine e_iload_n rfl dX9_line_4 ?_
  refine eV1 mtX2_bookAt miX2_bookAt lkX9_61 dX9_line_5 (by first | assumption | exact kup_s | exact kup_n (by omega) (by first | assumption | exact kup_s | exact kup_n (by omega) (by first | assumption | exact kup_s | exact kup_n (by omega) (by assumption)))) rfl rfl rfl (k_bookAt zn.1 (by omega) (by omega)) ?_
  dsimp only [Option.toList, List.cons_append, List.nil_append]
  refine e_astore_n dX9_line_8 rfl rfl ?_
  dsimp only [List.set]
  refine e_aload_n rfl dX9_line_9 ?_
  refine e_ifnonnull (tgt := 17) dX9_line_10 (by decide) ?_
  refine e_aload_n rfl dX9_line_17 ?_
  refine e_getf fdX9_19 dX9_line_18 (by first | assumption | exact kup_s | exact kup_n (by omega) (by first | assumption | exact kup_s | exact kup_n (by omega) (by first | assumption | exact kup_s | exact kup_n (by omega) (by assumption)))) rfl ?_
  refine e_aload_n rfl dX9_line_21 ?_
  refine eV1 mtX2_lineOf miX2_lineOf lkX9_133 dX9_line_22 (by first | assumption | exact kup_s | exact kup_n (by omega) (by first | assumption | exact kup_s | exact kup_n (by omega) (by first | assumption | exact kup_s | exact kup_n (by omega) (by assumption)))) rfl rfl rfl (k_lineOf zn.1 okn zb ze) ?_
  dsimp only [Option.toList, List.cons_append, List.nil_append]
  refine e_ireturn dX9_line_25 rfl rfl ?_
  exact kQc_0 (by unfold a_line; (repeat' split) <;> first | rfl | (exfalso; omega)) z
theorem k_line {G : kG} {d : Nat} {h : Nat → Option kC} {n : Nat} {Z : kCs} (g : rSt G) (z : rKI G h Z) (ok : kCok Z) {b : Int} (hb : inI b)  : kCall G mX9_line (d + 4) 0 0 [.ref (gB G + 0), .int (jI b)] h n (kQc G h n (.int (jI (a_line Z b))) (Z)) := by
  by_cases c9 : 0 ≤ b ∧ b ≤ 5
  · exact k_lineY g z ok hb c9
  · exact k_lineN g z ok hb c9
set_option maxHeartbeats 4000000 in
set_option maxRecDepth 100000 in
theorem k_meanN {G : kG} {d : Nat} {h : Nat → Option kC} {n : Nat} {Z : kCs} (g : rSt G) (z : rKI G h Z) (ok : kCok Z) {b : Int} (hb : inI b) (hbn : ¬ (0 ≤ b ∧ b ≤ 5)) {p : Int} (hp : inI p) : kCall G mX9_mean (d + 4) 0 0 [.ref (gB G + 0), .int (jI b), .int (jI p)] h n (kQc G h n (.long (jL (a_mean Z b p))) (Z)) := by
  show kE G mX9_mean (d + 4) 0 0 0 [some (.ref (gB G + 0)), some (.int (jI b)), some (.int (jI p)), none] [] h n _
  obtain ⟨⟨z0, ⟨f0, z28, z28f⟩, zu⟩, zp, zn, zi, zk, ⟨q, zq⟩, ⟨P, zP⟩, ⟨s, zs⟩, A9, E9, t9, zt⟩ := id z
  have zp1 := zp.1
  have zn1 := zn.1.1
  have zu1 := zu.1
  obtain ⟨okn, ⟨p0, p1, p2⟩, oki, okk⟩ := id ok
  refine e_aload_n rfl dX9_mean_0 ?_
  refine e_getf fdX9_19 dX9_mean_1 (by first | assumption | exact kup_s | exact kup_n (by omega) (by first | assumption | exact kup_s | exact kup_n (by omega) (by first | assumption | exact kup_s | exact kup_n (by omega) (by assumption)))) rfl ?_
  refine e_iload_n rfl dX9_mean_4 ?_
  refine eV1 mtX2_bookAt miX2_bookAt lkX9_61 dX9_mean_5 (by first | assumption | exact kup_s | exact kup_n (by omega) (by first | assumption | exact kup_s | exact kup_n (by omega) (by first | assumption | exact kup_s | exact kup_n (by omega) (by assumption)))) rfl rfl rfl (k_bookAtN zn.1 (by assumption) (by assumption)) ?_
  dsimp only [Option.toList, List.cons_append, List.nil_append]
  refine e_astore_nN dX9_mean_8 rfl rfl ?_
  dsimp only [List.set]
  refine e_aload_nN rfl dX9_mean_9 ?_
  refine e_ifnonnullN dX9_mean_10 ?_
  refine e_ldc2 (z := (-1000000000000000001)) kcX9_198 (by decide) dX9_mean_13 ?_
  refine e_lreturn dX9_mean_16 rfl ?_
  exact kQc_0 (by unfold a_mean; (repeat' split) <;> first | rfl | (exfalso; omega)) z
set_option maxHeartbeats 4000000 in
set_option maxRecDepth 100000 in
theorem k_meanY {G : kG} {d : Nat} {h : Nat → Option kC} {n : Nat} {Z : kCs} (g : rSt G) (z : rKI G h Z) (ok : kCok Z) {b : Int} (hb : inI b) (hby : 0 ≤ b ∧ b ≤ 5) {p : Int} (hp : inI p) : kCall G mX9_mean (d + 4) 0 0 [.ref (gB G + 0), .int (jI b), .int (jI p)] h n (kQc G h n (.long (jL (a_mean Z b p))) (Z)) := by
  show kE G mX9_mean (d + 4) 0 0 0 [some (.ref (gB G + 0)), some (.int (jI b)), some (.int (jI p)), none] [] h n _
  obtain ⟨⟨z0, ⟨f0, z28, z28f⟩, zu⟩, zp, zn, zi, zk, ⟨q, zq⟩, ⟨P, zP⟩, ⟨s, zs⟩, A9, E9, t9, zt⟩ := id z
  have zp1 := zp.1
  have zn1 := zn.1.1
  have zu1 := zu.1
  obtain ⟨okn, ⟨p0, p1, p2⟩, oki, okk⟩ := id ok
  have zb := rHd_b zn (i := b.toNat) (by omega)
  have zb1 := zb.1
  have za := okn.1 b.toNat (by omega)
  have ze := okn.2.1 b.toNat (by omega)
  have zA := kA_sum za
  obtain ⟨⟨y00, y01⟩, ⟨y10, y11⟩, ⟨y20, y21⟩⟩ := id ze
  refine e_aload_n rfl dX9_mean_0 ?_
  refine e_getf fdX9_19 dX9_mean_1 (by first | assumption | exact kup_s | exact kup_n (by omega) (by first | assumption | exact kup_s | exact kup_n (by omega) (by first | assumption | exact kup_s | exact kup_n (by omega) (by assumption)))) rfl ?_
  refine e_iload_n rfl dX9_mean_4 ?_
  refine eV1 mtX2_bookAt miX2_bookAt lkX9_61 dX9_mean_5 (by first | assumption | exact kup_s | exact kup_n (by omega) (by first | assumption | exact kup_s | exact kup_n (by omega) (by first | assumption | exact kup_s | exact kup_n (by omega) (by assumption)))) rfl rfl rfl (k_bookAt zn.1 (by omega) (by omega)) ?_
  dsimp only [Option.toList, List.cons_append, List.nil_append]
  refine e_astore_n dX9_mean_8 rfl rfl ?_
  dsimp only [List.set]
  refine e_aload_n rfl dX9_mean_9 ?_
  refine e_ifnonnull (tgt := 17) dX9_mean_10 (by decide) ?_
  refine e_iload_n rfl dX9_mean_17 ?_
  refine eS1 mtX9_isPart msX9_isPart lkX9_144 dX9_mean_18 rfl rfl (k_isPart (by first | assumption | (unfold inI at *; omega))) ?_
  dsimp only [Option.toList, List.cons_append, List.nil_append]
  refine e_ifneP (tgt := 28) dX9_mean_21 (by decide) (fun c21 => ?_) (fun c21 => ?_)
  · refine e_aload_n rfl dX9_mean_28 ?_
    refine e_iconst dX9_mean_29 ?_
    refine eV1 mtX0_sumMoved miX0_sumMoved lkX9_253 dX9_mean_30 (by first | assumption | exact kup_s | exact kup_n (by omega) (by first | assumption | exact kup_s | exact kup_n (by omega) (by first | assumption | exact kup_s | exact kup_n (by omega) (by assumption)))) rfl rfl rfl (k_sumMoved zb za (by omega) (by omega)) ?_
    dsimp only [Option.toList, List.cons_append, List.nil_append]
    have q8 := ksm_in za 0
    refine e_aload_n rfl dX9_mean_33 ?_
    refine e_getf fdX9_205 dX9_mean_34 (by first | assumption | exact kup_s | exact kup_n (by omega) (by first | assumption | exact kup_s | exact kup_n (by omega) (by first | assumption | exact kup_s | exact kup_n (by omega) (by assumption)))) rfl ?_
    refine e_i2l (by first | assumption | (unfold inI at *; omega)) dX9_mean_37 ?_
    refine e_iload_n rfl dX9_mean_38 ?_
    refine eS3 mtX9_tell msX9_tell lkX9_153 dX9_mean_39 rfl rfl (k_tell (by omega) (by omega) (by omega) (by omega) (by omega) (by omega)) ?_
    dsimp only [Option.toList, List.cons_append, List.nil_append]
    refine e_lreturn dX9_mean_42 rfl ?_
    exact kQc_0 (by unfold a_mean; (repeat' split) <;> first | rfl | (exfalso; omega)) z
  · refine e_ldc2 (z := (-1000000000000000002)) kcX9_147 (by decide) dX9_mean_24 ?_
    refine e_lreturn dX9_mean_27 rfl ?_
    exact kQc_0 (by unfold a_mean; (repeat' split) <;> first | rfl | (exfalso; omega)) z
theorem k_mean {G : kG} {d : Nat} {h : Nat → Option kC} {n : Nat} {Z : kCs} (g : rSt G) (z : rKI G h Z) (ok : kCok Z) {b : Int} (hb : inI b)  {p : Int} (hp : inI p) : kCall G mX9_mean (d + 4) 0 0 [.ref (gB G + 0), .int (jI b), .int (jI p)] h n (kQc G h n (.long (jL (a_mean Z b p))) (Z)) := by
  by_cases c9 : 0 ≤ b ∧ b ≤ 5
  · exact k_meanY g z ok hb c9 hp
  · exact k_meanN g z ok hb c9 hp
theorem kin_in {A : Nat → Int} (hA : kAok A) : 0 ≤ ksum (fun k => A (4 * k)) 16 ∧ ksum (fun k => A (4 * k)) 16 ≤ 15984 := ⟨ksum_nn (fun k hk => (hA (4 * k) (by omega)).1), Int.le_trans (ksum_le (fun k hk => (hA (4 * k) (by omega)).2)) (by omega)⟩
set_option maxHeartbeats 4000000 in
set_option maxRecDepth 100000 in
theorem k_pileN {G : kG} {d : Nat} {h : Nat → Option kC} {n : Nat} {Z : kCs} (g : rSt G) (z : rKI G h Z) (ok : kCok Z) {b : Int} (hb : inI b) (hbn : ¬ (0 ≤ b ∧ b ≤ 5)) {p : Int} (hp : inI p) : kCall G mX9_pile (d + 4) 0 0 [.ref (gB G + 0), .int (jI b), .int (jI p)] h n (kQc G h n (.long (jL (a_pile Z b p))) (Z)) := by
  show kE G mX9_pile (d + 4) 0 0 0 [some (.ref (gB G + 0)), some (.int (jI b)), some (.int (jI p)), none] [] h n _
  obtain ⟨⟨z0, ⟨f0, z28, z28f⟩, zu⟩, zp, zn, zi, zk, ⟨q, zq⟩, ⟨P, zP⟩, ⟨s, zs⟩, A9, E9, t9, zt⟩ := id z
  have zp1 := zp.1
  have zn1 := zn.1.1
  have zu1 := zu.1
  obtain ⟨okn, ⟨p0, p1, p2⟩, oki, okk⟩ := id ok
  refine e_aload_n rfl dX9_pile_0 ?_
  refine e_getf fdX9_19 dX9_pile_1 (by first | assumption | exact kup_s | exact kup_n (by omega) (by first | assumption | exact kup_s | exact kup_n (by omega) (by first | assumption | exact kup_s | exact kup_n (by omega) (by assumption)))) rfl ?_
  refine e_iload_n rfl dX9_pile_4 ?_
  refine eV1 mtX2_bookAt miX2_bookAt lkX9_61 dX9_pile_5 (by first | assumption | exact kup_s | exact kup_n (by omega) (by first | assumption | exact kup_s | exact kup_n (by omega) (by first | assumption | exact kup_s | exact kup_n (by omega) (by assumption)))) rfl rfl rfl (k_bookAtN zn.1 (by assumption) (by assumption)) ?_
  dsimp only [Option.toList, List.cons_append, List.nil_append]
  refine e_astore_nN dX9_pile_8 rfl rfl ?_
  dsimp only [List.set]
  refine e_aload_nN rfl dX9_pile_9 ?_
  refine e_ifnonnullN dX9_pile_10 ?_
  refine e_ldc2 (z := (-1000000000000000001)) kcX9_198 (by decide) dX9_pile_13 ?_
  refine e_lreturn dX9_pile_16 rfl ?_
  exact kQc_0 (by unfold a_pile; (repeat' split) <;> first | rfl | (exfalso; omega)) z
set_option maxHeartbeats 4000000 in
set_option maxRecDepth 100000 in
theorem k_pileY {G : kG} {d : Nat} {h : Nat → Option kC} {n : Nat} {Z : kCs} (g : rSt G) (z : rKI G h Z) (ok : kCok Z) {b : Int} (hb : inI b) (hby : 0 ≤ b ∧ b ≤ 5) {p : Int} (hp : inI p) : kCall G mX9_pile (d + 4) 0 0 [.ref (gB G + 0), .int (jI b), .int (jI p)] h n (kQc G h n (.long (jL (a_pile Z b p))) (Z)) := by
  show kE G mX9_pile (d + 4) 0 0 0 [some (.ref (gB G + 0)), some (.int (jI b)), some (.int (jI p)), none] [] h n _
  obtain ⟨⟨z0, ⟨f0, z28, z28f⟩, zu⟩, zp, zn, zi, zk, ⟨q, zq⟩, ⟨P, zP⟩, ⟨s, zs⟩, A9, E9, t9, zt⟩ := id z
  have zp1 := zp.1
  have zn1 := zn.1.1
  have zu1 := zu.1
  obtain ⟨okn, ⟨p0, p1, p2⟩, oki, okk⟩ := id ok
  have zb := rHd_b zn (i := b.toNat) (by omega)
  have zb1 := zb.1
  have za := okn.1 b.toNat (by omega)
  have ze := okn.2.1 b.toNat (by omega)
  have zA := kA_sum za
  obtain ⟨⟨y00, y01⟩, ⟨y10, y11⟩, ⟨y20, y21⟩⟩ := id ze
  refine e_aload_n rfl dX9_pile_0 ?_
  refine e_getf fdX9_19 dX9_pile_1 (by first | assumption | exact kup_s | exact kup_n (by omega) (by first | assumption | exact kup_s | exact kup_n (by omega) (by first | assumption | exact kup_s | exact kup_n (by omega) (by assumption)))) rfl ?_
  refine e_iload_n rfl dX9_pile_4 ?_
  refine eV1 mtX2_bookAt miX2_bookAt lkX9_61 dX9_pile_5 (by first | assumption | exact kup_s | exact kup_n (by omega) (by first | assumption | exact kup_s | exact kup_n (by omega) (by first | assumption | exact kup_s | exact kup_n (by omega) (by assumption)))) rfl rfl rfl (k_bookAt zn.1 (by omega) (by omega)) ?_
  dsimp only [Option.toList, List.cons_append, List.nil_append]
  refine e_astore_n dX9_pile_8 rfl rfl ?_
  dsimp only [List.set]
  refine e_aload_n rfl dX9_pile_9 ?_
  refine e_ifnonnull (tgt := 17) dX9_pile_10 (by decide) ?_
  refine e_iload_n rfl dX9_pile_17 ?_
  refine eS1 mtX9_isPart msX9_isPart lkX9_144 dX9_pile_18 rfl rfl (k_isPart (by first | assumption | (unfold inI at *; omega))) ?_
  dsimp only [Option.toList, List.cons_append, List.nil_append]
  refine e_ifneP (tgt := 28) dX9_pile_21 (by decide) (fun c21 => ?_) (fun c21 => ?_)
  · refine e_ldc2 (z := 4) kcX9_200 (by decide) dX9_pile_28 ?_
    refine e_aload_n rfl dX9_pile_31 ?_
    refine eV0 mtX0_atWholeInches miX0_atWholeInches lkX9_202 dX9_pile_32 (by first | assumption | exact kup_s | exact kup_n (by omega) (by first | assumption | exact kup_s | exact kup_n (by omega) (by first | assumption | exact kup_s | exact kup_n (by omega) (by assumption)))) rfl rfl rfl (k_inches zb) ?_
    dsimp only [Option.toList, List.cons_append, List.nil_append]
    have q8 := kin_in za
    refine e_i2l (by first | assumption | (unfold inI at *; omega)) dX9_pile_35 ?_
    refine e_lmul dX9_pile_36 ?_
    refine e_aload_n rfl dX9_pile_37 ?_
    refine e_getf fdX9_205 dX9_pile_38 (by first | assumption | exact kup_s | exact kup_n (by omega) (by first | assumption | exact kup_s | exact kup_n (by omega) (by first | assumption | exact kup_s | exact kup_n (by omega) (by assumption)))) rfl ?_
    refine e_i2l (by first | assumption | (unfold inI at *; omega)) dX9_pile_41 ?_
    refine e_iload_n rfl dX9_pile_42 ?_
    refine eS3 mtX9_tell msX9_tell lkX9_153 dX9_pile_43 rfl rfl (k_tell (by omega) (by omega) (by omega) (by omega) (by omega) (by omega)) ?_
    dsimp only [Option.toList, List.cons_append, List.nil_append]
    refine e_lreturn dX9_pile_46 rfl ?_
    exact kQc_0 (by unfold a_pile; (repeat' split) <;> first | rfl | (exfalso; omega)) z
  · refine e_ldc2 (z := (-1000000000000000002)) kcX9_147 (by decide) dX9_pile_24 ?_
    refine e_lreturn dX9_pile_27 rfl ?_
    exact kQc_0 (by unfold a_pile; (repeat' split) <;> first | rfl | (exfalso; omega)) z
theorem k_pile {G : kG} {d : Nat} {h : Nat → Option kC} {n : Nat} {Z : kCs} (g : rSt G) (z : rKI G h Z) (ok : kCok Z) {b : Int} (hb : inI b)  {p : Int} (hp : inI p) : kCall G mX9_pile (d + 4) 0 0 [.ref (gB G + 0), .int (jI b), .int (jI p)] h n (kQc G h n (.long (jL (a_pile Z b p))) (Z)) := by
  by_cases c9 : 0 ≤ b ∧ b ≤ 5
  · exact k_pileY g z ok hb c9 hp
  · exact k_pileN g z ok hb c9 hp
set_option maxHeartbeats 4000000 in
set_option maxRecDepth 100000 in
theorem k_grownN {G : kG} {d : Nat} {h : Nat → Option kC} {n : Nat} {Z : kCs} (g : rSt G) (z : rKI G h Z) (ok : kCok Z) {b : Int} (hb : inI b) (hbn : ¬ (0 ≤ b ∧ b ≤ 5)) {x : Int} (hx : inI x) {p : Int} (hp : inI p) : kCall G mX9_grown (d + 5) 0 0 [.ref (gB G + 0), .int (jI b), .int (jI x), .int (jI p)] h n (kQc G h n (.long (jL (a_grown Z b x p))) (Z)) := by
  show kE G mX9_grown (d + 5) 0 0 0 [some (.ref (gB G + 0)), some (.int (jI b)), some (.int (jI x)), some (.int (jI p)), none] [] h n _
  obtain ⟨⟨z0, ⟨f0, z28, z28f⟩, zu⟩, zp, zn, zi, zk, ⟨q, zq⟩, ⟨P, zP⟩, ⟨s, zs⟩, A9, E9, t9, zt⟩ := id z
  have zp1 := zp.1
  have zn1 := zn.1.1
  have zu1 := zu.1
  obtain ⟨okn, ⟨p0, p1, p2⟩, oki, okk⟩ := id ok
  refine e_aload_n rfl dX9_grown_0 ?_
  refine e_getf fdX9_19 dX9_grown_1 (by first | assumption | exact kup_s | exact kup_n (by omega) (by first | assumption | exact kup_s | exact kup_n (by omega) (by first | assumption | exact kup_s | exact kup_n (by omega) (by assumption)))) rfl ?_
  refine e_iload_n rfl dX9_grown_4 ?_
  refine eV1 mtX2_bookAt miX2_bookAt lkX9_61 dX9_grown_5 (by first | assumption | exact kup_s | exact kup_n (by omega) (by first | assumption | exact kup_s | exact kup_n (by omega) (by first | assumption | exact kup_s | exact kup_n (by omega) (by assumption)))) rfl rfl rfl (k_bookAtN zn.1 (by assumption) (by assumption)) ?_
  dsimp only [Option.toList, List.cons_append, List.nil_append]
  refine e_astoreN dX9_grown_8 rfl rfl ?_
  dsimp only [List.set]
  refine e_aloadN rfl dX9_grown_10 ?_
  refine e_ifnonnullN dX9_grown_12 ?_
  refine e_ldc2 (z := (-1000000000000000001)) kcX9_198 (by decide) dX9_grown_15 ?_
  refine e_lreturn dX9_grown_18 rfl ?_
  exact kQc_0 (by unfold a_grown; (repeat' split) <;> first | rfl | (exfalso; omega)) z
set_option maxHeartbeats 4000000 in
set_option maxRecDepth 100000 in
theorem k_grownY {G : kG} {d : Nat} {h : Nat → Option kC} {n : Nat} {Z : kCs} (g : rSt G) (z : rKI G h Z) (ok : kCok Z) {b : Int} (hb : inI b) (hby : 0 ≤ b ∧ b ≤ 5) {x : Int} (hx : inI x) {p : Int} (hp : inI p) : kCall G mX9_grown (d + 5) 0 0 [.ref (gB G + 0), .int (jI b), .int (jI x), .int (jI p)] h n (kQc G h n (.long (jL (a_grown Z b x p))) (Z)) := by
  show kE G mX9_grown (d + 5) 0 0 0 [some (.ref (gB G + 0)), some (.int (jI b)), some (.int (jI x)), some (.int (jI p)), none] [] h n _
  obtain ⟨⟨z0, ⟨f0, z28, z28f⟩, zu⟩, zp, zn, zi, zk, ⟨q, zq⟩, ⟨P, zP⟩, ⟨s, zs⟩, A9, E9, t9, zt⟩ := id z
  have zp1 := zp.1
  have zn1 := zn.1.1
  have zu1 := zu.1
  obtain ⟨okn, ⟨p0, p1, p2⟩, oki, okk⟩ := id ok
  have zb := rHd_b zn (i := b.toNat) (by omega)
  have zb1 := zb.1
  have za := okn.1 b.toNat (by omega)
  have ze := okn.2.1 b.toNat (by omega)
  have zA := kA_sum za
  obtain ⟨⟨y00, y01⟩, ⟨y10, y11⟩, ⟨y20, y21⟩⟩ := id ze
  obtain ⟨⟨w00, w01⟩, ⟨w10, w11⟩, ⟨w20, w21⟩, ⟨w30, w31⟩, ⟨w40, w41⟩⟩ := id okn.2.2.1
  refine e_aload_n rfl dX9_grown_0 ?_
  refine e_getf fdX9_19 dX9_grown_1 (by first | assumption | exact kup_s | exact kup_n (by omega) (by first | assumption | exact kup_s | exact kup_n (by omega) (by first | assumption | exact kup_s | exact kup_n (by omega) (by assumption)))) rfl ?_
  refine e_iload_n rfl dX9_grown_4 ?_
  refine eV1 mtX2_bookAt miX2_bookAt lkX9_61 dX9_grown_5 (by first | assumption | exact kup_s | exact kup_n (by omega) (by first | assumption | exact kup_s | exact kup_n (by omega) (by first | assumption | exact kup_s | exact kup_n (by omega) (by assumption)))) rfl rfl rfl (k_bookAt zn.1 (by omega) (by omega)) ?_
  dsimp only [Option.toList, List.cons_append, List.nil_append]
  refine e_astore dX9_grown_8 rfl rfl ?_
  dsimp only [List.set]
  refine e_aload rfl dX9_grown_10 ?_
  refine e_ifnonnull (tgt := 19) dX9_grown_12 (by decide) ?_
  refine e_iload_n rfl dX9_grown_19 ?_
  refine e_iconst dX9_grown_20 ?_
  refine e_iconst dX9_grown_21 ?_
  refine eS3 mtX9_within msX9_within lkX9_69 dX9_grown_22 rfl rfl (k_within (by first | assumption | (unfold inI at *; omega)) (by first | assumption | (unfold inI at *; omega)) (by first | assumption | (unfold inI at *; omega))) ?_
  dsimp only [Option.toList, List.cons_append, List.nil_append]
  refine e_ifeqP (tgt := 35) dX9_grown_25 (by decide) (fun c25 => ?_) (fun c25 => ?_)
  · refine e_ldc2 (z := (-1000000000000000002)) kcX9_147 (by decide) dX9_grown_35 ?_
    refine e_lreturn dX9_grown_38 rfl ?_
    exact kQc_0 (by unfold a_grown; (repeat' split) <;> first | rfl | (exfalso; omega)) z
  · refine e_iload_n rfl dX9_grown_28 ?_
    refine eS1 mtX9_isPart msX9_isPart lkX9_144 dX9_grown_29 rfl rfl (k_isPart (by first | assumption | (unfold inI at *; omega))) ?_
    dsimp only [Option.toList, List.cons_append, List.nil_append]
    refine e_ifneP (tgt := 39) dX9_grown_32 (by decide) (fun c32 => ?_) (fun c32 => ?_)
    · refine e_iload_n rfl dX9_grown_39 ?_
      refine e_if_ne (tgt := 63) dX9_grown_40 (by decide) (by first | assumption | (unfold inI at *; omega)) (fun c40 => ?_) (fun c40 => ?_)
      · refine e_aload_n rfl dX9_grown_63 ?_
        refine e_getf fdX9_19 dX9_grown_64 (by first | assumption | exact kup_s | exact kup_n (by omega) (by first | assumption | exact kup_s | exact kup_n (by omega) (by first | assumption | exact kup_s | exact kup_n (by omega) (by assumption)))) rfl ?_
        refine e_aload rfl dX9_grown_67 ?_
        refine eV1 mtX2_tenthsGrown miX2_tenthsGrown lkX9_211 dX9_grown_69 (by first | assumption | exact kup_s | exact kup_n (by omega) (by first | assumption | exact kup_s | exact kup_n (by omega) (by first | assumption | exact kup_s | exact kup_n (by omega) (by assumption)))) rfl rfl rfl (k_tenthsGrown zn.1 okn zb ze) ?_
        dsimp only [Option.toList, List.cons_append, List.nil_append]
        have q8 := kmg_in okn.2.2.2.2 (a := hE (cN Z) b.toNat 1) (l := hW (cN Z) 4) (by omega) (by omega) (by omega)
        refine e_i2l (by first | assumption | (unfold inI at *; omega)) dX9_grown_72 ?_
        refine e_ldc2 (z := 10) kcX9_214 (by decide) dX9_grown_73 ?_
        refine e_iload_n rfl dX9_grown_76 ?_
        refine eS3 mtX9_tell msX9_tell lkX9_153 dX9_grown_77 rfl rfl (k_tell (by omega) (by omega) (by omega) (by omega) (by omega) (by omega)) ?_
        dsimp only [Option.toList, List.cons_append, List.nil_append]
        refine e_lreturn dX9_grown_80 rfl ?_
        exact kQc_0 (by unfold a_grown; (repeat' split) <;> first | rfl | (exfalso; omega)) z
      · refine e_aload_n rfl dX9_grown_43 ?_
        refine e_getf fdX9_19 dX9_grown_44 (by first | assumption | exact kup_s | exact kup_n (by omega) (by first | assumption | exact kup_s | exact kup_n (by omega) (by first | assumption | exact kup_s | exact kup_n (by omega) (by assumption)))) rfl ?_
        refine e_aload rfl dX9_grown_47 ?_
        refine e_iconst dX9_grown_49 ?_
        refine eV1 mtX0_entry miX0_entry lkX9_88 dX9_grown_50 (by first | assumption | exact kup_s | exact kup_n (by omega) (by first | assumption | exact kup_s | exact kup_n (by omega) (by first | assumption | exact kup_s | exact kup_n (by omega) (by assumption)))) rfl rfl rfl (k_entry zb (by omega) (by omega)) ?_
        dsimp only [Option.toList, List.cons_append, List.nil_append]
        rw [show (1 : Int).toNat = 1 from rfl]
        refine eV1 mtX2_growthFrom miX2_growthFrom lkX9_208 dX9_grown_53 (by first | assumption | exact kup_s | exact kup_n (by omega) (by first | assumption | exact kup_s | exact kup_n (by omega) (by first | assumption | exact kup_s | exact kup_n (by omega) (by assumption)))) rfl rfl rfl (k_growthFrom zn.1 okn (by omega) (by omega)) ?_
        dsimp only [Option.toList, List.cons_append, List.nil_append]
        have q8 := kgf_in okn.2.2.2.2 (a := hE (cN Z) b.toNat 1) (by omega)
        refine e_i2l (by first | assumption | (unfold inI at *; omega)) dX9_grown_56 ?_
        refine e_lconst (z := 1) (by decide) dX9_grown_57 ?_
        refine e_iload_n rfl dX9_grown_58 ?_
        refine eS3 mtX9_tell msX9_tell lkX9_153 dX9_grown_59 rfl rfl (k_tell (by omega) (by omega) (by omega) (by omega) (by omega) (by omega)) ?_
        dsimp only [Option.toList, List.cons_append, List.nil_append]
        refine e_lreturn dX9_grown_62 rfl ?_
        exact kQc_0 (by unfold a_grown; (repeat' split) <;> first | rfl | (exfalso; omega)) z
    · refine e_ldc2 (z := (-1000000000000000002)) kcX9_147 (by decide) dX9_grown_35 ?_
      refine e_lreturn dX9_grown_38 rfl ?_
      exact kQc_0 (by unfold a_grown; (repeat' split) <;> first | rfl | (exfalso; omega)) z
theorem k_grown {G : kG} {d : Nat} {h : Nat → Option kC} {n : Nat} {Z : kCs} (g : rSt G) (z : rKI G h Z) (ok : kCok Z) {b : Int} (hb : inI b)  {x : Int} (hx : inI x) {p : Int} (hp : inI p) : kCall G mX9_grown (d + 5) 0 0 [.ref (gB G + 0), .int (jI b), .int (jI x), .int (jI p)] h n (kQc G h n (.long (jL (a_grown Z b x p))) (Z)) := by
  by_cases c9 : 0 ≤ b ∧ b ≤ 5
  · exact k_grownY g z ok hb c9 hx hp
  · exact k_grownN g z ok hb c9 hx hp
set_option maxHeartbeats 4000000 in
set_option maxRecDepth 100000 in
theorem k_modeN {G : kG} {d : Nat} {h : Nat → Option kC} {n : Nat} {Z : kCs} (g : rSt G) (z : rKI G h Z) (ok : kCok Z) {b : Int} (hb : inI b) (hbn : ¬ (0 ≤ b ∧ b ≤ 5)) : kCall G mX9_mode (d + 4) 0 0 [.ref (gB G + 0), .int (jI b)] h n (kQc G h n (.int (jI (a_mode Z b))) (Z)) := by
  show kE G mX9_mode (d + 4) 0 0 0 [some (.ref (gB G + 0)), some (.int (jI b)), none] [] h n _
  obtain ⟨⟨z0, ⟨f0, z28, z28f⟩, zu⟩, zp, zn, zi, zk, ⟨q, zq⟩, ⟨P, zP⟩, ⟨s, zs⟩, A9, E9, t9, zt⟩ := id z
  have zp1 := zp.1
  have zn1 := zn.1.1
  have zu1 := zu.1
  obtain ⟨okn, ⟨p0, p1, p2⟩, oki, okk⟩ := id ok
  refine e_aload_n rfl dX9_mode_0 ?_
  refine e_getf fdX9_19 dX9_mode_1 (by first | assumption | exact kup_s | exact kup_n (by omega) (by first | assumption | exact kup_s | exact kup_n (by omega) (by first | assumption | exact kup_s | exact kup_n (by omega) (by assumption)))) rfl ?_
  refine e_iload_n rfl dX9_mode_4 ?_
  refine eV1 mtX2_bookAt miX2_bookAt lkX9_61 dX9_mode_5 (by first | assumption | exact kup_s | exact kup_n (by omega) (by first | assumption | exact kup_s | exact kup_n (by omega) (by first | assumption | exact kup_s | exact kup_n (by omega) (by assumption)))) rfl rfl rfl (k_bookAtN zn.1 (by assumption) (by assumption)) ?_
  dsimp only [Option.toList, List.cons_append, List.nil_append]
  refine e_astore_nN dX9_mode_8 rfl rfl ?_
  dsimp only [List.set]
  refine e_aload_nN rfl dX9_mode_9 ?_
  refine e_ifnonnullN dX9_mode_10 ?_
  refine e_iconst dX9_mode_13 ?_
  refine e_ireturn dX9_mode_14 rfl rfl ?_
  exact kQc_0 (by unfold a_mode; (repeat' split) <;> first | rfl | (exfalso; omega)) z
set_option maxHeartbeats 4000000 in
set_option maxRecDepth 100000 in
theorem k_modeY {G : kG} {d : Nat} {h : Nat → Option kC} {n : Nat} {Z : kCs} (g : rSt G) (z : rKI G h Z) (ok : kCok Z) {b : Int} (hb : inI b) (hby : 0 ≤ b ∧ b ≤ 5) : kCall G mX9_mode (d + 4) 0 0 [.ref (gB G + 0), .int (jI b)] h n (kQc G h n (.int (jI (a_mode Z b))) (Z)) := by
  show kE G mX9_mode (d + 4) 0 0 0 [some (.ref (gB G + 0)), some (.int (jI b)), none] [] h n _
  obtain ⟨⟨z0, ⟨f0, z28, z28f⟩, zu⟩, zp, zn, zi, zk, ⟨q, zq⟩, ⟨P, zP⟩, ⟨s, zs⟩, A9, E9, t9, zt⟩ := id z
  have zp1 := zp.1
  have zn1 := zn.1.1
  have zu1 := zu.1
  obtain ⟨okn, ⟨p0, p1, p2⟩, oki, okk⟩ := id ok
  have zb := rHd_b zn (i := b.toNat) (by omega)
  have zb1 := zb.1
  have za := okn.1 b.toNat (by omega)
  have ze := okn.2.1 b.toNat (by omega)
  have zA := kA_sum za
  obtain ⟨⟨y00, y01⟩, ⟨y10, y11⟩, ⟨y20, y21⟩⟩ := id ze
  refine e_aload_n rfl dX9_mode_0 ?_
  refine e_getf fdX9_19 dX9_mode_1 (by first | assumption | exact kup_s | exact kup_n (by omega) (by first | assumption | exact kup_s | exact kup_n (by omega) (by first | assumption | exact kup_s | exact kup_n (by omega) (by assumption)))) rfl ?_
  refine e_iload_n rfl dX9_mode_4 ?_
  refine eV1 mtX2_bookAt miX2_bookAt lkX9_61 dX9_mode_5 (by first | assumption | exact kup_s | exact kup_n (by omega) (by first | assumption | exact kup_s | exact kup_n (by omega) (by first | assumption | exact kup_s | exact kup_n (by omega) (by assumption)))) rfl rfl rfl (k_bookAt zn.1 (by omega) (by omega)) ?_
  dsimp only [Option.toList, List.cons_append, List.nil_append]
  refine e_astore_n dX9_mode_8 rfl rfl ?_
  dsimp only [List.set]
  refine e_aload_n rfl dX9_mode_9 ?_
  refine e_ifnonnull (tgt := 15) dX9_mode_10 (by decide) ?_
  refine e_aload_n rfl dX9_mode_15 ?_
  refine e_getf fdX9_205 dX9_mode_16 (by first | assumption | exact kup_s | exact kup_n (by omega) (by first | assumption | exact kup_s | exact kup_n (by omega) (by first | assumption | exact kup_s | exact kup_n (by omega) (by assumption)))) rfl ?_
  refine e_if_ne (tgt := 27) dX9_mode_19 (by decide) (by first | assumption | (unfold inI at *; omega)) (fun c19 => ?_) (fun c19 => ?_)
  · refine e_aload_n rfl dX9_mode_27 ?_
    refine eV0 mtX0_commonest miX0_commonest lkX9_256 dX9_mode_28 (by first | assumption | exact kup_s | exact kup_n (by omega) (by first | assumption | exact kup_s | exact kup_n (by omega) (by first | assumption | exact kup_s | exact kup_n (by omega) (by assumption)))) rfl rfl rfl (k_commonest zb za) ?_
    dsimp only [Option.toList, List.cons_append, List.nil_append]
    refine e_ireturn dX9_mode_31 rfl rfl ?_
    exact kQc_0 (by unfold a_mode; (repeat' split) <;> first | rfl | (exfalso; omega)) z
  · refine e_bipush (by decide) dX9_mode_22 ?_
    refine e_goto (tgt := 31) dX9_mode_24 (by decide) ?_
    refine e_ireturn dX9_mode_31 rfl rfl ?_
    exact kQc_0 (by unfold a_mode; (repeat' split) <;> first | rfl | (exfalso; omega)) z
theorem k_mode {G : kG} {d : Nat} {h : Nat → Option kC} {n : Nat} {Z : kCs} (g : rSt G) (z : rKI G h Z) (ok : kCok Z) {b : Int} (hb : inI b)  : kCall G mX9_mode (d + 4) 0 0 [.ref (gB G + 0), .int (jI b)] h n (kQc G h n (.int (jI (a_mode Z b))) (Z)) := by
  by_cases c9 : 0 ≤ b ∧ b ≤ 5
  · exact k_modeY g z ok hb c9
  · exact k_modeN g z ok hb c9
set_option maxHeartbeats 4000000 in
set_option maxRecDepth 100000 in
theorem k_aboutN {G : kG} {d : Nat} {h : Nat → Option kC} {n : Nat} {Z : kCs} (g : rSt G) (z : rKI G h Z) (ok : kCok Z) {b : Int} (hb : inI b) (hbn : ¬ (0 ≤ b ∧ b ≤ 5)) {x : Int} (hx : inI x) {e : Int} (he : inI e) {p : Int} (hp : inI p) : kCall G mX9_about (d + 4) 0 0 [.ref (gB G + 0), .int (jI b), .int (jI x), .int (jI e), .int (jI p)] h n (kQc G h n (.long (jL (a_about Z b x e p))) (Z)) := by
  show kE G mX9_about (d + 4) 0 0 0 [some (.ref (gB G + 0)), some (.int (jI b)), some (.int (jI x)), some (.int (jI e)), some (.int (jI p)), none] [] h n _
  obtain ⟨⟨z0, ⟨f0, z28, z28f⟩, zu⟩, zp, zn, zi, zk, ⟨q, zq⟩, ⟨P, zP⟩, ⟨s, zs⟩, A9, E9, t9, zt⟩ := id z
  have zp1 := zp.1
  have zn1 := zn.1.1
  have zu1 := zu.1
  obtain ⟨okn, ⟨p0, p1, p2⟩, oki, okk⟩ := id ok
  refine e_aload_n rfl dX9_about_0 ?_
  refine e_getf fdX9_19 dX9_about_1 (by first | assumption | exact kup_s | exact kup_n (by omega) (by first | assumption | exact kup_s | exact kup_n (by omega) (by first | assumption | exact kup_s | exact kup_n (by omega) (by assumption)))) rfl ?_
  refine e_iload_n rfl dX9_about_4 ?_
  refine eV1 mtX2_bookAt miX2_bookAt lkX9_61 dX9_about_5 (by first | assumption | exact kup_s | exact kup_n (by omega) (by first | assumption | exact kup_s | exact kup_n (by omega) (by first | assumption | exact kup_s | exact kup_n (by omega) (by assumption)))) rfl rfl rfl (k_bookAtN zn.1 (by assumption) (by assumption)) ?_
  dsimp only [Option.toList, List.cons_append, List.nil_append]
  refine e_astoreN dX9_about_8 rfl rfl ?_
  dsimp only [List.set]
  refine e_aloadN rfl dX9_about_10 ?_
  refine e_ifnonnullN dX9_about_12 ?_
  refine e_ldc2 (z := (-1000000000000000001)) kcX9_198 (by decide) dX9_about_15 ?_
  refine e_lreturn dX9_about_18 rfl ?_
  exact kQc_0 (by unfold a_about; (repeat' split) <;> first | rfl | (exfalso; omega)) z
set_option maxHeartbeats 4000000 in
set_option maxRecDepth 100000 in
theorem k_aboutY {G : kG} {d : Nat} {h : Nat → Option kC} {n : Nat} {Z : kCs} (g : rSt G) (z : rKI G h Z) (ok : kCok Z) {b : Int} (hb : inI b) (hby : 0 ≤ b ∧ b ≤ 5) {x : Int} (hx : inI x) {e : Int} (he : inI e) {p : Int} (hp : inI p) : kCall G mX9_about (d + 4) 0 0 [.ref (gB G + 0), .int (jI b), .int (jI x), .int (jI e), .int (jI p)] h n (kQc G h n (.long (jL (a_about Z b x e p))) (Z)) := by
  show kE G mX9_about (d + 4) 0 0 0 [some (.ref (gB G + 0)), some (.int (jI b)), some (.int (jI x)), some (.int (jI e)), some (.int (jI p)), none] [] h n _
  obtain ⟨⟨z0, ⟨f0, z28, z28f⟩, zu⟩, zp, zn, zi, zk, ⟨q, zq⟩, ⟨P, zP⟩, ⟨s, zs⟩, A9, E9, t9, zt⟩ := id z
  have zp1 := zp.1
  have zn1 := zn.1.1
  have zu1 := zu.1
  obtain ⟨okn, ⟨p0, p1, p2⟩, oki, okk⟩ := id ok
  have zb := rHd_b zn (i := b.toNat) (by omega)
  have zb1 := zb.1
  have za := okn.1 b.toNat (by omega)
  have ze := okn.2.1 b.toNat (by omega)
  have zA := kA_sum za
  obtain ⟨⟨y00, y01⟩, ⟨y10, y11⟩, ⟨y20, y21⟩⟩ := id ze
  refine e_aload_n rfl dX9_about_0 ?_
  refine e_getf fdX9_19 dX9_about_1 (by first | assumption | exact kup_s | exact kup_n (by omega) (by first | assumption | exact kup_s | exact kup_n (by omega) (by first | assumption | exact kup_s | exact kup_n (by omega) (by assumption)))) rfl ?_
  refine e_iload_n rfl dX9_about_4 ?_
  refine eV1 mtX2_bookAt miX2_bookAt lkX9_61 dX9_about_5 (by first | assumption | exact kup_s | exact kup_n (by omega) (by first | assumption | exact kup_s | exact kup_n (by omega) (by first | assumption | exact kup_s | exact kup_n (by omega) (by assumption)))) rfl rfl rfl (k_bookAt zn.1 (by omega) (by omega)) ?_
  dsimp only [Option.toList, List.cons_append, List.nil_append]
  refine e_astore dX9_about_8 rfl rfl ?_
  dsimp only [List.set]
  refine e_aload rfl dX9_about_10 ?_
  refine e_ifnonnull (tgt := 19) dX9_about_12 (by decide) ?_
  refine e_iload_n rfl dX9_about_19 ?_
  refine e_iconst dX9_about_20 ?_
  refine e_bipush (by decide) dX9_about_21 ?_
  refine eS3 mtX9_within msX9_within lkX9_69 dX9_about_23 rfl rfl (k_within (by first | assumption | (unfold inI at *; omega)) (by first | assumption | (unfold inI at *; omega)) (by first | assumption | (unfold inI at *; omega))) ?_
  dsimp only [Option.toList, List.cons_append, List.nil_append]
  refine e_ifeqP (tgt := 46) dX9_about_26 (by decide) (fun c26 => ?_) (fun c26 => ?_)
  · refine e_ldc2 (z := (-1000000000000000002)) kcX9_147 (by decide) dX9_about_46 ?_
    refine e_lreturn dX9_about_49 rfl ?_
    exact kQc_0 (by unfold a_about; (repeat' split) <;> first | rfl | (exfalso; omega)) z
  · refine e_iload_n rfl dX9_about_29 ?_
    refine e_iconst dX9_about_30 ?_
    refine e_iconst dX9_about_31 ?_
    refine eS3 mtX9_within msX9_within lkX9_69 dX9_about_32 rfl rfl (k_within (by first | assumption | (unfold inI at *; omega)) (by first | assumption | (unfold inI at *; omega)) (by first | assumption | (unfold inI at *; omega))) ?_
    dsimp only [Option.toList, List.cons_append, List.nil_append]
    refine e_ifeqP (tgt := 46) dX9_about_35 (by decide) (fun c35 => ?_) (fun c35 => ?_)
    · refine e_ldc2 (z := (-1000000000000000002)) kcX9_147 (by decide) dX9_about_46 ?_
      refine e_lreturn dX9_about_49 rfl ?_
      exact kQc_0 (by unfold a_about; (repeat' split) <;> first | rfl | (exfalso; omega)) z
    · refine e_iload rfl dX9_about_38 ?_
      refine eS1 mtX9_isPart msX9_isPart lkX9_144 dX9_about_40 rfl rfl (k_isPart (by first | assumption | (unfold inI at *; omega))) ?_
      dsimp only [Option.toList, List.cons_append, List.nil_append]
      refine e_ifneP (tgt := 50) dX9_about_43 (by decide) (fun c43 => ?_) (fun c43 => ?_)
      · refine e_aload rfl dX9_about_50 ?_
        refine e_iconst dX9_about_52 ?_
        refine eV1 mtX0_entry miX0_entry lkX9_88 dX9_about_53 (by first | assumption | exact kup_s | exact kup_n (by omega) (by first | assumption | exact kup_s | exact kup_n (by omega) (by first | assumption | exact kup_s | exact kup_n (by omega) (by assumption)))) rfl rfl rfl (k_entry zb (by omega) (by omega)) ?_
        dsimp only [Option.toList, List.cons_append, List.nil_append]
        rw [show (2 : Int).toNat = 2 from rfl]
        refine e_iconst dX9_about_56 ?_
        refine e_icmp_eq (tgt := 64) dX9_about_57 (by decide) (by first | assumption | (unfold inI at *; omega)) (by first | assumption | (unfold inI at *; omega)) (fun c57 => ?_) (fun c57 => ?_)
        · refine e_aload rfl dX9_about_64 ?_
          refine e_iload_n rfl dX9_about_66 ?_
          refine e_if_ne (tgt := 75) dX9_about_67 (by decide) (by first | assumption | (unfold inI at *; omega)) (fun c67 => ?_) (fun c67 => ?_)
          · refine e_iload_n rfl dX9_about_75 ?_
            refine eV1 mtX0_sumMoved miX0_sumMoved lkX9_253 dX9_about_76 (by first | assumption | exact kup_s | exact kup_n (by omega) (by first | assumption | exact kup_s | exact kup_n (by omega) (by first | assumption | exact kup_s | exact kup_n (by omega) (by assumption)))) rfl rfl rfl (k_sumMoved zb za (by omega) (by omega)) ?_
            dsimp only [Option.toList, List.cons_append, List.nil_append]
            have q8 := ksm_in za x
            have q7 := ksm_in za (-x)
            refine e_aload rfl dX9_about_79 ?_
            refine e_getf fdX9_205 dX9_about_81 (by first | assumption | exact kup_s | exact kup_n (by omega) (by first | assumption | exact kup_s | exact kup_n (by omega) (by first | assumption | exact kup_s | exact kup_n (by omega) (by assumption)))) rfl ?_
            refine e_i2l (by first | assumption | (unfold inI at *; omega)) dX9_about_84 ?_
            refine e_iload rfl dX9_about_85 ?_
            refine eS3 mtX9_tell msX9_tell lkX9_153 dX9_about_87 rfl rfl (k_tell (by omega) (by omega) (by omega) (by omega) (by omega) (by omega)) ?_
            dsimp only [Option.toList, List.cons_append, List.nil_append]
            refine e_lreturn dX9_about_90 rfl ?_
            exact kQc_0 (by unfold a_about; (repeat' split) <;> first | rfl | (exfalso; omega)) z
          · refine e_iload_n rfl dX9_about_70 ?_
            refine e_ineg dX9_about_71 ?_
            refine e_goto (tgt := 76) dX9_about_72 (by decide) ?_
            refine eV1 mtX0_sumMoved miX0_sumMoved lkX9_253 dX9_about_76 (by first | assumption | exact kup_s | exact kup_n (by omega) (by first | assumption | exact kup_s | exact kup_n (by omega) (by first | assumption | exact kup_s | exact kup_n (by omega) (by assumption)))) rfl rfl rfl (k_sumMoved zb za (by omega) (by omega)) ?_
            dsimp only [Option.toList, List.cons_append, List.nil_append]
            have q8 := ksm_in za x
            have q7 := ksm_in za (-x)
            refine e_aload rfl dX9_about_79 ?_
            refine e_getf fdX9_205 dX9_about_81 (by first | assumption | exact kup_s | exact kup_n (by omega) (by first | assumption | exact kup_s | exact kup_n (by omega) (by first | assumption | exact kup_s | exact kup_n (by omega) (by assumption)))) rfl ?_
            refine e_i2l (by first | assumption | (unfold inI at *; omega)) dX9_about_84 ?_
            refine e_iload rfl dX9_about_85 ?_
            refine eS3 mtX9_tell msX9_tell lkX9_153 dX9_about_87 rfl rfl (k_tell (by omega) (by omega) (by omega) (by omega) (by omega) (by omega)) ?_
            dsimp only [Option.toList, List.cons_append, List.nil_append]
            refine e_lreturn dX9_about_90 rfl ?_
            exact kQc_0 (by unfold a_about; (repeat' split) <;> first | rfl | (exfalso; omega)) z
        · refine e_ldc2 (z := (-1000000000000000003)) kcX9_259 (by decide) dX9_about_60 ?_
          refine e_lreturn dX9_about_63 rfl ?_
          exact kQc_0 (by unfold a_about; (repeat' split) <;> first | rfl | (exfalso; omega)) z
      · refine e_ldc2 (z := (-1000000000000000002)) kcX9_147 (by decide) dX9_about_46 ?_
        refine e_lreturn dX9_about_49 rfl ?_
        exact kQc_0 (by unfold a_about; (repeat' split) <;> first | rfl | (exfalso; omega)) z
theorem k_about {G : kG} {d : Nat} {h : Nat → Option kC} {n : Nat} {Z : kCs} (g : rSt G) (z : rKI G h Z) (ok : kCok Z) {b : Int} (hb : inI b)  {x : Int} (hx : inI x) {e : Int} (he : inI e) {p : Int} (hp : inI p) : kCall G mX9_about (d + 4) 0 0 [.ref (gB G + 0), .int (jI b), .int (jI x), .int (jI e), .int (jI p)] h n (kQc G h n (.long (jL (a_about Z b x e p))) (Z)) := by
  by_cases c9 : 0 ≤ b ∧ b ≤ 5
  · exact k_aboutY g z ok hb c9 hx he hp
  · exact k_aboutN g z ok hb c9 hx he hp
set_option maxHeartbeats 4000000 in
set_option maxRecDepth 100000 in
theorem k_fault {G : kG} {d : Nat} {h : Nat → Option kC} {n : Nat} {Z : kCs} (g : rSt G) (z : rKI G h Z) (ok : kCok Z)  {x : Int} (hx : inI x) : kCall G mX9_fault (d + 4) 0 0 [.ref (gB G + 0), .int (jI x)] h n (kQc G h n (.int (jI (a_fault Z x))) (Z)) := by
  show kE G mX9_fault (d + 4) 0 0 0 [some (.ref (gB G + 0)), some (.int (jI x))] [] h n _
  obtain ⟨⟨z0, ⟨f0, z28, z28f⟩, zu⟩, zp, zn, zi, zk, ⟨q, zq⟩, ⟨P, zP⟩, ⟨s, zs⟩, A9, E9, t9, zt⟩ := id z
  have zp1 := zp.1
  have zn1 := zn.1.1
  have zu1 := zu.1
  obtain ⟨okn, ⟨p0, p1, p2⟩, oki, okk⟩ := id ok
  refine e_iload_n rfl dX9_fault_0 ?_
  refine e_iconst dX9_fault_1 ?_
  refine e_iconst dX9_fault_2 ?_
  refine eS3 mtX9_within msX9_within lkX9_69 dX9_fault_3 rfl rfl (k_within (by first | assumption | (unfold inI at *; omega)) (by first | assumption | (unfold inI at *; omega)) (by first | assumption | (unfold inI at *; omega))) ?_
  dsimp only [Option.toList, List.cons_append, List.nil_append]
  refine e_ifeqP (tgt := 20) dX9_fault_6 (by decide) (fun c6 => ?_) (fun c6 => ?_)
  · refine e_bipush (by decide) dX9_fault_20 ?_
    refine e_ireturn dX9_fault_22 rfl rfl ?_
    exact kQc_0 (by unfold a_fault; (repeat' split) <;> first | rfl | (exfalso; omega)) z
  · refine e_aload_n rfl dX9_fault_9 ?_
    refine e_getf fdX9_10 dX9_fault_10 (by first | assumption | exact kup_s | exact kup_n (by omega) (by first | assumption | exact kup_s | exact kup_n (by omega) (by first | assumption | exact kup_s | exact kup_n (by omega) (by assumption)))) rfl ?_
    refine e_iload_n rfl dX9_fault_13 ?_
    refine eS2 mtX1_faultOf msX1_faultOf lkX9_113 dX9_fault_14 rfl rfl (k_faultOf zp (by omega) (by omega) p2 (by omega) (by omega)) ?_
    dsimp only [Option.toList, List.cons_append, List.nil_append]
    refine e_goto (tgt := 22) dX9_fault_17 (by decide) ?_
    refine e_ireturn dX9_fault_22 rfl rfl ?_
    exact kQc_0 (by unfold a_fault; (repeat' split) <;> first | rfl | (exfalso; omega)) z
set_option maxHeartbeats 4000000 in
set_option maxRecDepth 100000 in
theorem k_hump {G : kG} {d : Nat} {h : Nat → Option kC} {n : Nat} {Z : kCs} (g : rSt G) (z : rKI G h Z) (ok : kCok Z)  {m : Int} (hm : inI m) {w : Int} (hw : inI w) {x : Int} (hx : inI x) : kCall G mX9_hump (d + 4) 0 0 [.ref (gB G + 0), .int (jI m), .int (jI w), .int (jI x)] h n (kQc G h n (.int (jI (a_hump Z m w x))) (Z)) := by
  show kE G mX9_hump (d + 4) 0 0 0 [some (.ref (gB G + 0)), some (.int (jI m)), some (.int (jI w)), some (.int (jI x))] [] h n _
  obtain ⟨⟨z0, ⟨f0, z28, z28f⟩, zu⟩, zp, zn, zi, zk, ⟨q, zq⟩, ⟨P, zP⟩, ⟨s, zs⟩, A9, E9, t9, zt⟩ := id z
  have zp1 := zp.1
  have zn1 := zn.1.1
  have zu1 := zu.1
  obtain ⟨okn, ⟨p0, p1, p2⟩, oki, okk⟩ := id ok
  refine e_iload_n rfl dX9_hump_0 ?_
  refine e_iload_n rfl dX9_hump_1 ?_
  refine eS2 mtX9_isHump msX9_isHump lkX9_137 dX9_hump_2 rfl rfl (k_isHump (by first | assumption | (unfold inI at *; omega)) (by first | assumption | (unfold inI at *; omega))) ?_
  dsimp only [Option.toList, List.cons_append, List.nil_append]
  refine e_ifeqP (tgt := 28) dX9_hump_5 (by decide) (fun c5 => ?_) (fun c5 => ?_)
  · refine e_bipush (by decide) dX9_hump_28 ?_
    refine e_ireturn dX9_hump_30 rfl rfl ?_
    exact kQc_0 (by unfold a_hump; (repeat' split) <;> first | rfl | (exfalso; omega)) z
  · refine e_iload_n rfl dX9_hump_8 ?_
    refine eS1 mtX9_isHeight msX9_isHeight lkX9_65 dX9_hump_9 rfl rfl (k_isHeight (by first | assumption | (unfold inI at *; omega))) ?_
    dsimp only [Option.toList, List.cons_append, List.nil_append]
    refine e_ifeqP (tgt := 28) dX9_hump_12 (by decide) (fun c12 => ?_) (fun c12 => ?_)
    · refine e_bipush (by decide) dX9_hump_28 ?_
      refine e_ireturn dX9_hump_30 rfl rfl ?_
      exact kQc_0 (by unfold a_hump; (repeat' split) <;> first | rfl | (exfalso; omega)) z
    · refine e_aload_n rfl dX9_hump_15 ?_
      refine e_getf fdX9_34 dX9_hump_16 (by first | assumption | exact kup_s | exact kup_n (by omega) (by first | assumption | exact kup_s | exact kup_n (by omega) (by first | assumption | exact kup_s | exact kup_n (by omega) (by assumption)))) rfl ?_
      refine e_iload_n rfl dX9_hump_19 ?_
      refine e_iload_n rfl dX9_hump_20 ?_
      refine e_iload_n rfl dX9_hump_21 ?_
      refine eV3 mtX3_menAt miX3_menAt lkX9_141 dX9_hump_22 (by first | assumption | exact kup_s | exact kup_n (by omega) (by first | assumption | exact kup_s | exact kup_n (by omega) (by first | assumption | exact kup_s | exact kup_n (by omega) (by assumption)))) rfl rfl rfl (k_menAtH zu (by omega) (by omega) (by omega) (by omega) (by omega) (by omega)) ?_
      dsimp only [Option.toList, List.cons_append, List.nil_append]
      refine e_goto (tgt := 30) dX9_hump_25 (by decide) ?_
      refine e_ireturn dX9_hump_30 rfl rfl ?_
      exact kQc_0 (by unfold a_hump; (repeat' split) <;> first | rfl | (exfalso; omega)) z
set_option maxHeartbeats 4000000 in
set_option maxRecDepth 100000 in
theorem k_upper {G : kG} {d : Nat} {h : Nat → Option kC} {n : Nat} {Z : kCs} (g : rSt G) (z : rKI G h Z) (ok : kCok Z)  {m : Int} (hm : inI m) {w : Int} (hw : inI w) {l : Int} (hl : inI l) {x : Int} (hx : inI x) {p : Int} (hp : inI p) : kCall G mX9_upper (d + 4) 0 0 [.ref (gB G + 0), .int (jI m), .int (jI w), .int (jI l), .int (jI x), .int (jI p)] h n (kQc G h n (.long (jL (a_upper Z m w l x p))) (Z)) := by
  show kE G mX9_upper (d + 4) 0 0 0 [some (.ref (gB G + 0)), some (.int (jI m)), some (.int (jI w)), some (.int (jI l)), some (.int (jI x)), some (.int (jI p)), none, none] [] h n _
  obtain ⟨⟨z0, ⟨f0, z28, z28f⟩, zu⟩, zp, zn, zi, zk, ⟨q, zq⟩, ⟨P, zP⟩, ⟨s, zs⟩, A9, E9, t9, zt⟩ := id z
  have zp1 := zp.1
  have zn1 := zn.1.1
  have zu1 := zu.1
  obtain ⟨okn, ⟨p0, p1, p2⟩, oki, okk⟩ := id ok
  refine e_iload_n rfl dX9_upper_0 ?_
  refine e_iload_n rfl dX9_upper_1 ?_
  refine eS2 mtX9_isHump msX9_isHump lkX9_137 dX9_upper_2 rfl rfl (k_isHump (by first | assumption | (unfold inI at *; omega)) (by first | assumption | (unfold inI at *; omega))) ?_
  dsimp only [Option.toList, List.cons_append, List.nil_append]
  refine e_ifeqP (tgt := 33) dX9_upper_5 (by decide) (fun c5 => ?_) (fun c5 => ?_)
  · refine e_ldc2 (z := (-1000000000000000002)) kcX9_147 (by decide) dX9_upper_33 ?_
    refine e_lreturn dX9_upper_36 rfl ?_
    exact kQc_0 (by unfold a_upper; (repeat' split) <;> first | rfl | (exfalso; omega)) z
  · refine e_iload_n rfl dX9_upper_8 ?_
    refine eS1 mtX9_isHeight msX9_isHeight lkX9_65 dX9_upper_9 rfl rfl (k_isHeight (by first | assumption | (unfold inI at *; omega))) ?_
    dsimp only [Option.toList, List.cons_append, List.nil_append]
    refine e_ifeqP (tgt := 33) dX9_upper_12 (by decide) (fun c12 => ?_) (fun c12 => ?_)
    · refine e_ldc2 (z := (-1000000000000000002)) kcX9_147 (by decide) dX9_upper_33 ?_
      refine e_lreturn dX9_upper_36 rfl ?_
      exact kQc_0 (by unfold a_upper; (repeat' split) <;> first | rfl | (exfalso; omega)) z
    · refine e_iload rfl dX9_upper_15 ?_
      refine e_iconst dX9_upper_17 ?_
      refine e_iconst dX9_upper_18 ?_
      refine eS3 mtX9_within msX9_within lkX9_69 dX9_upper_19 rfl rfl (k_within (by first | assumption | (unfold inI at *; omega)) (by first | assumption | (unfold inI at *; omega)) (by first | assumption | (unfold inI at *; omega))) ?_
      dsimp only [Option.toList, List.cons_append, List.nil_append]
      refine e_ifeqP (tgt := 33) dX9_upper_22 (by decide) (fun c22 => ?_) (fun c22 => ?_)
      · refine e_ldc2 (z := (-1000000000000000002)) kcX9_147 (by decide) dX9_upper_33 ?_
        refine e_lreturn dX9_upper_36 rfl ?_
        exact kQc_0 (by unfold a_upper; (repeat' split) <;> first | rfl | (exfalso; omega)) z
      · refine e_iload rfl dX9_upper_25 ?_
        refine eS1 mtX9_isPart msX9_isPart lkX9_144 dX9_upper_27 rfl rfl (k_isPart (by first | assumption | (unfold inI at *; omega))) ?_
        dsimp only [Option.toList, List.cons_append, List.nil_append]
        refine e_ifneP (tgt := 37) dX9_upper_30 (by decide) (fun c30 => ?_) (fun c30 => ?_)
        · refine e_aload_n rfl dX9_upper_37 ?_
          refine e_getf fdX9_34 dX9_upper_38 (by first | assumption | exact kup_s | exact kup_n (by omega) (by first | assumption | exact kup_s | exact kup_n (by omega) (by first | assumption | exact kup_s | exact kup_n (by omega) (by assumption)))) rfl ?_
          refine e_iload_n rfl dX9_upper_41 ?_
          refine e_iload_n rfl dX9_upper_42 ?_
          refine e_iload_n rfl dX9_upper_43 ?_
          refine eV3 mtX3_countFrom miX3_countFrom lkX9_149 dX9_upper_44 (by first | assumption | exact kup_s | exact kup_n (by omega) (by first | assumption | exact kup_s | exact kup_n (by omega) (by first | assumption | exact kup_s | exact kup_n (by omega) (by assumption)))) rfl rfl rfl (k_countFrom zu (by omega) (by omega) (by omega) (by omega) (by omega) (by omega)) ?_
          dsimp only [Option.toList, List.cons_append, List.nil_append]
          have q8 := kcf_in (m := m) (w := w) (l := l) (by omega) (by omega)
          refine e_lstore dX9_upper_47 rfl rfl ?_
          dsimp only [List.set]
          refine e_iload rfl dX9_upper_49 ?_
          refine e_if_ne (tgt := 72) dX9_upper_51 (by decide) (by first | assumption | (unfold inI at *; omega)) (fun c51 => ?_) (fun c51 => ?_)
          · refine e_aload_n rfl dX9_upper_72 ?_
            refine e_getf fdX9_34 dX9_upper_73 (by first | assumption | exact kup_s | exact kup_n (by omega) (by first | assumption | exact kup_s | exact kup_n (by omega) (by first | assumption | exact kup_s | exact kup_n (by omega) (by assumption)))) rfl ?_
            refine e_iload_n rfl dX9_upper_76 ?_
            refine e_iload_n rfl dX9_upper_77 ?_
            refine e_iload_n rfl dX9_upper_78 ?_
            refine eV3 mtX3_sumFrom miX3_sumFrom lkX9_157 dX9_upper_79 (by first | assumption | exact kup_s | exact kup_n (by omega) (by first | assumption | exact kup_s | exact kup_n (by omega) (by first | assumption | exact kup_s | exact kup_n (by omega) (by assumption)))) rfl rfl rfl (k_sumFrom zu (by omega) (by omega) (by omega) (by omega) (by omega) (by omega)) ?_
            dsimp only [Option.toList, List.cons_append, List.nil_append]
            have q7 := ksf_in (m := m) (w := w) (l := l) (by omega) (by omega)
            refine e_lload rfl dX9_upper_82 ?_
            refine e_iload rfl dX9_upper_84 ?_
            refine eS3 mtX9_tell msX9_tell lkX9_153 dX9_upper_86 rfl rfl (k_tell (by omega) (by omega) (by omega) (by omega) (by omega) (by omega)) ?_
            dsimp only [Option.toList, List.cons_append, List.nil_append]
            refine e_lreturn dX9_upper_89 rfl ?_
            exact kQc_0 (by unfold a_upper; (repeat' split) <;> first | rfl | (exfalso; omega)) z
          · refine e_lload rfl dX9_upper_54 ?_
            refine e_aload_n rfl dX9_upper_56 ?_
            refine e_getf fdX9_34 dX9_upper_57 (by first | assumption | exact kup_s | exact kup_n (by omega) (by first | assumption | exact kup_s | exact kup_n (by omega) (by first | assumption | exact kup_s | exact kup_n (by omega) (by assumption)))) rfl ?_
            refine e_iload_n rfl dX9_upper_60 ?_
            refine e_iload_n rfl dX9_upper_61 ?_
            refine e_iconst dX9_upper_62 ?_
            refine eV3 mtX3_countFrom miX3_countFrom lkX9_149 dX9_upper_63 (by first | assumption | exact kup_s | exact kup_n (by omega) (by first | assumption | exact kup_s | exact kup_n (by omega) (by first | assumption | exact kup_s | exact kup_n (by omega) (by assumption)))) rfl rfl rfl (k_countFrom zu (by omega) (by omega) (by omega) (by omega) (by omega) (by omega)) ?_
            dsimp only [Option.toList, List.cons_append, List.nil_append]
            have q7 := kcf_in (m := m) (w := w) (l := 0) (by omega) (by omega)
            refine e_iload rfl dX9_upper_66 ?_
            refine eS3 mtX9_tell msX9_tell lkX9_153 dX9_upper_68 rfl rfl (k_tell (by omega) (by omega) (by omega) (by omega) (by omega) (by omega)) ?_
            dsimp only [Option.toList, List.cons_append, List.nil_append]
            refine e_lreturn dX9_upper_71 rfl ?_
            exact kQc_0 (by unfold a_upper; (repeat' split) <;> first | rfl | (exfalso; omega)) z
        · refine e_ldc2 (z := (-1000000000000000002)) kcX9_147 (by decide) dX9_upper_33 ?_
          refine e_lreturn dX9_upper_36 rfl ?_
          exact kQc_0 (by unfold a_upper; (repeat' split) <;> first | rfl | (exfalso; omega)) z
set_option maxHeartbeats 4000000 in
set_option maxRecDepth 100000 in
theorem k_written {G : kG} {d : Nat} {h : Nat → Option kC} {n : Nat} {Z : kCs} (g : rSt G) (z : rKI G h Z) (ok : kCok Z)  {l : Int} (hl : inI l) {x : Int} (hx : inI x) {y : Int} (hy : inI y) {p : Int} (hp : inI p) : kCall G mX9_written (d + 4) 0 0 [.ref (gB G + 0), .int (jI l), .int (jI x), .int (jI y), .int (jI p)] h n (kQc G h n (.long (jL (a_written Z l x y p))) (Z)) := by
  show kE G mX9_written (d + 4) 0 0 0 [some (.ref (gB G + 0)), some (.int (jI l)), some (.int (jI x)), some (.int (jI y)), some (.int (jI p))] [] h n _
  obtain ⟨⟨z0, ⟨f0, z28, z28f⟩, zu⟩, zp, zn, zi, zk, ⟨q, zq⟩, ⟨P, zP⟩, ⟨s, zs⟩, A9, E9, t9, zt⟩ := id z
  have zp1 := zp.1
  have zn1 := zn.1.1
  have zu1 := zu.1
  obtain ⟨okn, ⟨p0, p1, p2⟩, oki, okk⟩ := id ok
  refine e_iload_n rfl dX9_written_0 ?_
  refine eS1 mtX9_isHeight msX9_isHeight lkX9_65 dX9_written_1 rfl rfl (k_isHeight (by first | assumption | (unfold inI at *; omega))) ?_
  dsimp only [Option.toList, List.cons_append, List.nil_append]
  refine e_ifeqP (tgt := 29) dX9_written_4 (by decide) (fun c4 => ?_) (fun c4 => ?_)
  · refine e_ldc2 (z := (-1000000000000000002)) kcX9_147 (by decide) dX9_written_29 ?_
    refine e_lreturn dX9_written_32 rfl ?_
    exact kQc_0 (by unfold a_written; (repeat' split) <;> first | rfl | (exfalso; omega)) z
  · refine e_iload_n rfl dX9_written_7 ?_
    refine eS1 mtX9_isHeight msX9_isHeight lkX9_65 dX9_written_8 rfl rfl (k_isHeight (by first | assumption | (unfold inI at *; omega))) ?_
    dsimp only [Option.toList, List.cons_append, List.nil_append]
    refine e_ifeqP (tgt := 29) dX9_written_11 (by decide) (fun c11 => ?_) (fun c11 => ?_)
    · refine e_ldc2 (z := (-1000000000000000002)) kcX9_147 (by decide) dX9_written_29 ?_
      refine e_lreturn dX9_written_32 rfl ?_
      exact kQc_0 (by unfold a_written; (repeat' split) <;> first | rfl | (exfalso; omega)) z
    · refine e_iload_n rfl dX9_written_14 ?_
      refine eS1 mtX9_isHeight msX9_isHeight lkX9_65 dX9_written_15 rfl rfl (k_isHeight (by first | assumption | (unfold inI at *; omega))) ?_
      dsimp only [Option.toList, List.cons_append, List.nil_append]
      refine e_ifeqP (tgt := 29) dX9_written_18 (by decide) (fun c18 => ?_) (fun c18 => ?_)
      · refine e_ldc2 (z := (-1000000000000000002)) kcX9_147 (by decide) dX9_written_29 ?_
        refine e_lreturn dX9_written_32 rfl ?_
        exact kQc_0 (by unfold a_written; (repeat' split) <;> first | rfl | (exfalso; omega)) z
      · refine e_iload rfl dX9_written_21 ?_
        refine eS1 mtX9_isPart msX9_isPart lkX9_144 dX9_written_23 rfl rfl (k_isPart (by first | assumption | (unfold inI at *; omega))) ?_
        dsimp only [Option.toList, List.cons_append, List.nil_append]
        refine e_ifneP (tgt := 33) dX9_written_26 (by decide) (fun c26 => ?_) (fun c26 => ?_)
        · refine e_aload_n rfl dX9_written_33 ?_
          refine e_getf fdX9_19 dX9_written_34 (by first | assumption | exact kup_s | exact kup_n (by omega) (by first | assumption | exact kup_s | exact kup_n (by omega) (by first | assumption | exact kup_s | exact kup_n (by omega) (by assumption)))) rfl ?_
          refine e_iload_n rfl dX9_written_37 ?_
          refine e_iload_n rfl dX9_written_38 ?_
          refine e_iload_n rfl dX9_written_39 ?_
          refine eV3 mtX2_hundredths miX2_hundredths lkX9_193 dX9_written_40 (by first | assumption | exact kup_s | exact kup_n (by omega) (by first | assumption | exact kup_s | exact kup_n (by omega) (by first | assumption | exact kup_s | exact kup_n (by omega) (by assumption)))) rfl rfl rfl (k_hundredths zn.1 okn (by omega) (by omega) (by omega) (by omega) (by omega) (by omega)) ?_
          dsimp only [Option.toList, List.cons_append, List.nil_append]
          have q8 := kwr_in okn.2.2.1 l x y
          refine e_i2l (by first | assumption | (unfold inI at *; omega)) dX9_written_43 ?_
          refine e_ldc2 (z := 100) kcX9_196 (by decide) dX9_written_44 ?_
          refine e_iload rfl dX9_written_47 ?_
          refine eS3 mtX9_tell msX9_tell lkX9_153 dX9_written_49 rfl rfl (k_tell (by omega) (by omega) (by omega) (by omega) (by omega) (by omega)) ?_
          dsimp only [Option.toList, List.cons_append, List.nil_append]
          refine e_lreturn dX9_written_52 rfl ?_
          exact kQc_0 (by unfold a_written; (repeat' split) <;> first | rfl | (exfalso; omega)) z
        · refine e_ldc2 (z := (-1000000000000000002)) kcX9_147 (by decide) dX9_written_29 ?_
          refine e_lreturn dX9_written_32 rfl ?_
          exact kQc_0 (by unfold a_written; (repeat' split) <;> first | rfl | (exfalso; omega)) z
