/-! THE CLASS: BACK, SORTS -/
section KI
variable {G : kG} {M M' : kM} {d c0 s0 pc np idx : Nat} {L : List (Option Value)} {st : List Value} {h h1 : Nat → Option kC} {n n1 : Nat} {Post : kPo}
theorem eI5 {a1 a2 a3 a4 a5 : Value} (hm : kMt M' 5) (hret : M'.2.2.2 = none) (hname : M'.1.name = "<init>") (hi : kWd (.instanceMethod M'.1)) (hl : kWd (.methodLink M.1.cls idx M'.1)) (hd : decode M.2.1 pc = .ok (.invokespecial idx, 3)) {i : Nat} (hav : Nat.ble (lg_sl (.ref (gB G + i) :: [a1, a2, a3, a4, a5] : List Value)).length M'.2.2.1 = true) (hrm : Nat.ble (st.map fun v => v.category).sum 8 = true) (hC : kCall G M' d 0 0 (.ref (gB G + i) :: [a1, a2, a3, a4, a5]) h n (kre none h1 n1)) (kk : kE G M (d + 1) c0 s0 (pc + 3) L st h1 n1 Post) : kE G M (d + 1) c0 s0 pc L (a5 :: a4 :: a3 :: a2 :: a1 :: .ref (gB G + i) :: st) h n Post := by
  have h9 := e_callI (L := L) (c2 := c0) (s2 := s0) (st := st) (Post := Post) hm hret hname hi hl hd rfl (Nat.le_of_ble_eq_true hav) (Nat.le_of_ble_eq_true hrm) hC (fun r' h' n' hp => by obtain ⟨rfl, rfl, rfl⟩ := hp; exact kk) (stk := a5 :: a4 :: a3 :: a2 :: a1 :: .ref (gB G + i) :: st) rfl
  rwa [Nat.zero_add, Nat.zero_add] at h9
end KI
def kbs (W : Nat → Int) (m w l y : Int) : Int := ksum (fun x => khm m w x * kwr W l x y) 64
theorem khw_in {W : Nat → Int} (ok : kWok W) {m w : Int} (w1 : 1 ≤ w) (w8 : w ≤ 8) (l x y : Int) : 0 ≤ khm m w x * kwr W l x y ∧ khm m w x * kwr W l x y ≤ 3861000 := by
  have a1 := khm_in (m := m) w1 w8 x
  have a2 := kwr_in ok l x y
  refine ⟨Int.mul_nonneg a1.1 a2.1, ?_⟩
  have a3 : khm m w x * kwr W l x y ≤ 12870 * 300 := Int.mul_le_mul a1.2 a2.2 a2.1 (by decide)
  omega
theorem kbs_in {W : Nat → Int} (ok : kWok W) {m w : Int} (w1 : 1 ≤ w) (w8 : w ≤ 8) (l y : Int) : 0 ≤ kbs W m w l y ∧ kbs W m w l y ≤ 247104000 := by
  refine ⟨ksum_nn (fun x _ => (khw_in ok w1 w8 l x y).1), Int.le_trans (ksum_le (fun x _ => (khw_in ok w1 w8 l x y).2)) (by omega)⟩
def a_back (Z : kCs) (m w l y x p : Int) : Int := if ¬ (((0 ≤ m ∧ m ≤ 63) ∧ 1 ≤ w ∧ w ≤ 8) ∧ (0 ≤ l ∧ l ≤ 63) ∧ (0 ≤ y ∧ y ≤ 63) ∧ (0 ≤ x ∧ x ≤ 63) ∧ 0 ≤ p ∧ p ≤ 1) then -1000000000000000002 else ktl (khm m w x * kwr (hW (cN Z)) l x y) (kbs (hW (cN Z)) m w l y) p
set_option maxHeartbeats 4000000 in
set_option maxRecDepth 100000 in
theorem k_back_lp {G : kG} {d : Nat} {h : Nat → Option kC} {n : Nat} {Z : kCs} (g : rSt G) (z : rKI G h Z) (ok : kCok Z) {m w l y x p : Int} (hv : (((0 ≤ m ∧ m ≤ 63) ∧ 1 ≤ w ∧ w ≤ 8) ∧ (0 ≤ l ∧ l ≤ 63) ∧ (0 ≤ y ∧ y ≤ 63) ∧ (0 ≤ x ∧ x ≤ 63) ∧ 0 ≤ p ∧ p ≤ 1))  : ∀ (f : Nat) (i : Nat) (c v : Int), v = (i : Int) → i ≤ 64 → 64 - (i : Int) ≤ f → c = ksum (fun x => khm m w x * kwr (hW (cN Z)) l x y) i → kE G mX9_back (d + 4) 0 0 49 [some (.ref (gB G + 0)), some (.int (jI m)), some (.int (jI w)), some (.int (jI l)), some (.int (jI y)), some (.int (jI x)), some (.int (jI p)), some (.long (jL c)), none, some (.int (jI v)), none] [] h n (kQc G h n (.long (jL (a_back Z m w l y x p))) (Z)) := by
  obtain ⟨⟨z0, ⟨f0, z28, z28f⟩, zu⟩, zp, zn, zi, zk, ⟨q, zq⟩, ⟨P, zP⟩, ⟨s, zs⟩, A9, E9, t9, zt⟩ := id z
  have zp1 := zp.1
  have zn1 := zn.1.1
  have zu1 := zu.1
  obtain ⟨okn, ⟨p0, p1, p2⟩, oki, okk⟩ := id ok
  intro f
  induction f with
  | zero =>
    intro i c v g1 g2 g3 g4
    refine e_iload rfl dX9_back_49 ?_
    refine e_bipush (by decide) dX9_back_51 ?_
    refine e_icmp_ge (tgt := 93) dX9_back_53 (by decide) (by first | assumption | (unfold inI at *; omega)) (by first | assumption | (unfold inI at *; omega)) (fun c53 => ?_) (fun c53 => ?_)
    · refine e_aload_n rfl dX9_back_93 ?_
      refine e_getf fdX9_34 dX9_back_94 (by first | assumption | exact kup_s | exact kup_n (by omega) (by first | assumption | exact kup_s | exact kup_n (by omega) (by first | assumption | exact kup_s | exact kup_n (by omega) (by assumption)))) rfl ?_
      refine e_iload_n rfl dX9_back_97 ?_
      refine e_iload_n rfl dX9_back_98 ?_
      refine e_iload rfl dX9_back_99 ?_
      refine eV3 mtX3_menAt miX3_menAt lkX9_141 dX9_back_101 (by first | assumption | exact kup_s | exact kup_n (by omega) (by first | assumption | exact kup_s | exact kup_n (by omega) (by first | assumption | exact kup_s | exact kup_n (by omega) (by assumption)))) rfl rfl rfl (k_menAtH zu (by omega) (by omega) (by omega) (by omega) (by omega) (by omega)) ?_
      dsimp only [Option.toList, List.cons_append, List.nil_append]
      have q8 := khm_in (m := m) (w := w) (by omega) (by omega) x
      refine e_i2l (by first | assumption | (unfold inI at *; omega)) dX9_back_104 ?_
      refine e_aload_n rfl dX9_back_105 ?_
      refine e_getf fdX9_19 dX9_back_106 (by first | assumption | exact kup_s | exact kup_n (by omega) (by first | assumption | exact kup_s | exact kup_n (by omega) (by first | assumption | exact kup_s | exact kup_n (by omega) (by assumption)))) rfl ?_
      refine e_iload_n rfl dX9_back_109 ?_
      refine e_iload rfl dX9_back_110 ?_
      refine e_iload rfl dX9_back_112 ?_
      refine eV3 mtX2_hundredths miX2_hundredths lkX9_193 dX9_back_114 (by first | assumption | exact kup_s | exact kup_n (by omega) (by first | assumption | exact kup_s | exact kup_n (by omega) (by first | assumption | exact kup_s | exact kup_n (by omega) (by assumption)))) rfl rfl rfl (k_hundredths zn.1 okn (by omega) (by omega) (by omega) (by omega) (by omega) (by omega)) ?_
      dsimp only [Option.toList, List.cons_append, List.nil_append]
      have q7 := kwr_in okn.2.2.1 l x y
      have q6 := khw_in okn.2.2.1 (m := m) (w := w) (by omega) (by omega) l x y
      have q5 := kbs_in okn.2.2.1 (m := m) (w := w) (by omega) (by omega) l y
      have q4 : c = kbs (hW (cN Z)) m w l y := by rw [g4, show i = 64 by omega]; rfl
      refine e_i2l (by first | assumption | (unfold inI at *; omega)) dX9_back_117 ?_
      refine e_lmul dX9_back_118 ?_
      refine e_lstore dX9_back_119 rfl rfl ?_
      dsimp only [List.set]
      refine e_lload rfl dX9_back_121 ?_
      refine e_lload rfl dX9_back_123 ?_
      refine e_iload rfl dX9_back_125 ?_
      refine eS3 mtX9_tell msX9_tell lkX9_153 dX9_back_127 rfl rfl (k_tell (by omega) (by omega) (by omega) (by omega) (by omega) (by omega)) ?_
      dsimp only [Option.toList, List.cons_append, List.nil_append]
      refine e_lreturn dX9_back_130 rfl ?_
      exact kQc_0 (by rw [g4, show i = 64 by omega]; unfold a_back; rw [if_neg (by omega)]; rfl) z
    · exact absurd c53 (by omega)
  | succ f ih =>
    intro i c v g1 g2 g3 g4
    subst g1
    refine e_iload rfl dX9_back_49 ?_
    refine e_bipush (by decide) dX9_back_51 ?_
    refine e_icmp_ge (tgt := 93) dX9_back_53 (by decide) (by first | assumption | (unfold inI at *; omega)) (by first | assumption | (unfold inI at *; omega)) (fun c53 => ?_) (fun c53 => ?_)
    · refine e_aload_n rfl dX9_back_93 ?_
      refine e_getf fdX9_34 dX9_back_94 (by first | assumption | exact kup_s | exact kup_n (by omega) (by first | assumption | exact kup_s | exact kup_n (by omega) (by first | assumption | exact kup_s | exact kup_n (by omega) (by assumption)))) rfl ?_
      refine e_iload_n rfl dX9_back_97 ?_
      refine e_iload_n rfl dX9_back_98 ?_
      refine e_iload rfl dX9_back_99 ?_
      refine eV3 mtX3_menAt miX3_menAt lkX9_141 dX9_back_101 (by first | assumption | exact kup_s | exact kup_n (by omega) (by first | assumption | exact kup_s | exact kup_n (by omega) (by first | assumption | exact kup_s | exact kup_n (by omega) (by assumption)))) rfl rfl rfl (k_menAtH zu (by omega) (by omega) (by omega) (by omega) (by omega) (by omega)) ?_
      dsimp only [Option.toList, List.cons_append, List.nil_append]
      have q8 := khm_in (m := m) (w := w) (by omega) (by omega) x
      refine e_i2l (by first | assumption | (unfold inI at *; omega)) dX9_back_104 ?_
      refine e_aload_n rfl dX9_back_105 ?_
      refine e_getf fdX9_19 dX9_back_106 (by first | assumption | exact kup_s | exact kup_n (by omega) (by first | assumption | exact kup_s | exact kup_n (by omega) (by first | assumption | exact kup_s | exact kup_n (by omega) (by assumption)))) rfl ?_
      refine e_iload_n rfl dX9_back_109 ?_
      refine e_iload rfl dX9_back_110 ?_
      refine e_iload rfl dX9_back_112 ?_
      refine eV3 mtX2_hundredths miX2_hundredths lkX9_193 dX9_back_114 (by first | assumption | exact kup_s | exact kup_n (by omega) (by first | assumption | exact kup_s | exact kup_n (by omega) (by first | assumption | exact kup_s | exact kup_n (by omega) (by assumption)))) rfl rfl rfl (k_hundredths zn.1 okn (by omega) (by omega) (by omega) (by omega) (by omega) (by omega)) ?_
      dsimp only [Option.toList, List.cons_append, List.nil_append]
      have q7 := kwr_in okn.2.2.1 l x y
      have q6 := khw_in okn.2.2.1 (m := m) (w := w) (by omega) (by omega) l x y
      have q5 := kbs_in okn.2.2.1 (m := m) (w := w) (by omega) (by omega) l y
      have q4 : c = kbs (hW (cN Z)) m w l y := by rw [g4, show i = 64 by omega]; rfl
      refine e_i2l (by first | assumption | (unfold inI at *; omega)) dX9_back_117 ?_
      refine e_lmul dX9_back_118 ?_
      refine e_lstore dX9_back_119 rfl rfl ?_
      dsimp only [List.set]
      refine e_lload rfl dX9_back_121 ?_
      refine e_lload rfl dX9_back_123 ?_
      refine e_iload rfl dX9_back_125 ?_
      refine eS3 mtX9_tell msX9_tell lkX9_153 dX9_back_127 rfl rfl (k_tell (by omega) (by omega) (by omega) (by omega) (by omega) (by omega)) ?_
      dsimp only [Option.toList, List.cons_append, List.nil_append]
      refine e_lreturn dX9_back_130 rfl ?_
      exact kQc_0 (by rw [g4, show i = 64 by omega]; unfold a_back; rw [if_neg (by omega)]; rfl) z
    · refine e_lload rfl dX9_back_56 ?_
      refine e_aload_n rfl dX9_back_58 ?_
      refine e_getf fdX9_34 dX9_back_59 (by first | assumption | exact kup_s | exact kup_n (by omega) (by first | assumption | exact kup_s | exact kup_n (by omega) (by first | assumption | exact kup_s | exact kup_n (by omega) (by assumption)))) rfl ?_
      refine e_iload_n rfl dX9_back_62 ?_
      refine e_iload_n rfl dX9_back_63 ?_
      refine e_iload rfl dX9_back_64 ?_
      refine eV3 mtX3_menAt miX3_menAt lkX9_141 dX9_back_66 (by first | assumption | exact kup_s | exact kup_n (by omega) (by first | assumption | exact kup_s | exact kup_n (by omega) (by first | assumption | exact kup_s | exact kup_n (by omega) (by assumption)))) rfl rfl rfl (k_menAtH zu (by omega) (by omega) (by omega) (by omega) (by omega) (by omega)) ?_
      dsimp only [Option.toList, List.cons_append, List.nil_append]
      have q8 := khm_in (m := m) (w := w) (by omega) (by omega) (i : Int)
      refine e_i2l (by first | assumption | (unfold inI at *; omega)) dX9_back_69 ?_
      refine e_aload_n rfl dX9_back_70 ?_
      refine e_getf fdX9_19 dX9_back_71 (by first | assumption | exact kup_s | exact kup_n (by omega) (by first | assumption | exact kup_s | exact kup_n (by omega) (by first | assumption | exact kup_s | exact kup_n (by omega) (by assumption)))) rfl ?_
      refine e_iload_n rfl dX9_back_74 ?_
      refine e_iload rfl dX9_back_75 ?_
      refine e_iload rfl dX9_back_77 ?_
      refine eV3 mtX2_hundredths miX2_hundredths lkX9_193 dX9_back_79 (by first | assumption | exact kup_s | exact kup_n (by omega) (by first | assumption | exact kup_s | exact kup_n (by omega) (by first | assumption | exact kup_s | exact kup_n (by omega) (by assumption)))) rfl rfl rfl (k_hundredths zn.1 okn (by omega) (by omega) (by omega) (by omega) (by omega) (by omega)) ?_
      dsimp only [Option.toList, List.cons_append, List.nil_append]
      have q7 := kwr_in okn.2.2.1 l (i : Int) y
      refine e_i2l (by first | assumption | (unfold inI at *; omega)) dX9_back_82 ?_
      refine e_lmul dX9_back_83 ?_
      refine e_ladd dX9_back_84 ?_
      refine e_lstore dX9_back_85 rfl rfl ?_
      dsimp only [List.set]
      refine e_iinc dX9_back_87 rfl rfl ?_
      dsimp only [List.set]
      refine e_goto (tgt := 49) dX9_back_90 (by decide) ?_
      exact ih (i + 1) _ _ (by omega) (by omega) (by omega) (by rw [g4, ksum_s])
set_option maxHeartbeats 4000000 in
set_option maxRecDepth 100000 in
theorem k_back {G : kG} {d : Nat} {h : Nat → Option kC} {n : Nat} {Z : kCs} (g : rSt G) (z : rKI G h Z) (ok : kCok Z)  {m : Int} (hm : inI m) {w : Int} (hw : inI w) {l : Int} (hl : inI l) {y : Int} (hy : inI y) {x : Int} (hx : inI x) {p : Int} (hp : inI p) : kCall G mX9_back (d + 4) 0 0 [.ref (gB G + 0), .int (jI m), .int (jI w), .int (jI l), .int (jI y), .int (jI x), .int (jI p)] h n (kQc G h n (.long (jL (a_back Z m w l y x p))) (Z)) := by
  show kE G mX9_back (d + 4) 0 0 0 [some (.ref (gB G + 0)), some (.int (jI m)), some (.int (jI w)), some (.int (jI l)), some (.int (jI y)), some (.int (jI x)), some (.int (jI p)), none, none, none, none] [] h n _
  obtain ⟨⟨z0, ⟨f0, z28, z28f⟩, zu⟩, zp, zn, zi, zk, ⟨q, zq⟩, ⟨P, zP⟩, ⟨s, zs⟩, A9, E9, t9, zt⟩ := id z
  have zp1 := zp.1
  have zn1 := zn.1.1
  have zu1 := zu.1
  obtain ⟨okn, ⟨p0, p1, p2⟩, oki, okk⟩ := id ok
  refine e_iload_n rfl dX9_back_0 ?_
  refine e_iload_n rfl dX9_back_1 ?_
  refine eS2 mtX9_isHump msX9_isHump lkX9_137 dX9_back_2 rfl rfl (k_isHump (by first | assumption | (unfold inI at *; omega)) (by first | assumption | (unfold inI at *; omega))) ?_
  dsimp only [Option.toList, List.cons_append, List.nil_append]
  refine e_ifeqP (tgt := 39) dX9_back_5 (by decide) (fun c5 => ?_) (fun c5 => ?_)
  · refine e_ldc2 (z := (-1000000000000000002)) kcX9_147 (by decide) dX9_back_39 ?_
    refine e_lreturn dX9_back_42 rfl ?_
    exact kQc_0 (by unfold a_back; rw [if_pos (by omega)]) z
  · refine e_iload_n rfl dX9_back_8 ?_
    refine eS1 mtX9_isHeight msX9_isHeight lkX9_65 dX9_back_9 rfl rfl (k_isHeight (by first | assumption | (unfold inI at *; omega))) ?_
    dsimp only [Option.toList, List.cons_append, List.nil_append]
    refine e_ifeqP (tgt := 39) dX9_back_12 (by decide) (fun c12 => ?_) (fun c12 => ?_)
    · refine e_ldc2 (z := (-1000000000000000002)) kcX9_147 (by decide) dX9_back_39 ?_
      refine e_lreturn dX9_back_42 rfl ?_
      exact kQc_0 (by unfold a_back; rw [if_pos (by omega)]) z
    · refine e_iload rfl dX9_back_15 ?_
      refine eS1 mtX9_isHeight msX9_isHeight lkX9_65 dX9_back_17 rfl rfl (k_isHeight (by first | assumption | (unfold inI at *; omega))) ?_
      dsimp only [Option.toList, List.cons_append, List.nil_append]
      refine e_ifeqP (tgt := 39) dX9_back_20 (by decide) (fun c20 => ?_) (fun c20 => ?_)
      · refine e_ldc2 (z := (-1000000000000000002)) kcX9_147 (by decide) dX9_back_39 ?_
        refine e_lreturn dX9_back_42 rfl ?_
        exact kQc_0 (by unfold a_back; rw [if_pos (by omega)]) z
      · refine e_iload rfl dX9_back_23 ?_
        refine eS1 mtX9_isHeight msX9_isHeight lkX9_65 dX9_back_25 rfl rfl (k_isHeight (by first | assumption | (unfold inI at *; omega))) ?_
        dsimp only [Option.toList, List.cons_append, List.nil_append]
        refine e_ifeqP (tgt := 39) dX9_back_28 (by decide) (fun c28 => ?_) (fun c28 => ?_)
        · refine e_ldc2 (z := (-1000000000000000002)) kcX9_147 (by decide) dX9_back_39 ?_
          refine e_lreturn dX9_back_42 rfl ?_
          exact kQc_0 (by unfold a_back; rw [if_pos (by omega)]) z
        · refine e_iload rfl dX9_back_31 ?_
          refine eS1 mtX9_isPart msX9_isPart lkX9_144 dX9_back_33 rfl rfl (k_isPart (by first | assumption | (unfold inI at *; omega))) ?_
          dsimp only [Option.toList, List.cons_append, List.nil_append]
          refine e_ifneP (tgt := 43) dX9_back_36 (by decide) (fun c36 => ?_) (fun c36 => ?_)
          · refine e_lconst (z := 0) (by decide) dX9_back_43 ?_
            refine e_lstore dX9_back_44 rfl rfl ?_
            dsimp only [List.set]
            refine e_iconst dX9_back_46 ?_
            refine e_istore dX9_back_47 rfl rfl ?_
            dsimp only [List.set]
            exact k_back_lp g z ok (by omega) 100 0 _ _ (by omega) (by omega) (by omega) rfl
          · refine e_ldc2 (z := (-1000000000000000002)) kcX9_147 (by decide) dX9_back_39 ?_
            refine e_lreturn dX9_back_42 rfl ?_
            exact kQc_0 (by unfold a_back; rw [if_pos (by omega)]) z
set_option maxHeartbeats 4000000 in
set_option maxRecDepth 100000 in
theorem k_sortsI {G : kG} {d : Nat} {h : Nat → Option kC} {n : Nat} {a b i : Nat} (r : rHu G h a b) (hi : h i = some (kob 4 [.long (jL 0), .long (jL 0), .long (jL 0), .long (jL 0)])) (e1 : i ≠ a) (e2 : i < b ∨ b + 9 < i) {x y w l : Int} (x0 : 0 ≤ x ∧ x ≤ 63) (y0 : 0 ≤ y ∧ y ≤ 63) (w0 : 1 ≤ w ∧ w ≤ 8) (l0 : 0 ≤ l ∧ l ≤ 63) : kCall G mX6_init (d + 3) 0 0 [.ref (gB G + i), .ref (gB G + a), .int (jI x), .int (jI y), .int (jI w), .int (jI l)] h n (kre none (kup h i (kob 4 [.long (jL (ksf x w l)), .long (jL (kcf x w l)), .long (jL (ksf y w l)), .long (jL (kcf y w l))])) n) := by
  show kE G mX6_init (d + 3) 0 0 0 [some (.ref (gB G + i)), some (.ref (gB G + a)), some (.int (jI x)), some (.int (jI y)), some (.int (jI w)), some (.int (jI l))] [] h n _
  obtain ⟨r1, r2, r3⟩ := id r
  refine e_aload_n rfl dX6_init_0 ?_
  refine e_objInit lkX6_3 dX6_init_1 rfl ?_
  refine e_aload_n rfl dX6_init_4 ?_
  refine e_aload_n rfl dX6_init_5 ?_
  refine e_iload_n rfl dX6_init_6 ?_
  refine e_iload rfl dX6_init_7 ?_
  refine e_iload rfl dX6_init_9 ?_
  refine eV3 mtX3_sumFrom miX3_sumFrom lkX6_9 dX6_init_11 (by first | assumption | exact kup_s | exact kup_n (by omega) (by first | assumption | exact kup_s | exact kup_n (by omega) (by first | assumption | exact kup_s | exact kup_n (by omega) (by assumption)))) rfl rfl rfl (k_sumFrom (by first | exact r | exact rHu_up r e1 e2) (by omega) (by omega) (by omega) (by omega) (by omega) (by omega)) ?_
  dsimp only [Option.toList, List.cons_append, List.nil_append]
  refine e_putF pfX6_15 dX6_init_14 rfl (by first | assumption | exact kup_s | exact kup_n (by omega) (by first | assumption | exact kup_s | exact kup_n (by omega) (by first | assumption | exact kup_s | exact kup_n (by omega) (by assumption)))) rfl rfl rfl ?_
  dsimp only [List.set]
  refine e_aload_n rfl dX6_init_17 ?_
  refine e_aload_n rfl dX6_init_18 ?_
  refine e_iload_n rfl dX6_init_19 ?_
  refine e_iload rfl dX6_init_20 ?_
  refine e_iload rfl dX6_init_22 ?_
  refine eV3 mtX3_countFrom miX3_countFrom lkX6_21 dX6_init_24 (by first | assumption | exact kup_s | exact kup_n (by omega) (by first | assumption | exact kup_s | exact kup_n (by omega) (by first | assumption | exact kup_s | exact kup_n (by omega) (by assumption)))) rfl rfl rfl (k_countFrom (by first | exact r | exact rHu_up r e1 e2) (by omega) (by omega) (by omega) (by omega) (by omega) (by omega)) ?_
  dsimp only [Option.toList, List.cons_append, List.nil_append]
  refine e_putF pfX6_24 dX6_init_27 rfl (by first | assumption | exact kup_s | exact kup_n (by omega) (by first | assumption | exact kup_s | exact kup_n (by omega) (by first | assumption | exact kup_s | exact kup_n (by omega) (by assumption)))) rfl rfl rfl ?_
  dsimp only [List.set]
  rw [kup_kup]
  refine e_aload_n rfl dX6_init_30 ?_
  refine e_aload_n rfl dX6_init_31 ?_
  refine e_iload_n rfl dX6_init_32 ?_
  refine e_iload rfl dX6_init_33 ?_
  refine e_iload rfl dX6_init_35 ?_
  refine eV3 mtX3_sumFrom miX3_sumFrom lkX6_9 dX6_init_37 (by first | assumption | exact kup_s | exact kup_n (by omega) (by first | assumption | exact kup_s | exact kup_n (by omega) (by first | assumption | exact kup_s | exact kup_n (by omega) (by assumption)))) rfl rfl rfl (k_sumFrom (by first | exact r | exact rHu_up r e1 e2) (by omega) (by omega) (by omega) (by omega) (by omega) (by omega)) ?_
  dsimp only [Option.toList, List.cons_append, List.nil_append]
  refine e_putF pfX6_27 dX6_init_40 rfl (by first | assumption | exact kup_s | exact kup_n (by omega) (by first | assumption | exact kup_s | exact kup_n (by omega) (by first | assumption | exact kup_s | exact kup_n (by omega) (by assumption)))) rfl rfl rfl ?_
  dsimp only [List.set]
  rw [kup_kup]
  refine e_aload_n rfl dX6_init_43 ?_
  refine e_aload_n rfl dX6_init_44 ?_
  refine e_iload_n rfl dX6_init_45 ?_
  refine e_iload rfl dX6_init_46 ?_
  refine e_iload rfl dX6_init_48 ?_
  refine eV3 mtX3_countFrom miX3_countFrom lkX6_21 dX6_init_50 (by first | assumption | exact kup_s | exact kup_n (by omega) (by first | assumption | exact kup_s | exact kup_n (by omega) (by first | assumption | exact kup_s | exact kup_n (by omega) (by assumption)))) rfl rfl rfl (k_countFrom (by first | exact r | exact rHu_up r e1 e2) (by omega) (by omega) (by omega) (by omega) (by omega) (by omega)) ?_
  dsimp only [Option.toList, List.cons_append, List.nil_append]
  refine e_putF pfX6_30 dX6_init_53 rfl (by first | assumption | exact kup_s | exact kup_n (by omega) (by first | assumption | exact kup_s | exact kup_n (by omega) (by first | assumption | exact kup_s | exact kup_n (by omega) (by assumption)))) rfl rfl rfl ?_
  dsimp only [List.set]
  rw [kup_kup]
  refine e_return dX6_init_56 rfl ?_
  exact ⟨rfl, rfl, rfl⟩
set_option maxHeartbeats 4000000 in
set_option maxRecDepth 100000 in
theorem k_areSorts {G : kG} {d : Nat} {h : Nat → Option kC} {n : Nat} {x y w l : Int} (hx : inI x) (hy : inI y) (hw : inI w) (hl : inI l) : kCall G mX9_areSorts (d + 3) 0 0 [.int (jI x), .int (jI y), .int (jI w), .int (jI l)] h n (kre (some (.int (jI (if ((0 ≤ x ∧ x ≤ 63) ∧ 1 ≤ w ∧ w ≤ 8) ∧ (0 ≤ y ∧ y ≤ 63) ∧ 0 ≤ l ∧ l ≤ 63 then 1 else 0)))) h n) := by
  show kE G mX9_areSorts (d + 3) 0 0 0 [some (.int (jI x)), some (.int (jI y)), some (.int (jI w)), some (.int (jI l))] [] h n _
  refine e_iload_n rfl dX9_areSorts_0 ?_
  refine e_iload_n rfl dX9_areSorts_1 ?_
  refine eS2 mtX9_isHump msX9_isHump lkX9_137 dX9_areSorts_2 rfl rfl (k_isHump (by first | assumption | (unfold inI at *; omega)) (by first | assumption | (unfold inI at *; omega))) ?_
  dsimp only [Option.toList, List.cons_append, List.nil_append]
  refine e_ifeqP (tgt := 26) dX9_areSorts_5 (by decide) (fun c5 => ?_) (fun c5 => ?_)
  · refine e_iconst dX9_areSorts_26 ?_
    refine e_ireturn dX9_areSorts_27 rfl (by decide) ?_
    exact ⟨by (repeat' split) <;> first | rfl | (exfalso; omega), rfl, rfl⟩
  · refine e_iload_n rfl dX9_areSorts_8 ?_
    refine eS1 mtX9_isHeight msX9_isHeight lkX9_65 dX9_areSorts_9 rfl rfl (k_isHeight (by first | assumption | (unfold inI at *; omega))) ?_
    dsimp only [Option.toList, List.cons_append, List.nil_append]
    refine e_ifeqP (tgt := 26) dX9_areSorts_12 (by decide) (fun c12 => ?_) (fun c12 => ?_)
    · refine e_iconst dX9_areSorts_26 ?_
      refine e_ireturn dX9_areSorts_27 rfl (by decide) ?_
      exact ⟨by (repeat' split) <;> first | rfl | (exfalso; omega), rfl, rfl⟩
    · refine e_iload_n rfl dX9_areSorts_15 ?_
      refine eS1 mtX9_isHeight msX9_isHeight lkX9_65 dX9_areSorts_16 rfl rfl (k_isHeight (by first | assumption | (unfold inI at *; omega))) ?_
      dsimp only [Option.toList, List.cons_append, List.nil_append]
      refine e_ifeqP (tgt := 26) dX9_areSorts_19 (by decide) (fun c19 => ?_) (fun c19 => ?_)
      · refine e_iconst dX9_areSorts_26 ?_
        refine e_ireturn dX9_areSorts_27 rfl (by decide) ?_
        exact ⟨by (repeat' split) <;> first | rfl | (exfalso; omega), rfl, rfl⟩
      · refine e_iconst dX9_areSorts_22 ?_
        refine e_goto (tgt := 27) dX9_areSorts_23 (by decide) ?_
        refine e_ireturn dX9_areSorts_27 rfl (by decide) ?_
        exact ⟨by (repeat' split) <;> first | rfl | (exfalso; omega), rfl, rfl⟩
set_option maxHeartbeats 4000000 in
set_option maxRecDepth 100000 in
theorem k_areShares {G : kG} {d : Nat} {h : Nat → Option kC} {n : Nat} {v : Int} (hv : inI v) : kCall G mX9_areShares d 0 0 [.int (jI v)] h n (kre (some (.int (jI (if 0 ≤ v ∧ v / 1000 ≤ v % 1000 ∧ v % 1000 ≤ 100 then 1 else 0)))) h n) := by
  show kE G mX9_areShares d 0 0 0 [some (.int (jI v)), none, none] [] h n _
  refine e_iload_n rfl dX9_areShares_0 ?_
  refine e_sipush (by decide) dX9_areShares_1 ?_
  refine e_idiv (by first | assumption | (unfold inI at *; omega)) (by first | assumption | (unfold inI at *; omega)) (by omega) dX9_areShares_4 ?_
  refine e_istore_n dX9_areShares_5 rfl rfl ?_
  dsimp only [List.set]
  refine e_iload_n rfl dX9_areShares_6 ?_
  refine e_sipush (by decide) dX9_areShares_7 ?_
  refine e_irem (by first | assumption | (unfold inI at *; omega)) (by first | assumption | (unfold inI at *; omega)) (by omega) dX9_areShares_10 ?_
  refine e_istore_n dX9_areShares_11 rfl rfl ?_
  dsimp only [List.set]
  refine e_iload_n rfl dX9_areShares_12 ?_
  refine e_if_lt (tgt := 31) dX9_areShares_13 (by decide) (by first | assumption | (unfold inI at *; omega)) (fun c13 => ?_) (fun c13 => ?_)
  · refine e_iconst dX9_areShares_31 ?_
    refine e_ireturn dX9_areShares_32 rfl (by decide) ?_
    exact ⟨by (repeat' split) <;> first | rfl | (exfalso; omega), rfl, rfl⟩
  · rw [Int.tdiv_eq_ediv_of_nonneg (show 0 ≤ v by omega), Int.tmod_eq_emod_of_nonneg (show 0 ≤ v by omega)]
    refine e_iload_n rfl dX9_areShares_16 ?_
    refine e_iload_n rfl dX9_areShares_17 ?_
    refine e_icmp_gt (tgt := 31) dX9_areShares_18 (by decide) (by first | assumption | (unfold inI at *; omega)) (by first | assumption | (unfold inI at *; omega)) (fun c18 => ?_) (fun c18 => ?_)
    · refine e_iconst dX9_areShares_31 ?_
      refine e_ireturn dX9_areShares_32 rfl (by decide) ?_
      exact ⟨by (repeat' split) <;> first | rfl | (exfalso; omega), rfl, rfl⟩
    · refine e_iload_n rfl dX9_areShares_21 ?_
      refine e_bipush (by decide) dX9_areShares_22 ?_
      refine e_icmp_gt (tgt := 31) dX9_areShares_24 (by decide) (by first | assumption | (unfold inI at *; omega)) (by first | assumption | (unfold inI at *; omega)) (fun c24 => ?_) (fun c24 => ?_)
      · refine e_iconst dX9_areShares_31 ?_
        refine e_ireturn dX9_areShares_32 rfl (by decide) ?_
        exact ⟨by (repeat' split) <;> first | rfl | (exfalso; omega), rfl, rfl⟩
      · refine e_iconst dX9_areShares_27 ?_
        refine e_goto (tgt := 32) dX9_areShares_28 (by decide) ?_
        refine e_ireturn dX9_areShares_32 rfl (by decide) ?_
        exact ⟨by (repeat' split) <;> first | rfl | (exfalso; omega), rfl, rfl⟩
set_option maxHeartbeats 4000000 in
set_option maxRecDepth 100000 in
theorem k_tellFall {G : kG} {d : Nat} {h : Nat → Option kC} {n : Nat} {i : Nat} {s1 c1 s2 c2 : Int} (r : rSo h i s1 c1 s2 c2) {g j p : Int} (g0 : 0 ≤ g ∧ g ≤ 100) (j0 : 0 ≤ j ∧ j ≤ 100) (p0 : 0 ≤ p ∧ p ≤ 1) (u0 : -4611686018427387904 < kgap s1 c1 s2 c2 g j ∧ kgap s1 c1 s2 c2 g j < 4611686018427387904) (u1 : 0 ≤ kg2 c1 c2 g * kg2 c1 c2 j ∧ kg2 c1 c2 g * kg2 c1 c2 j < 4611686018427387904) : kCall G mX9_tellFall (d + 3) 0 0 [.ref (gB G + i), .int (jI g), .int (jI j), .int (jI p)] h n (kre (some (.long (jL (ktl (kgap s1 c1 s2 c2 g j) (kg2 c1 c2 g * kg2 c1 c2 j) p)))) h n) := by
  show kE G mX9_tellFall (d + 3) 0 0 0 [some (.ref (gB G + i)), some (.int (jI g)), some (.int (jI j)), some (.int (jI p))] [] h n _
  have r9 := r
  unfold rSo at r
  refine e_aload_n rfl dX9_tellFall_0 ?_
  refine e_iload_n rfl dX9_tellFall_1 ?_
  refine e_iload_n rfl dX9_tellFall_2 ?_
  refine eV2 mtX6_gap miX6_gap lkX9_300 dX9_tellFall_3 (by first | assumption | exact kup_s | exact kup_n (by omega) (by first | assumption | exact kup_s | exact kup_n (by omega) (by first | assumption | exact kup_s | exact kup_n (by omega) (by assumption)))) rfl rfl rfl (k_gap (by assumption) (by omega) (by omega) (by omega) (by omega)) ?_
  dsimp only [Option.toList, List.cons_append, List.nil_append]
  refine e_aload_n rfl dX9_tellFall_6 ?_
  refine e_iload_n rfl dX9_tellFall_7 ?_
  refine eV1 mtX6_count miX6_count lkX9_237 dX9_tellFall_8 (by first | assumption | exact kup_s | exact kup_n (by omega) (by first | assumption | exact kup_s | exact kup_n (by omega) (by first | assumption | exact kup_s | exact kup_n (by omega) (by assumption)))) rfl rfl rfl (k_scount (by assumption) (by omega) (by omega)) ?_
  dsimp only [Option.toList, List.cons_append, List.nil_append]
  refine e_aload_n rfl dX9_tellFall_11 ?_
  refine e_iload_n rfl dX9_tellFall_12 ?_
  refine eV1 mtX6_count miX6_count lkX9_237 dX9_tellFall_13 (by first | assumption | exact kup_s | exact kup_n (by omega) (by first | assumption | exact kup_s | exact kup_n (by omega) (by first | assumption | exact kup_s | exact kup_n (by omega) (by assumption)))) rfl rfl rfl (k_scount (by assumption) (by omega) (by omega)) ?_
  dsimp only [Option.toList, List.cons_append, List.nil_append]
  refine e_lmul dX9_tellFall_16 ?_
  refine e_iload_n rfl dX9_tellFall_17 ?_
  refine eS3 mtX9_tell msX9_tell lkX9_153 dX9_tellFall_18 rfl rfl (k_tell (by omega) (by omega) (by omega) (by omega) (by omega) (by omega)) ?_
  dsimp only [Option.toList, List.cons_append, List.nil_append]
  refine e_lreturn dX9_tellFall_21 rfl ?_
  exact ⟨rfl, rfl, rfl⟩
theorem kg2_in {x y c g : Int} (hx : 0 ≤ x ∧ x ≤ c) (hy : 0 ≤ y ∧ y ≤ c) (g0 : 0 ≤ g) (g1 : g ≤ 100) : 0 ≤ kg2 x y g ∧ kg2 x y g ≤ 100 * c := by
  have a1 : 0 ≤ g * x := Int.mul_nonneg g0 hx.1
  have a2 : 0 ≤ (100 - g) * y := Int.mul_nonneg (by omega) hy.1
  have a3 : g * x ≤ g * c := Int.mul_le_mul_of_nonneg_left hx.2 g0
  have a4 : (100 - g) * y ≤ (100 - g) * c := Int.mul_le_mul_of_nonneg_left hy.2 (by omega)
  have a5 : g * c + (100 - g) * c = 100 * c := by rw [← Int.add_mul]; congr 1; omega
  unfold kg2
  omega
theorem kgap_in {s1 c1 s2 c2 g j : Int} (h1 : 0 ≤ s1 ∧ s1 ≤ 51891840) (h2 : 0 ≤ c1 ∧ c1 ≤ 823680) (h3 : 0 ≤ s2 ∧ s2 ≤ 51891840) (h4 : 0 ≤ c2 ∧ c2 ≤ 823680) (g0 : 0 ≤ g) (g1 : g ≤ 100) (j0 : 0 ≤ j) (j1 : j ≤ 100) : (-4611686018427387904 < kgap s1 c1 s2 c2 g j ∧ kgap s1 c1 s2 c2 g j < 4611686018427387904) ∧ 0 ≤ kg2 c1 c2 g * kg2 c1 c2 j ∧ kg2 c1 c2 g * kg2 c1 c2 j < 4611686018427387904 := by
  have a1 := kg2_in h1 h3 g0 g1
  have a2 := kg2_in h2 h4 g0 g1
  have a3 := kg2_in h1 h3 j0 j1
  have a4 := kg2_in h2 h4 j0 j1
  have b1 : kg2 s1 s2 g * kg2 c1 c2 j ≤ (100 * 51891840) * (100 * 823680) := Int.mul_le_mul a1.2 a4.2 a4.1 (by decide)
  have b2 : kg2 s1 s2 j * kg2 c1 c2 g ≤ (100 * 51891840) * (100 * 823680) := Int.mul_le_mul a3.2 a2.2 a2.1 (by decide)
  have b3 : kg2 c1 c2 g * kg2 c1 c2 j ≤ (100 * 823680) * (100 * 823680) := Int.mul_le_mul a2.2 a4.2 a4.1 (by decide)
  have d1 := Int.mul_nonneg a1.1 a4.1
  have d2 := Int.mul_nonneg a3.1 a2.1
  have d3 := Int.mul_nonneg a2.1 a4.1
  unfold kgap
  omega
theorem kgap_L {x : Int} (h : -4611686018427387904 < x ∧ x < 4611686018427387904) : inL x := ⟨by omega, by omega⟩
def w_fall (x y w l g j p : Int) : Int := if kg2 (kcf x w l) (kcf y w l) g = 0 ∨ kg2 (kcf x w l) (kcf y w l) j = 0 then -1000000000000000005 else ktl (kgap (ksf x w l) (kcf x w l) (ksf y w l) (kcf y w l) g j) (kg2 (kcf x w l) (kcf y w l) g * kg2 (kcf x w l) (kcf y w l) j) p
def w_les (x y w l g j : Int) : Int := if kgap (ksf x w l) (kcf x w l) (ksf y w l) (kcf y w l) g j ≤ 0 then g else j
def w_gre (x y w l g j : Int) : Int := if 0 ≤ kgap (ksf x w l) (kcf x w l) (ksf y w l) (kcf y w l) g j then g else j
def a_mix (_ : kCs) (x y w l g p : Int) : Int := if ¬ ((((0 ≤ x ∧ x ≤ 63) ∧ 1 ≤ w ∧ w ≤ 8) ∧ (0 ≤ y ∧ y ≤ 63) ∧ 0 ≤ l ∧ l ≤ 63) ∧ (0 ≤ g ∧ g ≤ 100) ∧ 0 ≤ p ∧ p ≤ 1) then -1000000000000000002 else if kg2 (kcf x w l) (kcf y w l) g = 0 then -1000000000000000005 else ktl (kg2 (ksf x w l) (ksf y w l) g) (kg2 (kcf x w l) (kcf y w l) g) p
def a_fall (_ : kCs) (x y w l g j p : Int) : Int := if ¬ ((((0 ≤ x ∧ x ≤ 63) ∧ 1 ≤ w ∧ w ≤ 8) ∧ (0 ≤ y ∧ y ≤ 63) ∧ 0 ≤ l ∧ l ≤ 63) ∧ (0 ≤ g ∧ g ≤ 100) ∧ (0 ≤ j ∧ j ≤ 100) ∧ 0 ≤ p ∧ p ≤ 1) then -1000000000000000002 else w_fall x y w l g j p
def a_alone (_ : kCs) (x y w l v u e p : Int) : Int := if ¬ ((((0 ≤ x ∧ x ≤ 63) ∧ 1 ≤ w ∧ w ≤ 8) ∧ (0 ≤ y ∧ y ≤ 63) ∧ 0 ≤ l ∧ l ≤ 63) ∧ (0 ≤ v ∧ v / 1000 ≤ v % 1000 ∧ v % 1000 ≤ 100) ∧ (0 ≤ u ∧ u / 1000 ≤ u % 1000 ∧ u % 1000 ≤ 100) ∧ (0 ≤ e ∧ e ≤ 1) ∧ 0 ≤ p ∧ p ≤ 1) then -1000000000000000002
  else if kg2 (kcf x w l) (kcf y w l) (v / 1000) = 0 ∨ kg2 (kcf x w l) (kcf y w l) (v % 1000) = 0 ∨ kg2 (kcf x w l) (kcf y w l) (u / 1000) = 0 ∨ kg2 (kcf x w l) (kcf y w l) (u % 1000) = 0 then -1000000000000000005
  else if e = 0 then w_fall x y w l (w_les x y w l (v / 1000) (v % 1000)) (w_gre x y w l (u / 1000) (u % 1000)) p
  else w_fall x y w l (w_gre x y w l (v / 1000) (v % 1000)) (w_les x y w l (u / 1000) (u % 1000)) p
theorem w_ch {x y w l g j : Int} {t : Int} (ht : t = w_les x y w l g j ∨ t = w_gre x y w l g j) : t = g ∨ t = j := by
  unfold w_les w_gre at ht
  rcases ht with ht | ht <;> split at ht <;> first | exact Or.inl ht | exact Or.inr ht
set_option maxHeartbeats 4000000 in
set_option maxRecDepth 100000 in
theorem k_mix {G : kG} {d : Nat} {h : Nat → Option kC} {n : Nat} {Z : kCs} (g : rSt G) (z : rKI G h Z) (ok : kCok Z) (hn : 96 < n)  {x : Int} (hx : inI x) {y : Int} (hy : inI y) {w : Int} (hw : inI w) {l : Int} (hl : inI l) {g9 : Int} (hg9 : inI g9) {p : Int} (hp : inI p) : kCall G mX9_mix (d + 5) 1 4 [.ref (gB G + 0), .int (jI x), .int (jI y), .int (jI w), .int (jI l), .int (jI g9), .int (jI p)] h n (kQc G h n (.long (jL (a_mix Z x y w l g9 p))) (Z)) := by
  show kE G mX9_mix (d + 5) 1 4 0 [some (.ref (gB G + 0)), some (.int (jI x)), some (.int (jI y)), some (.int (jI w)), some (.int (jI l)), some (.int (jI g9)), some (.int (jI p)), none] [] h n _
  obtain ⟨⟨z0, ⟨f0, z28, z28f⟩, zu⟩, zp, zn, zi, zk, ⟨q, zq⟩, ⟨P, zP⟩, ⟨s, zs⟩, A9, E9, t9, zt⟩ := id z
  have zp1 := zp.1
  have zn1 := zn.1.1
  have zu1 := zu.1
  obtain ⟨okn, ⟨p0, p1, p2⟩, oki, okk⟩ := id ok
  refine e_iload_n rfl dX9_mix_0 ?_
  refine e_iload_n rfl dX9_mix_1 ?_
  refine e_iload_n rfl dX9_mix_2 ?_
  refine e_iload rfl dX9_mix_3 ?_
  refine eS4 mtX9_areSorts msX9_areSorts lkX9_216 dX9_mix_5 rfl rfl (k_areSorts (by first | assumption | (unfold inI at *; omega)) (by first | assumption | (unfold inI at *; omega)) (by first | assumption | (unfold inI at *; omega)) (by first | assumption | (unfold inI at *; omega))) ?_
  dsimp only [Option.toList, List.cons_append, List.nil_append]
  refine e_ifeqP (tgt := 27) dX9_mix_8 (by decide) (fun c8 => ?_) (fun c8 => ?_)
  · refine e_ldc2 (z := (-1000000000000000002)) kcX9_147 (by decide) dX9_mix_27 ?_
    refine e_lreturn dX9_mix_30 rfl ?_
    exact kQc_0 (by unfold a_mix; rw [if_pos (by omega)]) z
  · refine e_iload rfl dX9_mix_11 ?_
    refine eS1 mtX9_isShare msX9_isShare lkX9_220 dX9_mix_13 rfl rfl (k_isShare (by first | assumption | (unfold inI at *; omega))) ?_
    dsimp only [Option.toList, List.cons_append, List.nil_append]
    refine e_ifeqP (tgt := 27) dX9_mix_16 (by decide) (fun c16 => ?_) (fun c16 => ?_)
    · refine e_ldc2 (z := (-1000000000000000002)) kcX9_147 (by decide) dX9_mix_27 ?_
      refine e_lreturn dX9_mix_30 rfl ?_
      exact kQc_0 (by unfold a_mix; rw [if_pos (by omega)]) z
    · refine e_iload rfl dX9_mix_19 ?_
      refine eS1 mtX9_isPart msX9_isPart lkX9_144 dX9_mix_21 rfl rfl (k_isPart (by first | assumption | (unfold inI at *; omega))) ?_
      dsimp only [Option.toList, List.cons_append, List.nil_append]
      refine e_ifneP (tgt := 31) dX9_mix_24 (by decide) (fun c24 => ?_) (fun c24 => ?_)
      · refine e_new (N := 4) (c0 := 0) (s0 := 0) (fs := [.long (jL 0), .long (jL 0), .long (jL 0), .long (jL 0)]) nwX9_223 dX9_mix_31 (fun j9 hj9 => by rcases (show j9 = 0 ∨ j9 = 1 ∨ j9 = 2 ∨ j9 = 3 by omega) with rfl | rfl | rfl | rfl <;> rfl) ?_
        refine e_dup rfl dX9_mix_34 ?_
        refine e_aload_n rfl dX9_mix_35 ?_
        refine e_getf fdX9_34 dX9_mix_36 (by first | assumption | exact kup_s | exact kup_n (by omega) (by first | assumption | exact kup_s | exact kup_n (by omega) (by first | assumption | exact kup_s | exact kup_n (by omega) (by assumption)))) rfl ?_
        refine e_iload_n rfl dX9_mix_39 ?_
        refine e_iload_n rfl dX9_mix_40 ?_
        refine e_iload_n rfl dX9_mix_41 ?_
        refine e_iload rfl dX9_mix_42 ?_
        refine eI5 mtX6_init rfl rfl miX6_init lkX9_225 dX9_mix_44 rfl rfl (k_sortsI (rHu_up zu (by omega) (by omega)) kup_s (by omega) (by omega) (by omega) (by omega) (by omega) (by omega)) ?_
        rw [kup_kup]
        have so : rSo (kup h n (kob 4 [.long (jL (ksf x w l)), .long (jL (kcf x w l)), .long (jL (ksf y w l)), .long (jL (kcf y w l))])) n (ksf x w l) (kcf x w l) (ksf y w l) (kcf y w l) := kup_s
        have b1 := kcf_in (m := x) (w := w) (l := l) (by omega) (by omega)
        have b2 := kcf_in (m := y) (w := w) (l := l) (by omega) (by omega)
        have b3 := ksf_in (m := x) (w := w) (l := l) (by omega) (by omega)
        have b4 := ksf_in (m := y) (w := w) (l := l) (by omega) (by omega)
        refine e_astore dX9_mix_47 rfl rfl ?_
        dsimp only [List.set]
        refine e_aload rfl dX9_mix_49 ?_
        refine e_iload rfl dX9_mix_51 ?_
        refine eV1 mtX6_lack miX6_lack lkX9_228 dX9_mix_53 so rfl rfl rfl (k_lack so (by omega) (by omega) (by have := kg2_in b1 b2 (show 0 ≤ g9 by omega) (show g9 ≤ 100 by omega); unfold inL; omega)) ?_
        dsimp only [Option.toList, List.cons_append, List.nil_append]
        refine e_ifeqP (tgt := 63) dX9_mix_56 (by decide) (fun c56 => ?_) (fun c56 => ?_)
        · refine e_aload rfl dX9_mix_63 ?_
          refine e_iload rfl dX9_mix_65 ?_
          refine eV1 mtX6_sum miX6_sum lkX9_233 dX9_mix_67 so rfl rfl rfl (k_ssum so (by omega) (by omega)) ?_
          dsimp only [Option.toList, List.cons_append, List.nil_append]
          have b5 := kg2_in b3 b4 (show 0 ≤ g9 by omega) (show g9 ≤ 100 by omega)
          have b6 := kg2_in b1 b2 (show 0 ≤ g9 by omega) (show g9 ≤ 100 by omega)
          refine e_aload rfl dX9_mix_70 ?_
          refine e_iload rfl dX9_mix_72 ?_
          refine eV1 mtX6_count miX6_count lkX9_237 dX9_mix_74 so rfl rfl rfl (k_scount so (by omega) (by omega)) ?_
          dsimp only [Option.toList, List.cons_append, List.nil_append]
          refine e_iload rfl dX9_mix_77 ?_
          refine eS3 mtX9_tell msX9_tell lkX9_153 dX9_mix_79 rfl rfl (k_tell (by omega) (by omega) (by omega) (by omega) (by omega) (by omega)) ?_
          dsimp only [Option.toList, List.cons_append, List.nil_append]
          refine e_lreturn dX9_mix_82 rfl ?_
          refine ⟨by unfold a_mix; rw [if_neg (by omega), if_neg (by assumption)], rKI_cg z (fun j9 hj9 => kup_o (by omega)), fun j9 h1 h2 => kup_o (by omega), by omega⟩
        · refine e_ldc2 (z := (-1000000000000000005)) kcX9_231 (by decide) dX9_mix_59 ?_
          refine e_lreturn dX9_mix_62 rfl ?_
          refine ⟨by unfold a_mix; rw [if_neg (by omega), if_pos (by assumption)], rKI_cg z (fun j9 hj9 => kup_o (by omega)), fun j9 h1 h2 => kup_o (by omega), by omega⟩
      · refine e_ldc2 (z := (-1000000000000000002)) kcX9_147 (by decide) dX9_mix_27 ?_
        refine e_lreturn dX9_mix_30 rfl ?_
        exact kQc_0 (by unfold a_mix; rw [if_pos (by omega)]) z
set_option maxHeartbeats 4000000 in
set_option maxRecDepth 100000 in
theorem k_fall {G : kG} {d : Nat} {h : Nat → Option kC} {n : Nat} {Z : kCs} (g : rSt G) (z : rKI G h Z) (ok : kCok Z) (hn : 96 < n)  {x : Int} (hx : inI x) {y : Int} (hy : inI y) {w : Int} (hw : inI w) {l : Int} (hl : inI l) {g9 : Int} (hg9 : inI g9) {j : Int} (hj : inI j) {p : Int} (hp : inI p) : kCall G mX9_fall (d + 5) 1 4 [.ref (gB G + 0), .int (jI x), .int (jI y), .int (jI w), .int (jI l), .int (jI g9), .int (jI j), .int (jI p)] h n (kQc G h n (.long (jL (a_fall Z x y w l g9 j p))) (Z)) := by
  show kE G mX9_fall (d + 5) 1 4 0 [some (.ref (gB G + 0)), some (.int (jI x)), some (.int (jI y)), some (.int (jI w)), some (.int (jI l)), some (.int (jI g9)), some (.int (jI j)), some (.int (jI p)), none] [] h n _
  obtain ⟨⟨z0, ⟨f0, z28, z28f⟩, zu⟩, zp, zn, zi, zk, ⟨q, zq⟩, ⟨P, zP⟩, ⟨s, zs⟩, A9, E9, t9, zt⟩ := id z
  have zp1 := zp.1
  have zn1 := zn.1.1
  have zu1 := zu.1
  obtain ⟨okn, ⟨p0, p1, p2⟩, oki, okk⟩ := id ok
  refine e_iload_n rfl dX9_fall_0 ?_
  refine e_iload_n rfl dX9_fall_1 ?_
  refine e_iload_n rfl dX9_fall_2 ?_
  refine e_iload rfl dX9_fall_3 ?_
  refine eS4 mtX9_areSorts msX9_areSorts lkX9_216 dX9_fall_5 rfl rfl (k_areSorts (by first | assumption | (unfold inI at *; omega)) (by first | assumption | (unfold inI at *; omega)) (by first | assumption | (unfold inI at *; omega)) (by first | assumption | (unfold inI at *; omega))) ?_
  dsimp only [Option.toList, List.cons_append, List.nil_append]
  refine e_ifeqP (tgt := 35) dX9_fall_8 (by decide) (fun c8 => ?_) (fun c8 => ?_)
  · refine e_ldc2 (z := (-1000000000000000002)) kcX9_147 (by decide) dX9_fall_35 ?_
    refine e_lreturn dX9_fall_38 rfl ?_
    exact kQc_0 (by unfold a_fall; rw [if_pos (by omega)]) z
  · refine e_iload rfl dX9_fall_11 ?_
    refine eS1 mtX9_isShare msX9_isShare lkX9_220 dX9_fall_13 rfl rfl (k_isShare (by first | assumption | (unfold inI at *; omega))) ?_
    dsimp only [Option.toList, List.cons_append, List.nil_append]
    refine e_ifeqP (tgt := 35) dX9_fall_16 (by decide) (fun c16 => ?_) (fun c16 => ?_)
    · refine e_ldc2 (z := (-1000000000000000002)) kcX9_147 (by decide) dX9_fall_35 ?_
      refine e_lreturn dX9_fall_38 rfl ?_
      exact kQc_0 (by unfold a_fall; rw [if_pos (by omega)]) z
    · refine e_iload rfl dX9_fall_19 ?_
      refine eS1 mtX9_isShare msX9_isShare lkX9_220 dX9_fall_21 rfl rfl (k_isShare (by first | assumption | (unfold inI at *; omega))) ?_
      dsimp only [Option.toList, List.cons_append, List.nil_append]
      refine e_ifeqP (tgt := 35) dX9_fall_24 (by decide) (fun c24 => ?_) (fun c24 => ?_)
      · refine e_ldc2 (z := (-1000000000000000002)) kcX9_147 (by decide) dX9_fall_35 ?_
        refine e_lreturn dX9_fall_38 rfl ?_
        exact kQc_0 (by unfold a_fall; rw [if_pos (by omega)]) z
      · refine e_iload rfl dX9_fall_27 ?_
        refine eS1 mtX9_isPart msX9_isPart lkX9_144 dX9_fall_29 rfl rfl (k_isPart (by first | assumption | (unfold inI at *; omega))) ?_
        dsimp only [Option.toList, List.cons_append, List.nil_append]
        refine e_ifneP (tgt := 39) dX9_fall_32 (by decide) (fun c32 => ?_) (fun c32 => ?_)
        · refine e_new (N := 4) (c0 := 0) (s0 := 0) (fs := [.long (jL 0), .long (jL 0), .long (jL 0), .long (jL 0)]) nwX9_223 dX9_fall_39 (fun j9 hj9 => by rcases (show j9 = 0 ∨ j9 = 1 ∨ j9 = 2 ∨ j9 = 3 by omega) with rfl | rfl | rfl | rfl <;> rfl) ?_
          refine e_dup rfl dX9_fall_42 ?_
          refine e_aload_n rfl dX9_fall_43 ?_
          refine e_getf fdX9_34 dX9_fall_44 (by first | assumption | exact kup_s | exact kup_n (by omega) (by first | assumption | exact kup_s | exact kup_n (by omega) (by first | assumption | exact kup_s | exact kup_n (by omega) (by assumption)))) rfl ?_
          refine e_iload_n rfl dX9_fall_47 ?_
          refine e_iload_n rfl dX9_fall_48 ?_
          refine e_iload_n rfl dX9_fall_49 ?_
          refine e_iload rfl dX9_fall_50 ?_
          refine eI5 mtX6_init rfl rfl miX6_init lkX9_225 dX9_fall_52 rfl rfl (k_sortsI (rHu_up zu (by omega) (by omega)) kup_s (by omega) (by omega) (by omega) (by omega) (by omega) (by omega)) ?_
          rw [kup_kup]
          have so : rSo (kup h n (kob 4 [.long (jL (ksf x w l)), .long (jL (kcf x w l)), .long (jL (ksf y w l)), .long (jL (kcf y w l))])) n (ksf x w l) (kcf x w l) (ksf y w l) (kcf y w l) := kup_s
          have b1 := kcf_in (m := x) (w := w) (l := l) (by omega) (by omega)
          have b2 := kcf_in (m := y) (w := w) (l := l) (by omega) (by omega)
          have b3 := ksf_in (m := x) (w := w) (l := l) (by omega) (by omega)
          have b4 := ksf_in (m := y) (w := w) (l := l) (by omega) (by omega)
          refine e_astore dX9_fall_55 rfl rfl ?_
          dsimp only [List.set]
          refine e_aload rfl dX9_fall_57 ?_
          refine e_iload rfl dX9_fall_59 ?_
          refine eV1 mtX6_lack miX6_lack lkX9_228 dX9_fall_61 so rfl rfl rfl (k_lack so (by omega) (by omega) (by have := kg2_in b1 b2 (show 0 ≤ g9 by omega) (show g9 ≤ 100 by omega); unfold inL; omega)) ?_
          dsimp only [Option.toList, List.cons_append, List.nil_append]
          refine e_ifneP (tgt := 77) dX9_fall_64 (by decide) (fun c64 => ?_) (fun c64 => ?_)
          · refine e_ldc2 (z := (-1000000000000000005)) kcX9_231 (by decide) dX9_fall_77 ?_
            refine e_lreturn dX9_fall_80 rfl ?_
            refine ⟨by unfold a_fall; rw [if_neg (by omega)]; unfold w_fall; rw [if_pos (by omega)], rKI_cg z (fun j9 hj9 => kup_o (by omega)), fun j9 h1 h2 => kup_o (by omega), by omega⟩
          · refine e_aload rfl dX9_fall_67 ?_
            refine e_iload rfl dX9_fall_69 ?_
            refine eV1 mtX6_lack miX6_lack lkX9_228 dX9_fall_71 so rfl rfl rfl (k_lack so (by omega) (by omega) (by have := kg2_in b1 b2 (show 0 ≤ j by omega) (show j ≤ 100 by omega); unfold inL; omega)) ?_
            dsimp only [Option.toList, List.cons_append, List.nil_append]
            refine e_ifeqP (tgt := 81) dX9_fall_74 (by decide) (fun c74 => ?_) (fun c74 => ?_)
            · refine e_aload rfl dX9_fall_81 ?_
              refine e_iload rfl dX9_fall_83 ?_
              refine e_iload rfl dX9_fall_85 ?_
              refine e_iload rfl dX9_fall_87 ?_
              have b9 := kgap_in b3 b1 b4 b2 (show 0 ≤ g9 by omega) (show g9 ≤ 100 by omega) (show 0 ≤ j by omega) (show j ≤ 100 by omega)
              refine eS4 mtX9_tellFall msX9_tellFall lkX9_239 dX9_fall_89 rfl rfl (k_tellFall so (by omega) (by omega) (by omega) b9.1 b9.2) ?_
              dsimp only [Option.toList, List.cons_append, List.nil_append]
              refine e_lreturn dX9_fall_92 rfl ?_
              refine ⟨by unfold a_fall; rw [if_neg (by omega)]; unfold w_fall; rw [if_neg (by omega)], rKI_cg z (fun j9 hj9 => kup_o (by omega)), fun j9 h1 h2 => kup_o (by omega), by omega⟩
            · refine e_ldc2 (z := (-1000000000000000005)) kcX9_231 (by decide) dX9_fall_77 ?_
              refine e_lreturn dX9_fall_80 rfl ?_
              refine ⟨by unfold a_fall; rw [if_neg (by omega)]; unfold w_fall; rw [if_pos (by omega)], rKI_cg z (fun j9 hj9 => kup_o (by omega)), fun j9 h1 h2 => kup_o (by omega), by omega⟩
        · refine e_ldc2 (z := (-1000000000000000002)) kcX9_147 (by decide) dX9_fall_35 ?_
          refine e_lreturn dX9_fall_38 rfl ?_
          exact kQc_0 (by unfold a_fall; rw [if_pos (by omega)]) z
set_option maxHeartbeats 4000000 in
set_option maxRecDepth 100000 in
theorem k_alone {G : kG} {d : Nat} {h : Nat → Option kC} {n : Nat} {Z : kCs} (g : rSt G) (z : rKI G h Z) (ok : kCok Z) (hn : 96 < n)  {x : Int} (hx : inI x) {y : Int} (hy : inI y) {w : Int} (hw : inI w) {l : Int} (hl : inI l) {v : Int} (hv : inI v) {u : Int} (hu : inI u) {e : Int} (he : inI e) {p : Int} (hp : inI p) : kCall G mX9_alone (d + 5) 1 4 [.ref (gB G + 0), .int (jI x), .int (jI y), .int (jI w), .int (jI l), .int (jI v), .int (jI u), .int (jI e), .int (jI p)] h n (kQc G h n (.long (jL (a_alone Z x y w l v u e p))) (Z)) := by
  show kE G mX9_alone (d + 5) 1 4 0 [some (.ref (gB G + 0)), some (.int (jI x)), some (.int (jI y)), some (.int (jI w)), some (.int (jI l)), some (.int (jI v)), some (.int (jI u)), some (.int (jI e)), some (.int (jI p)), none, none, none, none, none] [] h n _
  obtain ⟨⟨z0, ⟨f0, z28, z28f⟩, zu⟩, zp, zn, zi, zk, ⟨q, zq⟩, ⟨P, zP⟩, ⟨s, zs⟩, A9, E9, t9, zt⟩ := id z
  have zp1 := zp.1
  have zn1 := zn.1.1
  have zu1 := zu.1
  obtain ⟨okn, ⟨p0, p1, p2⟩, oki, okk⟩ := id ok
  refine e_iload_n rfl dX9_alone_0 ?_
  refine e_iload_n rfl dX9_alone_1 ?_
  refine e_iload_n rfl dX9_alone_2 ?_
  refine e_iload rfl dX9_alone_3 ?_
  refine eS4 mtX9_areSorts msX9_areSorts lkX9_216 dX9_alone_5 rfl rfl (k_areSorts (by first | assumption | (unfold inI at *; omega)) (by first | assumption | (unfold inI at *; omega)) (by first | assumption | (unfold inI at *; omega)) (by first | assumption | (unfold inI at *; omega))) ?_
  dsimp only [Option.toList, List.cons_append, List.nil_append]
  refine e_ifeqP (tgt := 45) dX9_alone_8 (by decide) (fun c8 => ?_) (fun c8 => ?_)
  · refine e_ldc2 (z := (-1000000000000000002)) kcX9_147 (by decide) dX9_alone_45 ?_
    refine e_lreturn dX9_alone_48 rfl ?_
    exact kQc_0 (by unfold a_alone; rw [if_pos (by omega)]) z
  · refine e_iload rfl dX9_alone_11 ?_
    refine eS1 mtX9_areShares msX9_areShares lkX9_243 dX9_alone_13 rfl rfl (k_areShares (by first | assumption | (unfold inI at *; omega))) ?_
    dsimp only [Option.toList, List.cons_append, List.nil_append]
    refine e_ifeqP (tgt := 45) dX9_alone_16 (by decide) (fun c16 => ?_) (fun c16 => ?_)
    · refine e_ldc2 (z := (-1000000000000000002)) kcX9_147 (by decide) dX9_alone_45 ?_
      refine e_lreturn dX9_alone_48 rfl ?_
      exact kQc_0 (by unfold a_alone; rw [if_pos (by omega)]) z
    · refine e_iload rfl dX9_alone_19 ?_
      refine eS1 mtX9_areShares msX9_areShares lkX9_243 dX9_alone_21 rfl rfl (k_areShares (by first | assumption | (unfold inI at *; omega))) ?_
      dsimp only [Option.toList, List.cons_append, List.nil_append]
      refine e_ifeqP (tgt := 45) dX9_alone_24 (by decide) (fun c24 => ?_) (fun c24 => ?_)
      · refine e_ldc2 (z := (-1000000000000000002)) kcX9_147 (by decide) dX9_alone_45 ?_
        refine e_lreturn dX9_alone_48 rfl ?_
        exact kQc_0 (by unfold a_alone; rw [if_pos (by omega)]) z
      · refine e_iload rfl dX9_alone_27 ?_
        refine e_iconst dX9_alone_29 ?_
        refine e_iconst dX9_alone_30 ?_
        refine eS3 mtX9_within msX9_within lkX9_69 dX9_alone_31 rfl rfl (k_within (by first | assumption | (unfold inI at *; omega)) (by first | assumption | (unfold inI at *; omega)) (by first | assumption | (unfold inI at *; omega))) ?_
        dsimp only [Option.toList, List.cons_append, List.nil_append]
        refine e_ifeqP (tgt := 45) dX9_alone_34 (by decide) (fun c34 => ?_) (fun c34 => ?_)
        · refine e_ldc2 (z := (-1000000000000000002)) kcX9_147 (by decide) dX9_alone_45 ?_
          refine e_lreturn dX9_alone_48 rfl ?_
          exact kQc_0 (by unfold a_alone; rw [if_pos (by omega)]) z
        · refine e_iload rfl dX9_alone_37 ?_
          refine eS1 mtX9_isPart msX9_isPart lkX9_144 dX9_alone_39 rfl rfl (k_isPart (by first | assumption | (unfold inI at *; omega))) ?_
          dsimp only [Option.toList, List.cons_append, List.nil_append]
          refine e_ifneP (tgt := 49) dX9_alone_42 (by decide) (fun c42 => ?_) (fun c42 => ?_)
          · refine e_iload rfl dX9_alone_49 ?_
            refine e_sipush (by decide) dX9_alone_51 ?_
            refine e_idivN (by first | assumption | (unfold inI at *; omega)) (by first | assumption | (unfold inI at *; omega)) (by omega) (by omega) dX9_alone_54 ?_
            refine e_istore dX9_alone_55 rfl rfl ?_
            dsimp only [List.set]
            refine e_iload rfl dX9_alone_57 ?_
            refine e_sipush (by decide) dX9_alone_59 ?_
            refine e_iremN (by first | assumption | (unfold inI at *; omega)) (by first | assumption | (unfold inI at *; omega)) (by omega) (by omega) dX9_alone_62 ?_
            refine e_istore dX9_alone_63 rfl rfl ?_
            dsimp only [List.set]
            refine e_iload rfl dX9_alone_65 ?_
            refine e_sipush (by decide) dX9_alone_67 ?_
            refine e_idivN (by first | assumption | (unfold inI at *; omega)) (by first | assumption | (unfold inI at *; omega)) (by omega) (by omega) dX9_alone_70 ?_
            refine e_istore dX9_alone_71 rfl rfl ?_
            dsimp only [List.set]
            refine e_iload rfl dX9_alone_73 ?_
            refine e_sipush (by decide) dX9_alone_75 ?_
            refine e_iremN (by first | assumption | (unfold inI at *; omega)) (by first | assumption | (unfold inI at *; omega)) (by omega) (by omega) dX9_alone_78 ?_
            refine e_istore dX9_alone_79 rfl rfl ?_
            dsimp only [List.set]
            refine e_new (N := 4) (c0 := 0) (s0 := 0) (fs := [.long (jL 0), .long (jL 0), .long (jL 0), .long (jL 0)]) nwX9_223 dX9_alone_81 (fun j9 hj9 => by rcases (show j9 = 0 ∨ j9 = 1 ∨ j9 = 2 ∨ j9 = 3 by omega) with rfl | rfl | rfl | rfl <;> rfl) ?_
            refine e_dup rfl dX9_alone_84 ?_
            refine e_aload_n rfl dX9_alone_85 ?_
            refine e_getf fdX9_34 dX9_alone_86 (by first | assumption | exact kup_s | exact kup_n (by omega) (by first | assumption | exact kup_s | exact kup_n (by omega) (by first | assumption | exact kup_s | exact kup_n (by omega) (by assumption)))) rfl ?_
            refine e_iload_n rfl dX9_alone_89 ?_
            refine e_iload_n rfl dX9_alone_90 ?_
            refine e_iload_n rfl dX9_alone_91 ?_
            refine e_iload rfl dX9_alone_92 ?_
            refine eI5 mtX6_init rfl rfl miX6_init lkX9_225 dX9_alone_94 rfl rfl (k_sortsI (rHu_up zu (by omega) (by omega)) kup_s (by omega) (by omega) (by omega) (by omega) (by omega) (by omega)) ?_
            rw [kup_kup]
            have so : rSo (kup h n (kob 4 [.long (jL (ksf x w l)), .long (jL (kcf x w l)), .long (jL (ksf y w l)), .long (jL (kcf y w l))])) n (ksf x w l) (kcf x w l) (ksf y w l) (kcf y w l) := kup_s
            have b1 := kcf_in (m := x) (w := w) (l := l) (by omega) (by omega)
            have b2 := kcf_in (m := y) (w := w) (l := l) (by omega) (by omega)
            have b3 := ksf_in (m := x) (w := w) (l := l) (by omega) (by omega)
            have b4 := ksf_in (m := y) (w := w) (l := l) (by omega) (by omega)
            refine e_astore dX9_alone_97 rfl rfl ?_
            dsimp only [List.set]
            refine e_aload rfl dX9_alone_99 ?_
            refine e_iload rfl dX9_alone_101 ?_
            refine eV1 mtX6_lack miX6_lack lkX9_228 dX9_alone_103 so rfl rfl rfl (k_lack so (by omega) (by omega) (by have := kg2_in b1 b2 (show 0 ≤ v / 1000 by omega) (show v / 1000 ≤ 100 by omega); unfold inL; omega)) ?_
            dsimp only [Option.toList, List.cons_append, List.nil_append]
            refine e_ifneP (tgt := 139) dX9_alone_106 (by decide) (fun c106 => ?_) (fun c106 => ?_)
            · refine e_ldc2 (z := (-1000000000000000005)) kcX9_231 (by decide) dX9_alone_139 ?_
              refine e_lreturn dX9_alone_142 rfl ?_
              refine ⟨by unfold a_alone; rw [if_neg (by omega), if_pos (by omega)], rKI_cg z (fun j9 hj9 => kup_o (by omega)), fun j9 h1 h2 => kup_o (by omega), by omega⟩
            · refine e_aload rfl dX9_alone_109 ?_
              refine e_iload rfl dX9_alone_111 ?_
              refine eV1 mtX6_lack miX6_lack lkX9_228 dX9_alone_113 so rfl rfl rfl (k_lack so (by omega) (by omega) (by have := kg2_in b1 b2 (show 0 ≤ v % 1000 by omega) (show v % 1000 ≤ 100 by omega); unfold inL; omega)) ?_
              dsimp only [Option.toList, List.cons_append, List.nil_append]
              refine e_ifneP (tgt := 139) dX9_alone_116 (by decide) (fun c116 => ?_) (fun c116 => ?_)
              · refine e_ldc2 (z := (-1000000000000000005)) kcX9_231 (by decide) dX9_alone_139 ?_
                refine e_lreturn dX9_alone_142 rfl ?_
                refine ⟨by unfold a_alone; rw [if_neg (by omega), if_pos (by omega)], rKI_cg z (fun j9 hj9 => kup_o (by omega)), fun j9 h1 h2 => kup_o (by omega), by omega⟩
              · refine e_aload rfl dX9_alone_119 ?_
                refine e_iload rfl dX9_alone_121 ?_
                refine eV1 mtX6_lack miX6_lack lkX9_228 dX9_alone_123 so rfl rfl rfl (k_lack so (by omega) (by omega) (by have := kg2_in b1 b2 (show 0 ≤ u / 1000 by omega) (show u / 1000 ≤ 100 by omega); unfold inL; omega)) ?_
                dsimp only [Option.toList, List.cons_append, List.nil_append]
                refine e_ifneP (tgt := 139) dX9_alone_126 (by decide) (fun c126 => ?_) (fun c126 => ?_)
                · refine e_ldc2 (z := (-1000000000000000005)) kcX9_231 (by decide) dX9_alone_139 ?_
                  refine e_lreturn dX9_alone_142 rfl ?_
                  refine ⟨by unfold a_alone; rw [if_neg (by omega), if_pos (by omega)], rKI_cg z (fun j9 hj9 => kup_o (by omega)), fun j9 h1 h2 => kup_o (by omega), by omega⟩
                · refine e_aload rfl dX9_alone_129 ?_
                  refine e_iload rfl dX9_alone_131 ?_
                  refine eV1 mtX6_lack miX6_lack lkX9_228 dX9_alone_133 so rfl rfl rfl (k_lack so (by omega) (by omega) (by have := kg2_in b1 b2 (show 0 ≤ u % 1000 by omega) (show u % 1000 ≤ 100 by omega); unfold inL; omega)) ?_
                  dsimp only [Option.toList, List.cons_append, List.nil_append]
                  refine e_ifeqP (tgt := 143) dX9_alone_136 (by decide) (fun c136 => ?_) (fun c136 => ?_)
                  · refine e_iload rfl dX9_alone_143 ?_
                    refine e_if_ne (tgt := 174) dX9_alone_145 (by decide) (by first | assumption | (unfold inI at *; omega)) (fun c145 => ?_) (fun c145 => ?_)
                    · refine e_aload rfl dX9_alone_174 ?_
                      refine e_aload rfl dX9_alone_176 ?_
                      refine e_iload rfl dX9_alone_178 ?_
                      refine e_iload rfl dX9_alone_180 ?_
                      refine eV2 mtX6_greater miX6_greater lkX9_250 dX9_alone_182 so rfl rfl rfl (k_greater so (by omega) (by omega) (by omega) (by omega) (kgap_L (kgap_in b3 b1 b4 b2 (show 0 ≤ v / 1000 by omega) (show v / 1000 ≤ 100 by omega) (show 0 ≤ v % 1000 by omega) (show v % 1000 ≤ 100 by omega)).1)) ?_
                      dsimp only [Option.toList, List.cons_append, List.nil_append]
                      rw [show (if 0 ≤ kgap (ksf x w l) (kcf x w l) (ksf y w l) (kcf y w l) (v / 1000) (v % 1000) then v / 1000 else v % 1000) = w_gre x y w l (v / 1000) (v % 1000) from rfl]
                      have q_w_gre := w_ch (x := x) (y := y) (w := w) (l := l) (g := v / 1000) (j := v % 1000) (t := w_gre x y w l (v / 1000) (v % 1000)) (Or.inr rfl)
                      refine e_aload rfl dX9_alone_185 ?_
                      refine e_iload rfl dX9_alone_187 ?_
                      refine e_iload rfl dX9_alone_189 ?_
                      refine eV2 mtX6_lesser miX6_lesser lkX9_246 dX9_alone_191 so rfl rfl rfl (k_lesser so (by omega) (by omega) (by omega) (by omega) (kgap_L (kgap_in b3 b1 b4 b2 (show 0 ≤ u / 1000 by omega) (show u / 1000 ≤ 100 by omega) (show 0 ≤ u % 1000 by omega) (show u % 1000 ≤ 100 by omega)).1)) ?_
                      dsimp only [Option.toList, List.cons_append, List.nil_append]
                      rw [show (if kgap (ksf x w l) (kcf x w l) (ksf y w l) (kcf y w l) (u / 1000) (u % 1000) ≤ 0 then u / 1000 else u % 1000) = w_les x y w l (u / 1000) (u % 1000) from rfl]
                      have q_w_les := w_ch (x := x) (y := y) (w := w) (l := l) (g := u / 1000) (j := u % 1000) (t := w_les x y w l (u / 1000) (u % 1000)) (Or.inl rfl)
                      refine e_iload rfl dX9_alone_194 ?_
                      have b9 := kgap_in b3 b1 b4 b2 (g := w_gre x y w l (v / 1000) (v % 1000)) (j := w_les x y w l (u / 1000) (u % 1000)) (by omega) (by omega) (by omega) (by omega)
                      refine eS4 mtX9_tellFall msX9_tellFall lkX9_239 dX9_alone_196 rfl rfl (k_tellFall so (by omega) (by omega) (by omega) b9.1 b9.2) ?_
                      dsimp only [Option.toList, List.cons_append, List.nil_append]
                      refine e_lreturn dX9_alone_199 rfl ?_
                      have q5 : ¬ (kg2 (kcf x w l) (kcf y w l) (w_gre x y w l (v / 1000) (v % 1000)) = 0) := by rcases q_w_gre with q | q <;> rw [q] <;> assumption
                      have q6 : ¬ (kg2 (kcf x w l) (kcf y w l) (w_les x y w l (u / 1000) (u % 1000)) = 0) := by rcases q_w_les with q | q <;> rw [q] <;> assumption
                      refine ⟨by unfold a_alone; rw [if_neg (by omega), if_neg (by omega), if_neg (by omega)]; unfold w_fall; rw [if_neg (by omega)], rKI_cg z (fun j9 hj9 => kup_o (by omega)), fun j9 h1 h2 => kup_o (by omega), by omega⟩
                    · refine e_aload rfl dX9_alone_148 ?_
                      refine e_aload rfl dX9_alone_150 ?_
                      refine e_iload rfl dX9_alone_152 ?_
                      refine e_iload rfl dX9_alone_154 ?_
                      refine eV2 mtX6_lesser miX6_lesser lkX9_246 dX9_alone_156 so rfl rfl rfl (k_lesser so (by omega) (by omega) (by omega) (by omega) (kgap_L (kgap_in b3 b1 b4 b2 (show 0 ≤ v / 1000 by omega) (show v / 1000 ≤ 100 by omega) (show 0 ≤ v % 1000 by omega) (show v % 1000 ≤ 100 by omega)).1)) ?_
                      dsimp only [Option.toList, List.cons_append, List.nil_append]
                      rw [show (if kgap (ksf x w l) (kcf x w l) (ksf y w l) (kcf y w l) (v / 1000) (v % 1000) ≤ 0 then v / 1000 else v % 1000) = w_les x y w l (v / 1000) (v % 1000) from rfl]
                      have q_w_les := w_ch (x := x) (y := y) (w := w) (l := l) (g := v / 1000) (j := v % 1000) (t := w_les x y w l (v / 1000) (v % 1000)) (Or.inl rfl)
                      refine e_aload rfl dX9_alone_159 ?_
                      refine e_iload rfl dX9_alone_161 ?_
                      refine e_iload rfl dX9_alone_163 ?_
                      refine eV2 mtX6_greater miX6_greater lkX9_250 dX9_alone_165 so rfl rfl rfl (k_greater so (by omega) (by omega) (by omega) (by omega) (kgap_L (kgap_in b3 b1 b4 b2 (show 0 ≤ u / 1000 by omega) (show u / 1000 ≤ 100 by omega) (show 0 ≤ u % 1000 by omega) (show u % 1000 ≤ 100 by omega)).1)) ?_
                      dsimp only [Option.toList, List.cons_append, List.nil_append]
                      rw [show (if 0 ≤ kgap (ksf x w l) (kcf x w l) (ksf y w l) (kcf y w l) (u / 1000) (u % 1000) then u / 1000 else u % 1000) = w_gre x y w l (u / 1000) (u % 1000) from rfl]
                      have q_w_gre := w_ch (x := x) (y := y) (w := w) (l := l) (g := u / 1000) (j := u % 1000) (t := w_gre x y w l (u / 1000) (u % 1000)) (Or.inr rfl)
                      refine e_iload rfl dX9_alone_168 ?_
                      have b9 := kgap_in b3 b1 b4 b2 (g := w_les x y w l (v / 1000) (v % 1000)) (j := w_gre x y w l (u / 1000) (u % 1000)) (by omega) (by omega) (by omega) (by omega)
                      refine eS4 mtX9_tellFall msX9_tellFall lkX9_239 dX9_alone_170 rfl rfl (k_tellFall so (by omega) (by omega) (by omega) b9.1 b9.2) ?_
                      dsimp only [Option.toList, List.cons_append, List.nil_append]
                      refine e_lreturn dX9_alone_173 rfl ?_
                      have q5 : ¬ (kg2 (kcf x w l) (kcf y w l) (w_les x y w l (v / 1000) (v % 1000)) = 0) := by rcases q_w_les with q | q <;> rw [q] <;> assumption
                      have q6 : ¬ (kg2 (kcf x w l) (kcf y w l) (w_gre x y w l (u / 1000) (u % 1000)) = 0) := by rcases q_w_gre with q | q <;> rw [q] <;> assumption
                      refine ⟨by unfold a_alone; rw [if_neg (by omega), if_neg (by omega), if_pos (by omega)]; unfold w_fall; rw [if_neg (by omega)], rKI_cg z (fun j9 hj9 => kup_o (by omega)), fun j9 h1 h2 => kup_o (by omega), by omega⟩
                  · refine e_ldc2 (z := (-1000000000000000005)) kcX9_231 (by decide) dX9_alone_139 ?_
                    refine e_lreturn dX9_alone_142 rfl ?_
                    refine ⟨by unfold a_alone; rw [if_neg (by omega), if_pos (by omega)], rKI_cg z (fun j9 hj9 => kup_o (by omega)), fun j9 h1 h2 => kup_o (by omega), by omega⟩
          · refine e_ldc2 (z := (-1000000000000000002)) kcX9_147 (by decide) dX9_alone_45 ?_
            refine e_lreturn dX9_alone_48 rfl ?_
            exact kQc_0 (by unfold a_alone; rw [if_pos (by omega)]) z
