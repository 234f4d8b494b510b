/-! MISFIT. From here on the objects stand where the maker of a new object puts them: HUMPS 80 (rows from 81 on), Undoing 91 (its row 92) -/
def kpq (m w l k x : Int) : Int := khm m w x * (if l ≤ x then 10 else k)
def kpt (m w l k : Int) : Int := ksum (fun x => kpq m w l k x) 64
def kab (z : Int) : Int := if z < 0 then -z else z
def kdu (A : Nat → Int) (m w l k x : Int) : Int := ksum A 64 * kpq m w l k x / kpt m w l k
def kmt (A : Nat → Int) (m w l k : Int) (x : Nat) : Int := kab (A x - kdu A m w l k x) - A x
def kmf (A : Nat → Int) (m w l k : Int) : Int := if kpt m w l k = 0 then -5 else ksum A 64 + ksum (kmt A m w l k) 64
theorem kpq_in {m w l k : Int} (h1 : 1 ≤ w) (h2 : w ≤ 8) (k0 : 0 ≤ k) (k1 : k ≤ 9) (x : Int) : 0 ≤ kpq m w l k x ∧ kpq m w l k x ≤ 128700 := by
  have h := khm_in (m := m) h1 h2 x
  unfold kpq
  split
  · omega
  · refine ⟨Int.mul_nonneg h.1 k0, ?_⟩
    have h3 : khm m w x * k ≤ 12870 * 9 := Int.mul_le_mul h.2 k1 k0 (by decide)
    omega
theorem kpq_out {m w l k x : Int} (h : x < 0 ∨ 63 < x) : kpq m w l k x = 0 := by unfold kpq; rw [khm_out h, Int.zero_mul]
theorem kpq_lo {m w l k x : Int} (h : x < m - w) : kpq m w l k x = 0 := by unfold kpq; rw [khm_lo h, Int.zero_mul]
theorem kpq_hi {m w l k x : Int} (h1 : 1 ≤ w) (h2 : w ≤ 8) (h : m + w < x) : kpq m w l k x = 0 := by unfold kpq; rw [khm_hi h1 h2 h, Int.zero_mul]
theorem kpt_in {m w l k : Int} (h1 : 1 ≤ w) (h2 : w ≤ 8) (k0 : 0 ≤ k) (k1 : k ≤ 9) : 0 ≤ kpt m w l k ∧ kpt m w l k ≤ 8236800 := by
  refine ⟨ksum_nn (fun x _ => (kpq_in h1 h2 k0 k1 _).1), ?_⟩
  exact ksum_le (n := 64) (c := 128700) (fun x _ => (kpq_in h1 h2 k0 k1 _).2)
theorem kA_sum {A : Nat → Int} (h : kAok A) : 0 ≤ ksum A 64 ∧ ksum A 64 ≤ 63936 := by
  refine ⟨ksum_nn (fun x hx => (h x hx).1), ?_⟩
  exact ksum_le (n := 64) (c := 999) (fun x hx => (h x hx).2)
theorem kab_in (z : Int) : 0 ≤ kab z ∧ -(kab z) ≤ z ∧ z ≤ kab z := by
  unfold kab
  split <;> omega
theorem kdu_in {A : Nat → Int} (hA : kAok A) {m w l k : Int} (h1 : 1 ≤ w) (h2 : w ≤ 8) (k0 : 0 ≤ k) (k1 : k ≤ 9) (hp : 0 < kpt m w l k) (x : Int) : 0 ≤ kdu A m w l k x ∧ kdu A m w l k x ≤ 63936 * 128700 := by
  have a1 := kA_sum hA
  have a2 := kpq_in (m := m) (l := l) h1 h2 k0 k1 x
  have a3 : 0 ≤ ksum A 64 * kpq m w l k x := Int.mul_nonneg a1.1 a2.1
  have a4 : ksum A 64 * kpq m w l k x ≤ 63936 * 128700 := Int.mul_le_mul a1.2 a2.2 a2.1 (by decide)
  unfold kdu
  refine ⟨Int.ediv_nonneg a3 (Int.le_of_lt hp), Int.le_trans ?_ a4⟩
  exact Int.ediv_le_self _ a3
theorem kdu_le {A : Nat → Int} (hA : kAok A) {m w l k : Int} (h1 : 1 ≤ w) (h2 : w ≤ 8) (k0 : 0 ≤ k) (k1 : k ≤ 9) (hp : 0 < kpt m w l k) {x : Nat} (hx : x < 64) : kdu A m w l k x ≤ ksum A 64 := by
  have a1 := kA_sum hA
  have a2 : kpq m w l k x ≤ kpt m w l k := ksum_one (F := fun x => kpq m w l k x) (fun j _ => (kpq_in h1 h2 k0 k1 _).1) hx
  unfold kdu
  refine Int.ediv_le_of_le_mul hp ?_
  exact Int.mul_le_mul_of_nonneg_left a2 a1.1
theorem kmf_in {A : Nat → Int} (hA : kAok A) {m w l k : Int} (h1 : 1 ≤ w) (h2 : w ≤ 8) (k0 : 0 ≤ k) (k1 : k ≤ 9) : kmf A m w l k = -5 ∨ (0 ≤ kmf A m w l k ∧ kmf A m w l k ≤ 4200000) := by
  have a1 := kA_sum hA
  have a2 := kpt_in (m := m) (l := l) h1 h2 k0 k1
  unfold kmf
  split
  · exact Or.inl rfl
  · refine Or.inr ⟨?_, ?_⟩
    · have e : ksum A 64 + ksum (kmt A m w l k) 64 = ksum (fun x => A x + kmt A m w l k x) 64 := (ksum_add _ _ 64).symm
      rw [e]
      refine ksum_nn (fun x hx => ?_)
      have := kab_in (A x - kdu A m w l k x)
      unfold kmt
      omega
    · have e : ksum (kmt A m w l k) 64 ≤ 64 * 63936 := ksum_le (n := 64) (c := 63936) (fun x hx => by
        have b1 := kdu_in hA (m := m) (l := l) h1 h2 k0 k1 (by omega) x
        have b2 := kdu_le hA (m := m) (l := l) h1 h2 k0 k1 (by omega) hx
        have b3 := hA x hx
        unfold kmt kab
        split <;> omega)
      omega
def kUn (G : kG) (q : Int × Int × Int × Int × Int) : kC := kob 6 [.ref (gB G + 80), .ref (gB G + 92), .int (jI q.1), .int (jI q.2.1), .int (jI q.2.2.1), .int (jI q.2.2.2.1), .int (jI q.2.2.2.2)]
def kmP (h : Nat → Option kC) (n : Nat) (v : Int) : kPo := fun r h' n' => ∃ P' : Nat → Int, r = some (.int (jI v)) ∧ h' = kup h 92 (kla 64 P') ∧ n' = n
theorem rHu_up {G : kG} {h : Nat → Option kC} {a b i : Nat} {e : kC} (r : rHu G h a b) (h1 : i ≠ a) (h2 : i < b ∨ b + 9 < i) : rHu G (kup h i e) a b := by
  obtain ⟨r1, r2, r3⟩ := r
  exact ⟨kup_n (by omega) r1, kup_n (by omega) r2, fun w hw => kup_n (by omega) (r3 w hw)⟩
theorem rBk_up {G : kG} {h : Nat → Option kC} {b m e i : Nat} {A E : Nat → Int} {t : Int} {x : kC} (r : rBk G h b m e A E t) (h1 : i ≠ b) (h2 : i ≠ m) (h3 : i ≠ e) : rBk G (kup h i x) b m e A E t := by
  obtain ⟨r1, r2, r3⟩ := r
  exact ⟨kup_n (by omega) r1, kup_n (by omega) r2, kup_n (by omega) r3⟩
theorem kpq_step {m w l k x : Int} (hx : m - w ≤ x) : ksum (fun x => kpq m w l k x) (x + 1).toNat = ksum (fun x => kpq m w l k x) x.toNat + kpq m w l k x := by
  by_cases h0 : 0 ≤ x
  · rw [show (x + 1).toNat = x.toNat + 1 by omega, ksum_s]
    have e9 : ((x.toNat : Nat) : Int) = x := by omega
    rw [e9]
  · rw [show (x + 1).toNat = 0 by omega, show x.toNat = 0 by omega, kpq_out (by omega)]
    rfl
theorem k_kabs (z : Int) : kabsl z = kab z := by
  unfold kabsl kab
  (repeat' split) <;> omega
theorem k_mt0 {A : Nat → Int} {m w l k : Int} {x : Nat} (hA : 0 ≤ A x) (h : kpq m w l k x = 0) : kmt A m w l k x = 0 := by
  unfold kmt kdu kab
  rw [h, Int.mul_zero, Int.zero_ediv]
  split <;> omega
theorem k_mis2_end {A : Nat → Int} {m w l k to x : Int} (w1 : 1 ≤ w) (w8 : w ≤ 8) (hA : kAok A) (hto : to = kmini 63 (m + w)) (hx : x = to + 1) : ksum (kmt A m w l k) x.toNat = ksum (kmt A m w l k) 64 := by
  have h9 : to ≤ 63 ∧ (to = 63 ∨ to = m + w) := by rw [hto]; unfold kmini; split <;> omega
  refine (ksum_tail (by omega) (fun j h1 h2 => ?_)).symm
  exact k_mt0 (hA j h2).1 (kpq_hi w1 w8 (by omega))
theorem k_mis2_beg {A : Nat → Int} {m w l k fr : Int} (hA : kAok A) (hfr : fr = kmaxi 0 (m - w)) (h3 : fr ≤ 64) : ksum (kmt A m w l k) fr.toNat = 0 := by
  have h9 : fr = 0 ∨ fr = m - w := by rw [hfr]; unfold kmaxi; split <;> omega
  refine (ksum_tail (a := 0) (Nat.zero_le _) (fun j h1 h2 => ?_))
  exact k_mt0 (hA j (by omega)).1 (kpq_lo (by omega))
theorem k_mis1_end {m w l k to x : Int} (w1 : 1 ≤ w) (w8 : w ≤ 8) (hto : to = kmini 63 (m + w)) (hx : x = to + 1) : ksum (fun x => kpq m w l k x) x.toNat = kpt m w l k := by
  have h9 : to ≤ 63 ∧ (to = 63 ∨ to = m + w) := by rw [hto]; unfold kmini; split <;> omega
  refine (ksum_tail (by omega) (fun j h1 h2 => ?_)).symm
  exact kpq_hi w1 w8 (by omega)
theorem k_mis1_beg {m w l k fr : Int} (hfr : fr = kmaxi 0 (m - w)) : ksum (fun x => kpq m w l k x) fr.toNat = 0 := by
  have h9 : fr = 0 ∨ fr = m - w := by rw [hfr]; unfold kmaxi; split <;> omega
  refine (ksum_tail (a := 0) (Nat.zero_le _) (fun j h1 h2 => ?_))
  exact kpq_lo (by omega)
set_option maxHeartbeats 4000000 in
set_option maxRecDepth 100000 in
theorem k_mis2_lp {G : kG} {d : Nat} {h : Nat → Option kC} {n : Nat} {q : Int × Int × Int × Int × Int} (ru : rHu G h 80 81) (hu : h 91 = some (kUn G q)) {b : Nat} {A E : Nat → Int} (rb : rBk G h b (b + 1) (b + 2) A E (ksum A 64)) (hb : b + 2 < 80 ∨ 92 < b) (hA : kAok A) {m w l k : Int} (m0 : 0 ≤ m) (m1 : m ≤ 63) (w1 : 1 ≤ w) (w8 : w ≤ 8) (l0 : 0 ≤ l) (l1 : l ≤ 63) (k0 : 0 ≤ k) (k1 : k ≤ 9) {fr to : Int} (hfr : fr = kmaxi 0 (m - w)) (hto : to = kmini 63 (m + w)) (hp : 0 < kpt m w l k) {P : Nat → Int} (hP : ∀ j : Nat, fr ≤ j → (j : Int) ≤ to → P j = kpq m w l k j)  : ∀ (f : Nat) (x y : Int) (e13 : Option Value), fr ≤ x → x ≤ to + 1 → to + 1 - x ≤ f → y = ksum A 64 + ksum (kmt A m w l k) x.toNat → kE G mX8_misfitOf (d + 2) 0 0 112 [some (.ref (gB G + 91)), some (.ref (gB G + b)), some (.int (jI m)), some (.int (jI w)), some (.int (jI l)), some (.int (jI k)), some (.int (jI fr)), some (.int (jI to)), some (.long (jL (kpt m w l k))), none, some (.long (jL y)), none, some (.int (jI x)), e13] [] (kup h 92 (kla 64 P)) n (kmP h n (kmf A m w l k)) := by
  obtain ⟨rb1, rb2, rb3⟩ := id rb
  have tA := kA_sum hA
  unfold kUn at hu
  have q9 : 0 ≤ fr ∧ to ≤ 63 ∧ m - w ≤ fr := by rw [hfr, hto]; unfold kmaxi kmini; (repeat' split) <;> omega
  have rbK := rBk_up (i := 92) (x := kla 64 P) rb (by omega) (by omega) (by omega)
  intro f
  induction f with
  | zero =>
    intro x y e13 g1 g2 g3 g4
    refine e_iload rfl dX8_misfitOf_112 ?_
    refine e_iload rfl dX8_misfitOf_114 ?_
    refine e_icmp_gt (tgt := 165) dX8_misfitOf_116 (by decide) (by first | assumption | (unfold inI at *; omega)) (by first | assumption | (unfold inI at *; omega)) (fun c116 => ?_) (fun c116 => ?_)
    · refine e_lload rfl dX8_misfitOf_165 ?_
      refine e_l2i dX8_misfitOf_167 ?_
      refine e_ireturn dX8_misfitOf_168 rfl rfl ?_
      exact ⟨P, by rw [g4, k_mis2_end w1 w8 hA hto (by omega)]; unfold kmf; rw [if_neg (by omega)], rfl, rfl⟩
    · exact absurd c116 (by omega)
  | succ f ih =>
    intro x y e13 g1 g2 g3 g4
    have q8 := hA x.toNat
    refine e_iload rfl dX8_misfitOf_112 ?_
    refine e_iload rfl dX8_misfitOf_114 ?_
    refine e_icmp_gt (tgt := 165) dX8_misfitOf_116 (by decide) (by first | assumption | (unfold inI at *; omega)) (by first | assumption | (unfold inI at *; omega)) (fun c116 => ?_) (fun c116 => ?_)
    · refine e_lload rfl dX8_misfitOf_165 ?_
      refine e_l2i dX8_misfitOf_167 ?_
      refine e_ireturn dX8_misfitOf_168 rfl rfl ?_
      exact ⟨P, by rw [g4, k_mis2_end w1 w8 hA hto (by omega)]; unfold kmf; rw [if_neg (by omega)], rfl, rfl⟩
    · refine e_aload_n rfl dX8_misfitOf_119 ?_
      refine e_iload rfl dX8_misfitOf_120 ?_
      have q7 := q8 (by omega)
      have q6 := hP x.toNat (by omega) (by omega)
      rw [show ((x.toNat : Nat) : Int) = x by omega] at q6
      have q5 := kpq_in (m := m) (l := l) w1 w8 k0 k1 x
      have q4 := kdu_in hA (m := m) (l := l) w1 w8 k0 k1 hp x
      have q3 := kpt_in (m := m) (l := l) w1 w8 k0 k1
      refine eV1 mtX0_menAt miX0_menAt lkX8_40 dX8_misfitOf_122 (by first | assumption | exact kup_s | exact kup_n (by omega) (by first | assumption | exact kup_s | exact kup_n (by omega) (by first | assumption | exact kup_s | exact kup_n (by omega) (by assumption)))) rfl rfl rfl (k_menAtB rbK (by omega) (by omega)) ?_
      dsimp only [Option.toList, List.cons_append, List.nil_append]
      refine e_istore dX8_misfitOf_125 rfl rfl ?_
      dsimp only [List.set]
      refine e_lload rfl dX8_misfitOf_127 ?_
      refine e_iload rfl dX8_misfitOf_129 ?_
      refine e_i2l (by first | assumption | (unfold inI at *; omega)) dX8_misfitOf_131 ?_
      refine e_aload_n rfl dX8_misfitOf_132 ?_
      refine e_getf fdX8_34 dX8_misfitOf_133 (by first | assumption | exact kup_s | exact kup_n (by omega) (by first | assumption | exact kup_s | exact kup_n (by omega) (by first | assumption | exact kup_s | exact kup_n (by omega) (by assumption)))) rfl ?_
      refine e_i2l (by first | assumption | (unfold inI at *; omega)) dX8_misfitOf_136 ?_
      refine e_aload_n rfl dX8_misfitOf_137 ?_
      refine e_getf fdX8_9 dX8_misfitOf_138 (by first | assumption | exact kup_s | exact kup_n (by omega) (by first | assumption | exact kup_s | exact kup_n (by omega) (by first | assumption | exact kup_s | exact kup_n (by omega) (by assumption)))) rfl ?_
      refine e_iload rfl dX8_misfitOf_141 ?_
      refine e_lald dX8_misfitOf_143 (by first | assumption | exact kup_s | exact kup_n (by omega) (by first | assumption | exact kup_s | exact kup_n (by omega) (by first | assumption | exact kup_s | exact kup_n (by omega) (by assumption)))) (by omega) (by omega) ?_
      rw [q6]
      refine e_lmul dX8_misfitOf_144 ?_
      refine e_lload rfl dX8_misfitOf_145 ?_
      refine e_ldivN (by have z1 : ksum A 64 * kpq m w l k x ≤ 63936 * 128700 := Int.mul_le_mul tA.2 q5.2 q5.1 (by decide); have z2 := Int.mul_nonneg tA.1 q5.1; unfold inL; omega) (by first | assumption | (unfold inL at *; omega)) (by omega) (Int.mul_nonneg tA.1 q5.1) dX8_misfitOf_147 ?_
      rw [show ksum A 64 * kpq m w l k x / kpt m w l k = kdu A m w l k x from rfl]
      refine e_lsub dX8_misfitOf_148 ?_
      refine e_mabsl (by first | assumption | (unfold inL at *; omega)) lkX8_43 dX8_misfitOf_149 rfl ?_
      rw [k_kabs]
      refine e_iload rfl dX8_misfitOf_152 ?_
      refine e_i2l (by first | assumption | (unfold inI at *; omega)) dX8_misfitOf_154 ?_
      refine e_lsub dX8_misfitOf_155 ?_
      refine e_ladd dX8_misfitOf_156 ?_
      refine e_lstore dX8_misfitOf_157 rfl rfl ?_
      dsimp only [List.set]
      refine e_iinc dX8_misfitOf_159 rfl rfl ?_
      dsimp only [List.set]
      refine e_goto (tgt := 112) dX8_misfitOf_162 (by decide) ?_
      have e6 : kmt A m w l k x.toNat = kab (A x.toNat - kdu A m w l k x) - A x.toNat := by unfold kmt; rw [show ((x.toNat : Nat) : Int) = x by omega]
      exact ih (x + 1) _ _ (by omega) (by omega) (by omega) (by rw [g4, show (x + 1).toNat = x.toNat + 1 by omega, ksum_s (kmt A m w l k) x.toNat, e6]; omega)
set_option maxHeartbeats 4000000 in
set_option maxRecDepth 100000 in
theorem k_mis91 {G : kG} {d : Nat} {h : Nat → Option kC} {n : Nat} {q : Int × Int × Int × Int × Int} (ru : rHu G h 80 81) (hu : h 91 = some (kUn G q)) {b : Nat} {A E : Nat → Int} (rb : rBk G h b (b + 1) (b + 2) A E (ksum A 64)) (hb : b + 2 < 80 ∨ 92 < b) (hA : kAok A) {m w l k : Int} (m0 : 0 ≤ m) (m1 : m ≤ 63) (w1 : 1 ≤ w) (w8 : w ≤ 8) (l0 : 0 ≤ l) (l1 : l ≤ 63) (k0 : 0 ≤ k) (k1 : k ≤ 9) {fr to : Int} (hfr : fr = kmaxi 0 (m - w)) (hto : to = kmini 63 (m + w)) {P : Nat → Int} (hP : ∀ j : Nat, fr ≤ j → (j : Int) ≤ to → P j = kpq m w l k j) (e10 e11 e12 e13 : Option Value) : kE G mX8_misfitOf (d + 2) 0 0 91 [some (.ref (gB G + 91)), some (.ref (gB G + b)), some (.int (jI m)), some (.int (jI w)), some (.int (jI l)), some (.int (jI k)), some (.int (jI fr)), some (.int (jI to)), some (.long (jL (kpt m w l k))), none, e10, e11, e12, e13] [] (kup h 92 (kla 64 P)) n (kmP h n (kmf A m w l k)) := by
  obtain ⟨rb1, rb2, rb3⟩ := id rb
  have tA := kA_sum hA
  unfold kUn at hu
  have q3 := kpt_in (m := m) (l := l) w1 w8 k0 k1
  have q9 : 0 ≤ fr ∧ fr ≤ 63 ∧ to ≤ 63 ∧ fr ≤ to + 1 := by rw [hfr, hto]; unfold kmaxi kmini; (repeat' split) <;> omega
  refine e_lload rfl dX8_misfitOf_91 ?_
  refine e_lconst (z := 0) (by decide) dX8_misfitOf_93 ?_
  refine e_lcmp_gt (tgt := 101) dX8_misfitOf_94 dX8_misfitOf_95 (by decide) (by first | assumption | (unfold inL at *; omega)) (by first | assumption | (unfold inL at *; omega)) (fun c94 => ?_) (fun c94 => ?_)
  · refine e_aload_n rfl dX8_misfitOf_101 ?_
    refine e_getf fdX8_34 dX8_misfitOf_102 (by first | assumption | exact kup_s | exact kup_n (by omega) (by first | assumption | exact kup_s | exact kup_n (by omega) (by first | assumption | exact kup_s | exact kup_n (by omega) (by assumption)))) rfl ?_
    refine e_i2l (by first | assumption | (unfold inI at *; omega)) dX8_misfitOf_105 ?_
    refine e_lstore dX8_misfitOf_106 rfl rfl ?_
    dsimp only [List.set]
    refine e_iload rfl dX8_misfitOf_108 ?_
    refine e_istore dX8_misfitOf_110 rfl rfl ?_
    dsimp only [List.set]
    exact k_mis2_lp ru hu rb hb hA m0 m1 w1 w8 l0 l1 k0 k1 hfr hto (by omega) hP 100 _ _ _ (by omega) (by omega) (by omega) (by rw [k_mis2_beg hA hfr (by omega), Int.add_zero])
  · refine e_bipush (by decide) dX8_misfitOf_98 ?_
    refine e_ireturn dX8_misfitOf_100 rfl rfl ?_
    exact ⟨P, by unfold kmf; rw [if_pos (by omega)], rfl, rfl⟩
set_option maxHeartbeats 4000000 in
set_option maxRecDepth 100000 in
theorem k_mis1_lp {G : kG} {d : Nat} {h : Nat → Option kC} {n : Nat} {q : Int × Int × Int × Int × Int} (ru : rHu G h 80 81) (hu : h 91 = some (kUn G q)) {b : Nat} {A E : Nat → Int} (rb : rBk G h b (b + 1) (b + 2) A E (ksum A 64)) (hb : b + 2 < 80 ∨ 92 < b) (hA : kAok A) {m w l k : Int} (m0 : 0 ≤ m) (m1 : m ≤ 63) (w1 : 1 ≤ w) (w8 : w ≤ 8) (l0 : 0 ≤ l) (l1 : l ≤ 63) (k0 : 0 ≤ k) (k1 : k ≤ 9) {fr to : Int} (hfr : fr = kmaxi 0 (m - w)) (hto : to = kmini 63 (m + w))  : ∀ (f : Nat) (x y : Int) (P : Nat → Int), fr ≤ x → x ≤ to + 1 → to + 1 - x ≤ f → y = ksum (fun x => kpq m w l k x) x.toNat → (∀ j : Nat, fr ≤ j → (j : Int) < x → P j = kpq m w l k j) → kE G mX8_misfitOf (d + 2) 0 0 31 [some (.ref (gB G + 91)), some (.ref (gB G + b)), some (.int (jI m)), some (.int (jI w)), some (.int (jI l)), some (.int (jI k)), some (.int (jI fr)), some (.int (jI to)), some (.long (jL y)), none, some (.int (jI x)), none, none, none] [] (kup h 92 (kla 64 P)) n (kmP h n (kmf A m w l k)) := by
  obtain ⟨rb1, rb2, rb3⟩ := id rb
  have tA := kA_sum hA
  unfold kUn at hu
  have q9 : 0 ≤ fr ∧ to ≤ 63 ∧ m - w ≤ fr := by rw [hfr, hto]; unfold kmaxi kmini; (repeat' split) <;> omega
  have ruK : ∀ P, rHu G (kup h 92 (kla 64 P)) 80 81 := fun P => rHu_up ru (by omega) (by omega)
  intro f
  induction f with
  | zero =>
    intro x y P g1 g2 g3 g4 g5
    refine e_iload rfl dX8_misfitOf_31 ?_
    refine e_iload rfl dX8_misfitOf_33 ?_
    refine e_icmp_gt (tgt := 91) dX8_misfitOf_35 (by decide) (by first | assumption | (unfold inI at *; omega)) (by first | assumption | (unfold inI at *; omega)) (fun c35 => ?_) (fun c35 => ?_)
    · rw [show y = kpt m w l k by rw [g4, k_mis1_end w1 w8 hto (by omega)]]
      exact k_mis91 ru hu rb hb hA m0 m1 w1 w8 l0 l1 k0 k1 hfr hto (fun j j1 j2 => g5 j j1 (by omega)) _ _ _ _
    · exact absurd c35 (by omega)
  | succ f ih =>
    intro x y P g1 g2 g3 g4 g5
    have q5 := khm_in (m := m) w1 w8 x
    refine e_iload rfl dX8_misfitOf_31 ?_
    refine e_iload rfl dX8_misfitOf_33 ?_
    refine e_icmp_gt (tgt := 91) dX8_misfitOf_35 (by decide) (by first | assumption | (unfold inI at *; omega)) (by first | assumption | (unfold inI at *; omega)) (fun c35 => ?_) (fun c35 => ?_)
    · rw [show y = kpt m w l k by rw [g4, k_mis1_end w1 w8 hto (by omega)]]
      exact k_mis91 ru hu rb hb hA m0 m1 w1 w8 l0 l1 k0 k1 hfr hto (fun j j1 j2 => g5 j j1 (by omega)) _ _ _ _
    · refine e_aload_n rfl dX8_misfitOf_38 ?_
      refine e_getf fdX8_9 dX8_misfitOf_39 (by first | assumption | exact kup_s | exact kup_n (by omega) (by first | assumption | exact kup_s | exact kup_n (by omega) (by first | assumption | exact kup_s | exact kup_n (by omega) (by assumption)))) rfl ?_
      refine e_iload rfl dX8_misfitOf_42 ?_
      refine e_aload_n rfl dX8_misfitOf_44 ?_
      refine e_getf fdX8_15 dX8_misfitOf_45 (by first | assumption | exact kup_s | exact kup_n (by omega) (by first | assumption | exact kup_s | exact kup_n (by omega) (by first | assumption | exact kup_s | exact kup_n (by omega) (by assumption)))) rfl ?_
      refine e_iload_n rfl dX8_misfitOf_48 ?_
      refine e_iload_n rfl dX8_misfitOf_49 ?_
      refine e_iload rfl dX8_misfitOf_50 ?_
      refine eV3 mtX3_menAt miX3_menAt lkX8_28 dX8_misfitOf_52 (ruK P).1 rfl rfl rfl (k_menAtH (ruK P) (by omega) (by omega) (by omega) (by omega) (by omega) (by omega)) ?_
      dsimp only [Option.toList, List.cons_append, List.nil_append]
      refine e_i2l (by first | assumption | (unfold inI at *; omega)) dX8_misfitOf_55 ?_
      refine e_iload rfl dX8_misfitOf_56 ?_
      refine e_iload rfl dX8_misfitOf_58 ?_
      refine e_icmp_lt (tgt := 68) dX8_misfitOf_60 (by decide) (by first | assumption | (unfold inI at *; omega)) (by first | assumption | (unfold inI at *; omega)) (fun c60 => ?_) (fun c60 => ?_)
      · refine e_iload rfl dX8_misfitOf_68 ?_
        refine e_i2l (by first | assumption | (unfold inI at *; omega)) dX8_misfitOf_70 ?_
        refine e_lmul dX8_misfitOf_71 ?_
        refine e_last dX8_misfitOf_72 (by first | assumption | exact kup_s | exact kup_n (by omega) (by first | assumption | exact kup_s | exact kup_n (by omega) (by first | assumption | exact kup_s | exact kup_n (by omega) (by assumption)))) (by omega) (by omega) ?_
        rw [kup_kup]
        refine e_lload rfl dX8_misfitOf_73 ?_
        refine e_aload_n rfl dX8_misfitOf_75 ?_
        refine e_getf fdX8_9 dX8_misfitOf_76 (by first | assumption | exact kup_s | exact kup_n (by omega) (by first | assumption | exact kup_s | exact kup_n (by omega) (by first | assumption | exact kup_s | exact kup_n (by omega) (by assumption)))) rfl ?_
        refine e_iload rfl dX8_misfitOf_79 ?_
        refine e_lald dX8_misfitOf_81 (by first | assumption | exact kup_s | exact kup_n (by omega) (by first | assumption | exact kup_s | exact kup_n (by omega) (by first | assumption | exact kup_s | exact kup_n (by omega) (by assumption)))) (by omega) (by omega) ?_
        simp only [up_s]
        refine e_ladd dX8_misfitOf_82 ?_
        refine e_lstore dX8_misfitOf_83 rfl rfl ?_
        dsimp only [List.set]
        refine e_iinc dX8_misfitOf_85 rfl rfl ?_
        dsimp only [List.set]
        refine e_goto (tgt := 31) dX8_misfitOf_88 (by decide) ?_
        have e7 : kpq m w l k x = khm m w x * (if l ≤ x then 10 else k) := rfl
        first | rw [if_pos (by omega)] at e7 | rw [if_neg (by omega)] at e7
        rw [← e7]
        exact ih (x + 1) _ _ (by omega) (by omega) (by omega) (by rw [g4, kpq_step (by omega)]) (fun j j1 j2 => by
          by_cases z : j = x.toNat
          · rw [z, up_s, show ((x.toNat : Nat) : Int) = x by omega]
          · rw [up_n z]
            exact g5 j j1 (by omega))
      · refine e_bipush (by decide) dX8_misfitOf_63 ?_
        refine e_goto (tgt := 70) dX8_misfitOf_65 (by decide) ?_
        refine e_i2l (by first | assumption | (unfold inI at *; omega)) dX8_misfitOf_70 ?_
        refine e_lmul dX8_misfitOf_71 ?_
        refine e_last dX8_misfitOf_72 (by first | assumption | exact kup_s | exact kup_n (by omega) (by first | assumption | exact kup_s | exact kup_n (by omega) (by first | assumption | exact kup_s | exact kup_n (by omega) (by assumption)))) (by omega) (by omega) ?_
        rw [kup_kup]
        refine e_lload rfl dX8_misfitOf_73 ?_
        refine e_aload_n rfl dX8_misfitOf_75 ?_
        refine e_getf fdX8_9 dX8_misfitOf_76 (by first | assumption | exact kup_s | exact kup_n (by omega) (by first | assumption | exact kup_s | exact kup_n (by omega) (by first | assumption | exact kup_s | exact kup_n (by omega) (by assumption)))) rfl ?_
        refine e_iload rfl dX8_misfitOf_79 ?_
        refine e_lald dX8_misfitOf_81 (by first | assumption | exact kup_s | exact kup_n (by omega) (by first | assumption | exact kup_s | exact kup_n (by omega) (by first | assumption | exact kup_s | exact kup_n (by omega) (by assumption)))) (by omega) (by omega) ?_
        simp only [up_s]
        refine e_ladd dX8_misfitOf_82 ?_
        refine e_lstore dX8_misfitOf_83 rfl rfl ?_
        dsimp only [List.set]
        refine e_iinc dX8_misfitOf_85 rfl rfl ?_
        dsimp only [List.set]
        refine e_goto (tgt := 31) dX8_misfitOf_88 (by decide) ?_
        have e7 : kpq m w l k x = khm m w x * (if l ≤ x then 10 else k) := rfl
        first | rw [if_pos (by omega)] at e7 | rw [if_neg (by omega)] at e7
        rw [← e7]
        exact ih (x + 1) _ _ (by omega) (by omega) (by omega) (by rw [g4, kpq_step (by omega)]) (fun j j1 j2 => by
          by_cases z : j = x.toNat
          · rw [z, up_s, show ((x.toNat : Nat) : Int) = x by omega]
          · rw [up_n z]
            exact g5 j j1 (by omega))
set_option maxHeartbeats 4000000 in
set_option maxRecDepth 100000 in
theorem k_misfitOf {G : kG} {d : Nat} {h : Nat → Option kC} {n : Nat} {q : Int × Int × Int × Int × Int} (ru : rHu G h 80 81) (hu : h 91 = some (kUn G q)) {b : Nat} {A E : Nat → Int} (rb : rBk G h b (b + 1) (b + 2) A E (ksum A 64)) (hb : b + 2 < 80 ∨ 92 < b) (hA : kAok A) {P : Nat → Int} (hp : h 92 = some (kla 64 P)) {m w l k : Int} (m0 : 0 ≤ m) (m1 : m ≤ 63) (w1 : 1 ≤ w) (w8 : w ≤ 8) (l0 : 0 ≤ l) (l1 : l ≤ 63) (k0 : 0 ≤ k) (k1 : k ≤ 9)  : kCall G mX8_misfitOf (d + 2) 0 0 [.ref (gB G + 91), .ref (gB G + b), .int (jI m), .int (jI w), .int (jI l), .int (jI k)] h n (kmP h n (kmf A m w l k)) := by
  show kE G mX8_misfitOf (d + 2) 0 0 0 [some (.ref (gB G + 91)), some (.ref (gB G + b)), some (.int (jI m)), some (.int (jI w)), some (.int (jI l)), some (.int (jI k)), none, none, none, none, none, none, none, none] [] h n _
  obtain ⟨rb1, rb2, rb3⟩ := id rb
  have tA := kA_sum hA
  unfold kUn at hu
  have q9 : 0 ≤ kmaxi 0 (m - w) ∧ kmaxi 0 (m - w) ≤ 63 ∧ kmini 63 (m + w) ≤ 63 ∧ kmaxi 0 (m - w) ≤ kmini 63 (m + w) + 1 := by unfold kmaxi kmini; (repeat' split) <;> omega
  refine e_iconst dX8_misfitOf_0 ?_
  refine e_iload_n rfl dX8_misfitOf_1 ?_
  refine e_iload_n rfl dX8_misfitOf_2 ?_
  refine e_isub dX8_misfitOf_3 ?_
  refine e_mmax (by first | assumption | (unfold inI at *; omega)) (by first | assumption | (unfold inI at *; omega)) lkX8_19 dX8_misfitOf_4 rfl ?_
  refine e_istore dX8_misfitOf_7 rfl rfl ?_
  dsimp only [List.set]
  refine e_aload_n rfl dX8_misfitOf_9 ?_
  refine e_getf fdX8_9 dX8_misfitOf_10 (by first | assumption | exact kup_s | exact kup_n (by omega) (by first | assumption | exact kup_s | exact kup_n (by omega) (by first | assumption | exact kup_s | exact kup_n (by omega) (by assumption)))) rfl ?_
  refine e_alen dX8_misfitOf_13 (by first | assumption | exact kup_s | exact kup_n (by omega) (by first | assumption | exact kup_s | exact kup_n (by omega) (by first | assumption | exact kup_s | exact kup_n (by omega) (by assumption)))) (fun _ => rfl) ?_
  refine e_iconst dX8_misfitOf_14 ?_
  refine e_isub dX8_misfitOf_15 ?_
  refine e_iload_n rfl dX8_misfitOf_16 ?_
  refine e_iload_n rfl dX8_misfitOf_17 ?_
  refine e_iadd dX8_misfitOf_18 ?_
  refine e_mmin (by first | assumption | (unfold inI at *; omega)) (by first | assumption | (unfold inI at *; omega)) lkX8_25 dX8_misfitOf_19 rfl ?_
  refine e_istore dX8_misfitOf_22 rfl rfl ?_
  dsimp only [List.set]
  refine e_lconst (z := 0) (by decide) dX8_misfitOf_24 ?_
  refine e_lstore dX8_misfitOf_25 rfl rfl ?_
  dsimp only [List.set]
  refine e_iload rfl dX8_misfitOf_27 ?_
  refine e_istore dX8_misfitOf_29 rfl rfl ?_
  dsimp only [List.set]
  have z9 := k_mis1_lp (n := n) (d := d) ru hu rb hb hA m0 m1 w1 w8 l0 l1 k0 k1 rfl rfl 200 (kmaxi 0 (m - w)) 0 P (by omega) (by omega) (by omega) (by rw [k_mis1_beg rfl]) (fun j j1 j2 => by omega)
  rw [kup_same hp] at z9
  exact z9
