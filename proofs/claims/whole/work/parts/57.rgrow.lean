/-! THE REFERENCE: GROWTH TAKEN, as numbers -/
def kgP (F : Nat → Nat → Int) (a : Int) : Nat → Nat → Int → Int
  | 0, _, r => r
  | f + 1, k, r => if F 109 k = a then F 110 k else kgP F a f (k + 1) r
theorem kgP_D {F : Nat → Nat → Int} {a : Int} : ∀ {f k : Nat}, kgP F a f k 0 = kgD F a f k
  | 0, _ => rfl
  | f + 1, k => by
    unfold kgP kgD
    rw [kgP_D]
theorem kgP_snoc {F : Nat → Nat → Int} {a r : Int} : ∀ {f k : Nat}, kgP F a (f + 1) k r = kgP F a f k (if F 109 (k + f) = a then F 110 (k + f) else r)
  | 0, k => rfl
  | f + 1, k => by
    have ih := kgP_snoc (F := F) (a := a) (r := r) (f := f) (k := k + 1)
    show (if F 109 k = a then F 110 k else kgP F a (f + 1) (k + 1) r) = (if F 109 k = a then F 110 k else kgP F a f (k + 1) _)
    rw [ih, show k + 1 + f = k + (f + 1) by omega]
theorem kgP_cg {F F' : Nat → Nat → Int} {a r : Int} : ∀ {f k : Nat}, (∀ i, k ≤ i → i < k + f → F' 109 i = F 109 i ∧ F' 110 i = F 110 i) → kgP F' a f k r = kgP F a f k r
  | 0, _, _ => rfl
  | f + 1, k, h => by
    unfold kgP
    rw [(h k (by omega) (by omega)).1, (h k (by omega) (by omega)).2, kgP_cg (f := f) (k := k + 1) (fun i a1 a2 => h i (by omega) (by omega))]
section KB
variable {T : Nat → Int} {a : Int} {f i : Nat} {nm nu : Int}
theorem kga_s : kga T a (f + 1) i nm nu = if 48 ≤ T i ∧ T i ≤ 57 then kga T a f (i + 1) nm (10 * nu + T i - 48) else if T i = 58 then kga T a f (i + 1) nu 0 else if nm = a then nu else kga T a f (i + 1) nm 0 := rfl
theorem kga_dig (h : 48 ≤ T i ∧ T i ≤ 57) : kga T a (f + 1) i nm nu = kga T a f (i + 1) nm (10 * nu + T i - 48) := by rw [kga_s, if_pos h]
theorem kga_col (h : T i = 58) : kga T a (f + 1) i nm nu = kga T a f (i + 1) nu 0 := by rw [kga_s, if_neg (by omega), if_pos h]
theorem kga_end (h : T i = 59) : kga T a (f + 1) i nm nu = if nm = a then nu else kga T a f (i + 1) nm 0 := by rw [kga_s, if_neg (by omega), if_neg (by omega)]
end KB
def kcC (s : Int) : Int := if s = 10 then 0 else if s = 13 then -2 else if s = 14 then 1 else -1
/-- what the reading stands at, against what is taken -/
def kGS (F : Nat → Nat → Int) (dn cs : Nat) (s nm nu : Int) : Prop := (s = 10 → nu = 0) ∧ (s = 11 ∨ s = 12 → nu = F 109 cs) ∧ (s = 13 → nm = F 109 cs ∧ nu = 0) ∧ (s = 14 → nm = F 109 dn ∧ nu = F 110 dn)
def kGI (T : Nat → Int) (c i : Nat) (s : Int) (F : Nat → Nat → Int) (dn cs : Nat) : Prop :=
  ((s = 14 → cs = dn + 1) ∧ (¬ s = 14 → cs = dn)) ∧ 4 * (cs : Int) ≤ i + kcC s ∧ (∀ k, k < cs → (0 ≤ F 109 k ∧ F 109 k ≤ 99) ∧ 0 ≤ F 110 k ∧ F 110 k ≤ 9) ∧ (s = 11 → 0 ≤ F 109 cs ∧ F 109 cs ≤ 9) ∧ (s = 12 ∨ s = 13 → 0 ≤ F 109 cs ∧ F 109 cs ≤ 99) ∧
  (cs : Int) = ksum (ksem T) i + (if s = 14 then 1 else 0) ∧
  ∀ a : Int, ∃ nm nu : Int, kga T a c 0 0 0 = kgP F a dn 0 (kga T a (c - i) i nm nu) ∧ kGS F dn cs s nm nu
theorem kGI_0 {T : Nat → Int} {c : Nat} {F : Nat → Nat → Int} : kGI T c 0 10 F 0 0 := by
  refine ⟨⟨fun h => absurd h (by decide), fun _ => rfl⟩, by decide, fun k hk => absurd hk (Nat.not_lt_zero k), fun h => absurd h (by decide), fun h => absurd h (by decide), rfl, fun a => ⟨0, 0, rfl, fun _ => rfl, fun h => absurd h (by decide), fun h => absurd h (by decide), fun h => absurd h (by decide)⟩⟩
section KT
variable {T : Nat → Int} {c i : Nat} {s : Int} {F F' : Nat → Nat → Int} {dn cs : Nat}
theorem kGI_d1 (r : kGI T c i s F dn cs) (hi : i < c) (hs : s = 10) (hx : 48 ≤ T i ∧ T i ≤ 57) (hF : ∀ j k, ¬ (j = 109 ∧ k = cs) → F' j k = F j k) (h9 : F' 109 cs = T i - 48) : kGI T c (i + 1) 11 F' dn cs := by
  subst hs
  have b1 := r.2.1
  have c1 := r.2.2.1
  have k1 := r.2.2.2.2.2.1
  have l1 := r.2.2.2.2.2.2
  have hcs := (r.1.2) (by omega)
  refine ⟨⟨by omega, fun _ => hcs⟩, by unfold kcC at *; simp at b1 ⊢; omega, fun k hk => by rw [hF 109 k (by omega), hF 110 k (by omega)]; exact c1 k hk, fun _ => by rw [h9]; omega, by omega, ?_, fun a => ?_⟩
  · rw [ksem_n (by omega), k1]
    simp
  · obtain ⟨nm, nu, m1, m2⟩ := l1 a
    have hk : ∀ r, kgP F' a dn 0 r = kgP F a dn 0 r := fun r => kgP_cg (fun k _ hk => ⟨hF 109 k (by omega), hF 110 k (by omega)⟩)
    refine ⟨nm, 10 * nu + T i - 48, ?_, by omega, fun _ => ?_, by omega, by omega⟩
    · rw [hk, m1, show c - i = c - (i + 1) + 1 by omega, kga_dig hx]
    · rw [h9, (m2.1) rfl]
      omega
theorem kGI_d2 (r : kGI T c i s F dn cs) (hi : i < c) (hs : s = 11) (hx : 48 ≤ T i ∧ T i ≤ 57) (hF : ∀ j k, ¬ (j = 109 ∧ k = cs) → F' j k = F j k) (h9 : F' 109 cs = 10 * F 109 cs + (T i - 48)) : kGI T c (i + 1) 12 F' dn cs := by
  subst hs
  have b1 := r.2.1
  have c1 := r.2.2.1
  have k1 := r.2.2.2.2.2.1
  have l1 := r.2.2.2.2.2.2
  have hcs := (r.1.2) (by omega)
  have hc2 := (r.2.2.2.1) rfl
  refine ⟨⟨by omega, fun _ => hcs⟩, by unfold kcC at *; simp at b1 ⊢; omega, fun k hk => by rw [hF 109 k (by omega), hF 110 k (by omega)]; exact c1 k hk, by omega, fun _ => by rw [h9]; omega, ?_, fun a => ?_⟩
  · rw [ksem_n (by omega), k1]
    simp
  · obtain ⟨nm, nu, m1, m2⟩ := l1 a
    have hk : ∀ r, kgP F' a dn 0 r = kgP F a dn 0 r := fun r => kgP_cg (fun k _ hk => ⟨hF 109 k (by omega), hF 110 k (by omega)⟩)
    refine ⟨nm, 10 * nu + T i - 48, ?_, by omega, fun _ => ?_, by omega, by omega⟩
    · rw [hk, m1, show c - i = c - (i + 1) + 1 by omega, kga_dig hx]
    · rw [h9, (m2.2.1) (by omega)]
      omega
theorem kGI_col (r : kGI T c i s F dn cs) (hi : i < c) (hs : s = 11 ∨ s = 12) (hx : T i = 58) : kGI T c (i + 1) 13 F dn cs := by
  have b1 := r.2.1
  have c1 := r.2.2.1
  have k1 := r.2.2.2.2.2.1
  have l1 := r.2.2.2.2.2.2
  have hcs := (r.1.2) (by omega)
  refine ⟨⟨by omega, fun _ => hcs⟩, ?_, c1, by omega, fun _ => ?_, ?_, fun a => ?_⟩
  · unfold kcC at *
    rcases hs with hs | hs <;> subst hs <;> simp at b1 ⊢ <;> omega
  · rcases hs with hs | hs
    · have := (r.2.2.2.1) hs
      omega
    · exact (r.2.2.2.2.1) (Or.inl hs)
  · rw [ksem_n (by omega), k1]
    rcases hs with hs | hs <;> subst hs <;> simp
  · obtain ⟨nm, nu, m1, m2⟩ := l1 a
    refine ⟨nu, 0, ?_, by omega, by omega, fun _ => ⟨(m2.2.1) hs, rfl⟩, by omega⟩
    rw [m1, show c - i = c - (i + 1) + 1 by omega, kga_col hx]
theorem kGI_say (r : kGI T c i s F dn cs) (hi : i < c) (hs : s = 13) (hx : 48 ≤ T i ∧ T i ≤ 57) (hF : ∀ j k, ¬ (j = 110 ∧ k = cs) → F' j k = F j k) (h9 : F' 110 cs = T i - 48) : kGI T c (i + 1) 14 F' dn (cs + 1) := by
  subst hs
  have b1 := r.2.1
  have c1 := r.2.2.1
  have k1 := r.2.2.2.2.2.1
  have l1 := r.2.2.2.2.2.2
  have hcs := (r.1.2) (by omega)
  have hc3 := (r.2.2.2.2.1) (Or.inr rfl)
  refine ⟨⟨fun _ => by omega, by omega⟩, by unfold kcC at *; simp at b1 ⊢; omega, fun k hk => ?_, by omega, by omega, ?_, fun a => ?_⟩
  · rw [hF 109 k (by omega)]
    by_cases e : k = cs
    · subst e
      rw [h9]
      omega
    · rw [hF 110 k (by omega)]
      exact c1 k (by omega)
  · rw [ksem_n (by omega)]
    rw [if_neg (by omega)] at k1
    rw [if_pos rfl]
    omega
  · obtain ⟨nm, nu, m1, m2⟩ := l1 a
    obtain ⟨n31, n32⟩ := (m2.2.2.1) rfl
    have hk : ∀ r, kgP F' a dn 0 r = kgP F a dn 0 r := fun r => kgP_cg (fun k _ hk => ⟨hF 109 k (by omega), hF 110 k (by omega)⟩)
    refine ⟨nm, 10 * nu + T i - 48, ?_, by omega, by omega, by omega, fun _ => ⟨?_, ?_⟩⟩
    · rw [hk, m1, show c - i = c - (i + 1) + 1 by omega, kga_dig hx]
    · rw [hF 109 dn (by omega), ← hcs]
      exact n31
    · rw [← hcs, h9, n32]
      omega
theorem kGI_semi (r : kGI T c i s F dn cs) (hi : i < c) (hs : s = 14) (hx : T i = 59) : kGI T c (i + 1) 10 F (dn + 1) cs := by
  subst hs
  have b1 := r.2.1
  have c1 := r.2.2.1
  have k1 := r.2.2.2.2.2.1
  have l1 := r.2.2.2.2.2.2
  have hcs := (r.1.1) rfl
  refine ⟨⟨by omega, fun _ => hcs⟩, by unfold kcC at *; simp at b1 ⊢; omega, c1, by omega, by omega, ?_, fun a => ?_⟩
  · rw [ksum_s]
    rw [if_pos rfl] at k1
    unfold ksem at k1 ⊢
    rw [if_pos hx, if_neg (by omega)]
    omega
  · obtain ⟨nm, nu, m1, m2⟩ := l1 a
    obtain ⟨n41, n42⟩ := (m2.2.2.2) rfl
    refine ⟨nm, 0, ?_, fun _ => rfl, by omega, by omega, by omega⟩
    rw [kgP_snoc, m1, show c - i = c - (i + 1) + 1 by omega, kga_end hx, show 0 + dn = dn by omega, ← n41, ← n42]
theorem kGI_end {q : Nat → Int} {t : Int × (Nat → Int)} (r : kGI t.2 t.1.toNat t.1.toNat s F dn cs) (h0 : 0 < t.1) (h1 : t.1 ≤ 60) (hs : s = 14) (hc : q 16 = cs) : kGD q F t := by
  subst hs
  have b1 := r.2.1
  have c1 := r.2.2.1
  have k1 := r.2.2.2.2.2.1
  have l1 := r.2.2.2.2.2.2
  have hcs := (r.1.1) rfl
  unfold kcC at b1
  simp at b1
  refine ⟨?_, by omega, fun k hk => ?_, fun a _ => ?_⟩
  · rw [hc, k1, if_pos rfl]
    unfold kpc
    rw [if_neg (by omega), Int.add_comm]
    rfl
  · have := c1 k (by omega)
    omega
  · obtain ⟨nm, nu, m1, m2⟩ := l1 a
    obtain ⟨n41, n42⟩ := (m2.2.2.2) rfl
    unfold kgw
    rw [m1, ← kgP_D, show (q 16).toNat = dn + 1 by omega, kgP_snoc, show t.1.toNat - t.1.toNat = 0 by omega, show 0 + dn = dn by omega, ← n41, ← n42]
    rfl
end KT
/-! what leads where -/
theorem kaf_inv {s x : Int} (h : 0 ≤ s ∧ s ≤ 9) : (kaf s x = -1) ∨ (kaf s x = 0 ∧ (s = 8 ∨ s = 9) ∧ x = 59) ∨ (kaf s x = 1 ∧ (s = 4 ∨ s = 5) ∧ x = 38) ∨ (kaf s x = 2 ∧ (s = 0 ∨ s = 1) ∧ (x = 121 ∨ x = 97)) ∨ (kaf s x = 3 ∧ s = 2 ∧ (x = 60 ∨ x = 62 ∨ x = 61)) ∨ (kaf s x = 4 ∧ s = 3 ∧ 48 ≤ x ∧ x ≤ 57) ∨ (kaf s x = 5 ∧ s = 4 ∧ 48 ≤ x ∧ x ≤ 57) ∨ (kaf s x = 6 ∧ s = 0 ∧ x = 42) ∨ (kaf s x = 7 ∧ (s = 4 ∨ s = 5 ∨ s = 6) ∧ x = 58) ∨ (kaf s x = 8 ∧ s = 7 ∧ 48 ≤ x ∧ x ≤ 57) ∨ (kaf s x = 9 ∧ s = 8 ∧ 48 ≤ x ∧ x ≤ 57) := by
  rcases (show s = 0 ∨ s = 1 ∨ s = 2 ∨ s = 3 ∨ s = 4 ∨ s = 5 ∨ s = 6 ∨ s = 7 ∨ s = 8 ∨ s = 9 by omega) with e | e | e | e | e | e | e | e | e | e <;> subst e
  · rw [kaf_0]; unfold kbeg; (repeat' split) <;> simp <;> omega
  · rw [kaf_1]; unfold kbeg; (repeat' split) <;> simp <;> omega
  · rw [kaf_2]; (repeat' split) <;> simp <;> omega
  · rw [kaf_3]; (repeat' split) <;> simp <;> omega
  · rw [kaf_4]; unfold kend; (repeat' split) <;> simp <;> omega
  · rw [kaf_5]; unfold kend; (repeat' split) <;> simp <;> omega
  · rw [kaf_6]; (repeat' split) <;> simp <;> omega
  · rw [kaf_7]; (repeat' split) <;> simp <;> omega
  · rw [kaf_8]; (repeat' split) <;> simp <;> omega
  · rw [kaf_9]; (repeat' split) <;> simp <;> omega
theorem kaf_ing {s x : Int} (h : 10 ≤ s ∧ s ≤ 14) : (kaf s x = -1) ∨ (kaf s x = 10 ∧ s = 14 ∧ x = 59) ∨ (kaf s x = 11 ∧ s = 10 ∧ 48 ≤ x ∧ x ≤ 57) ∨ (kaf s x = 12 ∧ s = 11 ∧ 48 ≤ x ∧ x ≤ 57) ∨ (kaf s x = 13 ∧ (s = 11 ∨ s = 12) ∧ x = 58) ∨ (kaf s x = 14 ∧ s = 13 ∧ 48 ≤ x ∧ x ≤ 57) := by
  rcases (show s = 10 ∨ s = 11 ∨ s = 12 ∨ s = 13 ∨ s = 14 by omega) with e | e | e | e | e <;> subst e
  · rw [kaf_10]; (repeat' split) <;> simp <;> omega
  · rw [kaf_11]; (repeat' split) <;> simp <;> omega
  · rw [kaf_12]; (repeat' split) <;> simp <;> omega
  · rw [kaf_13]; (repeat' split) <;> simp <;> omega
  · rw [kaf_14]; (repeat' split) <;> simp <;> omega
theorem krun_ns {T : Nat → Int} {s0 : Int} {c : Nat} (h : krun T s0 c ≠ -1) : ∀ {i : Nat}, i ≤ c → krun T s0 i ≠ -1 := by
  induction c with
  | zero => intro i hi; rw [show i = 0 by omega]; exact h
  | succ c ih =>
    intro i hi
    by_cases e : i = c + 1
    · rw [e]; exact h
    · refine ih (fun z => h ?_) (by omega)
      show (if krun T s0 c = -1 then (-1 : Int) else _) = -1
      rw [if_pos z]
theorem kfault_6 {T : Nat → Int} {c how : Int} (h0 : 0 ≤ c) : kfault T c how = -6 ∨ 0 ≤ kfault T c how := by
  unfold kfault
  (repeat' split) <;> omega
theorem kfault_n {T : Nat → Int} {c how : Int} (h0 : 0 ≤ c) (h : kfault T c how = -6) : krun T (if how = 0 then 0 else 10) c.toNat = 8 ∨ krun T (if how = 0 then 0 else 10) c.toNat = 9 ∨ krun T (if how = 0 then 0 else 10) c.toNat = 14 := by
  unfold kfault at h
  generalize (if how = 0 then (0 : Int) else 10) = s9 at h ⊢
  split at h
  · omega
  · split at h
    · assumption
    · omega
theorem up2_o1 {F : Nat → Nat → Int} {j1 k1 : Nat} {v : Int} (j k : Nat) (h : ¬ (j = j1 ∧ k = k1)) : up2 F j1 (up (F j1) k1 v) j k = F j k := by
  by_cases e : j = j1
  · subst e
    rw [up2_s, up_n (by omega)]
  · rw [up2_n e]
theorem up2_v1 {F : Nat → Nat → Int} {j1 k1 : Nat} {v : Int} : up2 F j1 (up (F j1) k1 v) j1 k1 = v := by rw [up2_s, up_s]
theorem up2_o2 {F : Nat → Nat → Int} {j1 k1 j2 k2 : Nat} {v w : Int} (j k : Nat) (h1 : ¬ (j = j1 ∧ k = k1)) (h2 : ¬ (j = j2 ∧ k = k2)) : up2 (up2 F j1 (up (F j1) k1 v)) j2 (up (up2 F j1 (up (F j1) k1 v) j2) k2 w) j k = F j k := by rw [up2_o1 (F := up2 F j1 (up (F j1) k1 v)) j k h2, up2_o1 j k h1]
theorem up2_v2 {F : Nat → Nat → Int} {j1 k1 j2 k2 : Nat} {v w : Int} (hne : j1 ≠ j2) : up2 (up2 F j1 (up (F j1) k1 v)) j2 (up (up2 F j1 (up (F j1) k1 v) j2) k2 w) j1 k1 = v := by rw [up2_n hne, up2_v1]
theorem kTI_b {T : Nat → Int} {c i : Nat} {s : Int} {F : Nat → Nat → Int} {dn cs ts : Nat} (r : kTI T c i s F dn cs ts) : 4 * (cs : Int) ≤ i + 2 ∧ 4 * (ts : Int) ≤ i + 3 ∧ (2 ≤ s ∧ s ≤ 5 → 1 ≤ ts) ∧ (7 ≤ s → 1 ≤ cs) := by
  have hA : kcA s ≤ 2 := by unfold kcA; (repeat' split) <;> omega
  have hB : kcB s ≤ 3 := by unfold kcB; (repeat' split) <;> omega
  have b1 := r.2.1.1
  have b2 := r.2.1.2
  have c2 := r.2.2.1.2.1
  refine ⟨by omega, by omega, fun h => ?_, fun h => ?_⟩
  · have h1 := (r.2.2.2.1.2.2) h
    have h2 := (c2 dn (by have := (r.1.2) (by omega); omega)).1
    omega
  · have := (r.1.1) h
    omega
theorem kGI_b {T : Nat → Int} {c i : Nat} {s : Int} {F : Nat → Nat → Int} {dn cs : Nat} (r : kGI T c i s F dn cs) : 4 * (cs : Int) ≤ i + 1 := by
  have hA : kcC s ≤ 1 := by unfold kcC; (repeat' split) <;> omega
  have := r.2.1
  omega
theorem kGD_2 {q q' : Nat → Int} {F F' : Nat → Nat → Int} {t : Int × (Nat → Int)} (r : kGD q F t) (h1 : q' 16 = q 16) (h2 : F' 109 = F 109) (h3 : F' 110 = F 110) : kGD q' F' t := by
  obtain ⟨a1, a2, a3, a4⟩ := r
  refine ⟨by rw [h1]; exact a1, by rw [h1]; exact a2, by rw [h1, h2, h3]; exact a3, fun a ha => ?_⟩
  rw [h1, ← a4 a ha]
  exact kgD_cg (fun i _ _ => ⟨by rw [h2], by rw [h3]⟩)
theorem kRD_2 {q q' : Nat → Int} {F F' : Nat → Nat → Int} {t : Int × (Nat → Int)} (r : kRD q F t) (h1 : q' 9 = q 9) (h2 : q' 13 = q 13) (hF : ∀ j, 104 ≤ j → j ≤ 108 → F' j = F j) : kRD q' F' t := by
  unfold kRD at *
  rw [h1, h2, hF 104 (by omega) (by omega), hF 105 (by omega) (by omega), hF 106 (by omega) (by omega), hF 107 (by omega) (by omega), hF 108 (by omega) (by omega)]
  obtain ⟨a1, a2, a3, a4, a5, a6, a7, a8⟩ := r
  refine ⟨a1, a2, a3, a4, a5, a6, a7, fun y a => ?_⟩
  rw [← a8 y a]
  exact klD_cg (fun i _ _ => by rw [hF 104 (by omega) (by omega)]) (fun i _ _ => by rw [hF 105 (by omega) (by omega)]) (fun i j t _ _ g1 g2 _ => by rw [hF j (by omega) (by omega)])
