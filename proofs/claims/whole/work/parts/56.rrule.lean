/-! THE REFERENCE: THE RULE TAKEN, as numbers -/
def kl9 (F : Nat → Nat → Int) (y a : Int) : Nat → Nat → Int → Int
  | 0, _, r => r
  | f + 1, k, r => if kcs F y a k = 1 then F 105 k else kl9 F y a f (k + 1) r
theorem kl9_D {F : Nat → Nat → Int} {y a : Int} : ∀ {f k : Nat}, kl9 F y a f k 0 = klD F y a f k
  | 0, _ => rfl
  | f + 1, k => by
    unfold kl9 klD
    rw [kl9_D]
theorem kl9_snoc {F : Nat → Nat → Int} {y a r : Int} : ∀ {f k : Nat}, kl9 F y a (f + 1) k r = kl9 F y a f k (if kcs F y a (k + f) = 1 then F 105 (k + f) else r)
  | 0, k => rfl
  | f + 1, k => by
    have ih := kl9_snoc (F := F) (y := y) (a := a) (r := r) (f := f) (k := k + 1)
    show (if kcs F y a k = 1 then F 105 k else kl9 F y a (f + 1) (k + 1) r) = (if kcs F y a k = 1 then F 105 k else kl9 F y a f (k + 1) _)
    rw [ih, show k + 1 + f = k + (f + 1) by omega]
theorem kl9_cg {F F' : Nat → Nat → Int} {y a r : Int} : ∀ {f k : Nat}, (∀ i, k ≤ i → i ≤ k + f → F' 104 i = F 104 i) → (∀ i, k ≤ i → i < k + f → F' 105 i = F 105 i) → (∀ i j t, k ≤ i → i < k + f → 106 ≤ j → j ≤ 108 → t < (F 104 (i + 1)).toNat → F' j t = F j t) → kl9 F' y a f k r = kl9 F y a f k r
  | 0, _, _, _, _ => rfl
  | f + 1, k, h1, h2, h3 => by
    unfold kl9
    rw [kcs_cg (h1 k (by omega) (by omega)) (h1 (k + 1) (by omega) (by omega)) (fun j t a1 a2 a3 => h3 k j t (by omega) (by omega) a1 a2 a3), h2 k (by omega) (by omega), kl9_cg (f := f) (k := k + 1) (fun i a1 a2 => h1 i (by omega) (by omega)) (fun i a1 a2 => h2 i (by omega) (by omega)) (fun i j t a1 a2 a3 a4 a5 => h3 i j t (by omega) (by omega) a3 a4 a5)]
theorem kl9_k {F F' : Nat → Nat → Int} {y a r : Int} {dn : Nat} (h1 : ∀ k, k ≤ dn → F' 104 k = F 104 k) (h2 : ∀ k, k < dn → F' 105 k = F 105 k) (h3 : ∀ j t, 106 ≤ j → j ≤ 108 → t < (F 104 dn).toNat → F' j t = F j t) (hm : ∀ k, k ≤ dn → F 104 k ≤ F 104 dn) : kl9 F' y a dn 0 r = kl9 F y a dn 0 r :=
  kl9_cg (fun i _ a2 => h1 i (by omega)) (fun i _ a2 => h2 i (by omega)) (fun i j t _ a2 a3 a4 a5 => h3 j t a3 a4 (by have := hm (i + 1) (by omega); omega))
section KB
variable {T : Nat → Int} {y a : Int} {f i : Nat} {ft nm cp nu : Int}
theorem klb_s : klb T y a (f + 1) i ft nm cp nu = if 48 ≤ T i ∧ T i ≤ 57 then klb T y a f (i + 1) ft nm cp (10 * nu + T i - 48) else if T i = 121 ∨ T i = 97 then klb T y a f (i + 1) ft (if T i = 121 then y else a) cp nu else if T i = 38 ∨ T i = 58 then klb T y a f (i + 1) (if ft = 1 ∧ kho nm cp nu = 1 then 1 else 0) nm cp 0 else if ¬ T i = 59 then klb T y a f (i + 1) ft nm (T i) nu else if ft = 1 then nu else klb T y a f (i + 1) 1 nm cp 0 := rfl
theorem klb_dig (h : 48 ≤ T i ∧ T i ≤ 57) : klb T y a (f + 1) i ft nm cp nu = klb T y a f (i + 1) ft nm cp (10 * nu + T i - 48) := by rw [klb_s, if_pos h]
theorem klb_nam (h : T i = 121 ∨ T i = 97) : klb T y a (f + 1) i ft nm cp nu = klb T y a f (i + 1) ft (if T i = 121 then y else a) cp nu := by rw [klb_s, if_neg (by omega), if_pos h]
theorem klb_tst (h : T i = 38 ∨ T i = 58) : klb T y a (f + 1) i ft nm cp nu = klb T y a f (i + 1) (if ft = 1 ∧ kho nm cp nu = 1 then 1 else 0) nm cp 0 := by rw [klb_s, if_neg (by omega), if_neg (by omega), if_pos h]
theorem klb_cmp (h : T i = 42 ∨ T i = 60 ∨ T i = 61 ∨ T i = 62) : klb T y a (f + 1) i ft nm cp nu = klb T y a f (i + 1) ft nm (T i) nu := by rw [klb_s, if_neg (by omega), if_neg (by omega), if_neg (by omega), if_pos (by omega)]
theorem klb_end (h : T i = 59) : klb T y a (f + 1) i ft nm cp nu = if ft = 1 then nu else klb T y a f (i + 1) 1 nm cp 0 := by rw [klb_s, if_neg (by omega), if_neg (by omega), if_neg (by omega), if_neg (by omega)]
end KB
def kcA (s : Int) : Int := if s = 0 then 0 else if s = 7 then 2 else if s = 8 then 1 else if s = 9 then 1 else -1
def kcB (s : Int) : Int := if s = 2 then 3 else if s = 3 then 2 else if s = 4 then 1 else if s = 5 then 1 else 0
def ksem (T : Nat → Int) : Nat → Int := fun j => if T j = 59 then 1 else 0
/-- what the reading of a text stands at, against what is taken of it -/
def kTS (F : Nat → Nat → Int) (y a : Int) (dn ts : Nat) (s ft nm cp nu : Int) : Prop :=
  (s = 0 → ft = 1 ∧ nu = 0) ∧ (s = 6 → ft = 1 ∧ nu = 0 ∧ cp = 42) ∧ (s = 1 → ft = kfa F y a (F 104 dn).toNat (ts - (F 104 dn).toNat) ∧ nu = 0) ∧
  (2 ≤ s ∧ s ≤ 5 → ft = kfa F y a (F 104 dn).toNat (ts - 1 - (F 104 dn).toNat) ∧ nm = (if F 106 (ts - 1) = 121 then y else a) ∧ nu = F 108 (ts - 1)) ∧ (3 ≤ s ∧ s ≤ 5 → cp = F 107 (ts - 1)) ∧ (7 ≤ s → ft = kcs F y a dn ∧ nu = F 105 dn)
def kTI (T : Nat → Int) (c i : Nat) (s : Int) (F : Nat → Nat → Int) (dn cs ts : Nat) : Prop :=
  ((7 ≤ s → cs = dn + 1) ∧ (¬ 7 ≤ s → cs = dn)) ∧ (4 * (cs : Int) ≤ i + kcA s ∧ 4 * (ts : Int) ≤ i + kcB s) ∧
  (F 104 0 = 0 ∧ (∀ k, k ≤ cs → 0 ≤ F 104 k ∧ F 104 k ≤ ts) ∧ ∀ k, k ≤ dn → F 104 k ≤ F 104 dn) ∧
  ((s = 0 ∨ s = 6 → F 104 dn = ts) ∧ (7 ≤ s → F 104 cs = ts) ∧ (2 ≤ s ∧ s ≤ 5 → F 104 dn < ts)) ∧
  ((∀ k, k < cs → 0 ≤ F 105 k ∧ F 105 k ≤ 99) ∧ (s = 7 → F 105 dn = 0) ∧ (s = 8 → F 105 dn ≤ 9)) ∧
  ((∀ t, t < ts → (0 ≤ F 106 t ∧ F 106 t ≤ 126) ∧ 0 ≤ F 108 t ∧ F 108 t ≤ 99) ∧ (s = 2 ∨ s = 3 → F 108 (ts - 1) = 0) ∧ (s = 4 → F 108 (ts - 1) ≤ 9)) ∧
  (∀ t, t < ts → (s = 2 → t + 1 < ts) → F 107 t = 60 ∨ F 107 t = 61 ∨ F 107 t = 62) ∧
  (cs : Int) = ksum (ksem T) i + (if 7 ≤ s then 1 else 0) ∧
  ∀ y a : Int, ∃ ft nm cp nu : Int, klb T y a c 0 1 0 42 0 = kl9 F y a dn 0 (klb T y a (c - i) i ft nm cp nu) ∧ kTS F y a dn ts s ft nm cp nu
theorem kTI_0 {T : Nat → Int} {c : Nat} {F : Nat → Nat → Int} (h : F 104 0 = 0) : kTI T c 0 0 F 0 0 0 := by
  refine ⟨⟨fun h => absurd h (by decide), fun _ => rfl⟩, ⟨by decide, by decide⟩, ⟨h, fun k hk => ?_, fun k hk => ?_⟩, ⟨fun _ => h, fun h => absurd h (by decide), fun h => absurd h.1 (by decide)⟩, ⟨fun k hk => absurd hk (Nat.not_lt_zero k), fun h => absurd h (by decide), fun h => absurd h (by decide)⟩, ⟨fun k hk => absurd hk (Nat.not_lt_zero k), fun h => absurd h (by decide), fun h => absurd h (by decide)⟩, fun k hk => absurd hk (Nat.not_lt_zero k), rfl, fun y a => ⟨1, 0, 42, 0, rfl, fun _ => ⟨rfl, rfl⟩, fun h => absurd h (by decide), fun h => absurd h (by decide), fun h => absurd h.1 (by decide), fun h => absurd h.1 (by decide), fun h => absurd h (by decide)⟩⟩
  · rw [show k = 0 by omega, h]
    decide
  · rw [show k = 0 by omega, h]
    exact Int.le_refl 0
section KT
variable {T : Nat → Int} {c i : Nat} {s : Int} {F F' : Nat → Nat → Int} {dn cs ts : Nat}
theorem ksem_n (h : ¬ T i = 59) : ksum (ksem T) (i + 1) = ksum (ksem T) i := by
  rw [ksum_s]
  unfold ksem
  rw [if_neg h, Int.add_zero]
theorem kTI_star (r : kTI T c i s F dn cs ts) (hi : i < c) (hs : s = 0) (hx : T i = 42) : kTI T c (i + 1) 6 F dn cs ts := by
  subst hs
  have b1 := r.2.1.1
  have b2 := r.2.1.2
  have c1 := r.2.2.1.1
  have c2 := r.2.2.1.2.1
  have c3 := r.2.2.1.2.2
  have e1 := r.2.2.2.2.1.1
  have f1 := r.2.2.2.2.2.1.1
  have g1 := r.2.2.2.2.2.2.1
  have k1 := r.2.2.2.2.2.2.2.1
  have l1 := r.2.2.2.2.2.2.2.2
  refine ⟨⟨by omega, fun _ => (r.1.2) (by omega)⟩, ⟨by unfold kcA at *; simp at b1 ⊢; omega, by unfold kcB at *; simp at b2 ⊢; omega⟩, ⟨c1, c2, c3⟩, ⟨fun _ => (r.2.2.2.1.1) (Or.inl rfl), by omega, by omega⟩, ⟨e1, by omega, by omega⟩, ⟨f1, by omega, by omega⟩, fun t h1 h2 => g1 t h1 (by omega), ?_, fun y a => ?_⟩
  · rw [ksem_n (by omega)]
    simpa using k1
  · obtain ⟨ft, nm, cp, nu, m1, m2⟩ := l1 y a
    refine ⟨ft, nm, T i, nu, ?_, by omega, fun _ => ⟨((m2.1) rfl).1, ((m2.1) rfl).2, hx⟩, by omega, by omega, by omega, by omega⟩
    rw [m1, show c - i = c - (i + 1) + 1 by omega, klb_cmp (by omega)]
theorem kTI_name (r : kTI T c i s F dn cs ts) (hi : i < c) (hs : s = 0 ∨ s = 1) (hx : T i = 121 ∨ T i = 97) (hF : ∀ j k, ¬ ((j = 106 ∨ j = 108) ∧ k = ts) → F' j k = F j k) (h6 : F' 106 ts = T i) (h8 : F' 108 ts = 0) : kTI T c (i + 1) 2 F' dn cs (ts + 1) := by
  have b1 := r.2.1.1
  have b2 := r.2.1.2
  have c1 := r.2.2.1.1
  have c2 := r.2.2.1.2.1
  have c3 := r.2.2.1.2.2
  have e1 := r.2.2.2.2.1.1
  have f1 := r.2.2.2.2.2.1.1
  have g1 := r.2.2.2.2.2.2.1
  have k1 := r.2.2.2.2.2.2.2.1
  have l1 := r.2.2.2.2.2.2.2.2
  have e4 : ∀ k, F' 104 k = F 104 k := fun k => hF 104 k (by omega)
  have e5 : ∀ k, F' 105 k = F 105 k := fun k => hF 105 k (by omega)
  have e7 : ∀ k, F' 107 k = F 107 k := fun k => hF 107 k (by omega)
  have hcs := (r.1.2) (by omega)
  have hd := (c2 dn (by omega))
  refine ⟨⟨by omega, fun _ => hcs⟩, ⟨?_, ?_⟩, ⟨by rw [e4]; exact c1, fun k hk => ?_, fun k hk => ?_⟩, ⟨by omega, by omega, fun _ => ?_⟩, ⟨fun k hk => by rw [e5]; exact e1 k hk, by omega, by omega⟩, ⟨fun t ht => ?_, fun _ => ?_, by omega⟩, fun t h1 h2 => ?_, ?_, fun y a => ?_⟩
  · unfold kcA at *
    rcases hs with hs | hs <;> subst hs <;> simp at b1 ⊢ <;> omega
  · unfold kcB at *
    rcases hs with hs | hs <;> subst hs <;> simp at b2 ⊢ <;> omega
  · have := c2 k hk
    rw [e4]
    omega
  · rw [e4, e4]
    exact c3 k hk
  · rw [e4]
    omega
  · by_cases e : t = ts
    · subst e
      rw [h6, h8]
      omega
    · rw [hF 106 t (by omega), hF 108 t (by omega)]
      exact f1 t (by omega)
  · rw [show ts + 1 - 1 = ts by omega, h8]
  · rw [e7]
    exact g1 t (by have := h2 rfl; omega) (by omega)
  · rw [ksem_n (by omega), k1]
    rcases hs with hs | hs <;> subst hs <;> simp
  · obtain ⟨ft, nm, cp, nu, m1, m2⟩ := l1 y a
    have hk : ∀ r, kl9 F' y a dn 0 r = kl9 F y a dn 0 r := fun r => kl9_k (fun k _ => e4 k) (fun k _ => e5 k) (fun j t _ _ ht => hF j t (by omega)) c3
    have hf : kfa F' y a (F 104 dn).toNat (ts - (F 104 dn).toNat) = kfa F y a (F 104 dn).toNat (ts - (F 104 dn).toNat) := kfa_cg (fun j t _ _ _ ht => hF j t (by omega))
    have hft : ft = kfa F y a (F 104 dn).toNat (ts - (F 104 dn).toNat) ∧ nu = 0 := by
      rcases hs with hs | hs
      · have q1 := (m2.1) hs
        have q2 := (r.2.2.2.1.1) (Or.inl hs)
        rw [show ts - (F 104 dn).toNat = 0 by omega]
        exact ⟨q1.1, q1.2⟩
      · exact (m2.2.2.1) hs
    refine ⟨ft, (if T i = 121 then y else a), cp, nu, ?_, by omega, by omega, by omega, fun _ => ⟨?_, ?_, ?_⟩, by omega, by omega⟩
    · rw [hk, m1, show c - i = c - (i + 1) + 1 by omega, klb_nam hx]
    · rw [e4, show ts + 1 - 1 - (F 104 dn).toNat = ts - (F 104 dn).toNat by omega, hf]
      exact hft.1
    · rw [show ts + 1 - 1 = ts by omega, h6]
    · rw [show ts + 1 - 1 = ts by omega, h8]
      exact hft.2
theorem kTI_cmp (r : kTI T c i s F dn cs ts) (hi : i < c) (hs : s = 2) (hx : T i = 60 ∨ T i = 62 ∨ T i = 61) (hF : ∀ j k, ¬ (j = 107 ∧ k = ts - 1) → F' j k = F j k) (h7 : F' 107 (ts - 1) = T i) : kTI T c (i + 1) 3 F' dn cs ts := by
  subst hs
  have b1 := r.2.1.1
  have b2 := r.2.1.2
  have c1 := r.2.2.1.1
  have c2 := r.2.2.1.2.1
  have c3 := r.2.2.1.2.2
  have e1 := r.2.2.2.2.1.1
  have f1 := r.2.2.2.2.2.1.1
  have g1 := r.2.2.2.2.2.2.1
  have k1 := r.2.2.2.2.2.2.2.1
  have l1 := r.2.2.2.2.2.2.2.2
  have e4 : ∀ k, F' 104 k = F 104 k := fun k => hF 104 k (by omega)
  have e5 : ∀ k, F' 105 k = F 105 k := fun k => hF 105 k (by omega)
  have e6 : ∀ k, F' 106 k = F 106 k := fun k => hF 106 k (by omega)
  have e8 : ∀ k, F' 108 k = F 108 k := fun k => hF 108 k (by omega)
  have hcs := (r.1.2) (by omega)
  have hd := c2 dn (by omega)
  have hd3 := (r.2.2.2.1.2.2) (by omega)
  refine ⟨⟨by omega, fun _ => hcs⟩, ⟨?_, ?_⟩, ⟨by rw [e4]; exact c1, fun k hk => by rw [e4]; exact c2 k hk, fun k hk => by rw [e4, e4]; exact c3 k hk⟩, ⟨by omega, by omega, fun _ => by rw [e4]; exact hd3⟩, ⟨fun k hk => by rw [e5]; exact e1 k hk, by omega, by omega⟩, ⟨fun t ht => by rw [e6, e8]; exact f1 t ht, fun _ => by rw [e8]; exact (r.2.2.2.2.2.1.2.1) (by omega), by omega⟩, fun t h1 h2 => ?_, ?_, fun y a => ?_⟩
  · unfold kcA at *
    simp at b1 ⊢
    omega
  · unfold kcB at *
    simp at b2 ⊢
    omega
  · by_cases e : t = ts - 1
    · subst e
      rw [h7]
      omega
    · rw [hF 107 t (by omega)]
      exact g1 t h1 (by omega)
  · rw [ksem_n (by omega), k1]
    simp
  · obtain ⟨ft, nm, cp, nu, m1, m2⟩ := l1 y a
    obtain ⟨n41, n42, n43⟩ := (m2.2.2.2.1) (by omega)
    have hk : ∀ r, kl9 F' y a dn 0 r = kl9 F y a dn 0 r := fun r => kl9_k (fun k _ => e4 k) (fun k _ => e5 k) (fun j t _ _ ht => hF j t (by omega)) c3
    have hf : kfa F' y a (F 104 dn).toNat (ts - 1 - (F 104 dn).toNat) = kfa F y a (F 104 dn).toNat (ts - 1 - (F 104 dn).toNat) := kfa_cg (fun j t _ _ _ ht => hF j t (by omega))
    refine ⟨ft, nm, T i, nu, ?_, by omega, by omega, by omega, fun _ => ⟨?_, ?_, ?_⟩, fun _ => h7.symm, by omega⟩
    · rw [hk, m1, show c - i = c - (i + 1) + 1 by omega, klb_cmp (by omega)]
    · rw [e4, hf]
      exact n41
    · rw [e6]
      exact n42
    · rw [e8]
      exact n43
theorem kTI_dig (r : kTI T c i s F dn cs ts) (hi : i < c) (hs : s = 3 ∨ s = 4) (hx : 48 ≤ T i ∧ T i ≤ 57) (hF : ∀ j k, ¬ (j = 108 ∧ k = ts - 1) → F' j k = F j k) (h8 : F' 108 (ts - 1) = 10 * F 108 (ts - 1) + T i - 48) : kTI T c (i + 1) (s + 1) F' dn cs ts := by
  have b1 := r.2.1.1
  have b2 := r.2.1.2
  have c1 := r.2.2.1.1
  have c2 := r.2.2.1.2.1
  have c3 := r.2.2.1.2.2
  have e1 := r.2.2.2.2.1.1
  have f1 := r.2.2.2.2.2.1.1
  have g1 := r.2.2.2.2.2.2.1
  have k1 := r.2.2.2.2.2.2.2.1
  have l1 := r.2.2.2.2.2.2.2.2
  have e4 : ∀ k, F' 104 k = F 104 k := fun k => hF 104 k (by omega)
  have e5 : ∀ k, F' 105 k = F 105 k := fun k => hF 105 k (by omega)
  have e6 : ∀ k, F' 106 k = F 106 k := fun k => hF 106 k (by omega)
  have e7 : ∀ k, F' 107 k = F 107 k := fun k => hF 107 k (by omega)
  have hcs := (r.1.2) (by omega)
  have hd := c2 dn (by omega)
  have hd3 := (r.2.2.2.1.2.2) (by omega)
  have hf1 := f1 (ts - 1) (by omega)
  have hb : (s = 3 ∧ F 108 (ts - 1) = 0) ∨ (s = 4 ∧ F 108 (ts - 1) ≤ 9) := by
    rcases hs with hs | hs
    · exact Or.inl ⟨hs, (r.2.2.2.2.2.1.2.1) (by omega)⟩
    · exact Or.inr ⟨hs, (r.2.2.2.2.2.1.2.2) hs⟩
  refine ⟨⟨by omega, fun _ => hcs⟩, ⟨?_, ?_⟩, ⟨by rw [e4]; exact c1, fun k hk => by rw [e4]; exact c2 k hk, fun k hk => by rw [e4, e4]; exact c3 k hk⟩, ⟨by omega, by omega, fun _ => by rw [e4]; exact hd3⟩, ⟨fun k hk => by rw [e5]; exact e1 k hk, by omega, by omega⟩, ⟨fun t ht => ?_, by omega, fun h => by rw [h8]; omega⟩, fun t h1 h2 => by rw [e7]; exact g1 t h1 (by omega), ?_, fun y a => ?_⟩
  · unfold kcA at *
    rcases hs with hs | hs <;> subst hs <;> simp at b1 ⊢ <;> omega
  · unfold kcB at *
    rcases hs with hs | hs <;> subst hs <;> simp at b2 ⊢ <;> omega
  · rw [e6]
    by_cases e : t = ts - 1
    · subst e
      rw [h8]
      omega
    · rw [hF 108 t (by omega)]
      exact f1 t ht
  · rw [ksem_n (by omega), k1]
    rcases hs with hs | hs <;> subst hs <;> simp
  · obtain ⟨ft, nm, cp, nu, m1, m2⟩ := l1 y a
    obtain ⟨n41, n42, n43⟩ := (m2.2.2.2.1) (by omega)
    have hk : ∀ r, kl9 F' y a dn 0 r = kl9 F y a dn 0 r := fun r => kl9_k (fun k _ => e4 k) (fun k _ => e5 k) (fun j t _ _ ht => hF j t (by omega)) c3
    have hf : kfa F' y a (F 104 dn).toNat (ts - 1 - (F 104 dn).toNat) = kfa F y a (F 104 dn).toNat (ts - 1 - (F 104 dn).toNat) := kfa_cg (fun j t _ _ _ ht => hF j t (by omega))
    refine ⟨ft, nm, cp, 10 * nu + T i - 48, ?_, by omega, by omega, by omega, fun _ => ⟨?_, ?_, ?_⟩, fun _ => ?_, by omega⟩
    · rw [hk, m1, show c - i = c - (i + 1) + 1 by omega, klb_dig hx]
    · rw [e4, hf]
      exact n41
    · rw [e6]
      exact n42
    · rw [h8, n43]
    · rw [e7]
      exact (m2.2.2.2.2.1) (by omega)
/-- a test is over -/
theorem kTI_over {y a ft nm cp nu : Int} (h1 : ft = kfa F y a (F 104 dn).toNat (ts - 1 - (F 104 dn).toNat) ∧ nm = (if F 106 (ts - 1) = 121 then y else a) ∧ nu = F 108 (ts - 1)) (h2 : cp = F 107 (ts - 1)) (h3 : 0 ≤ F 104 dn) (h4 : F 104 dn < ts) : (if ft = 1 ∧ kho nm cp nu = 1 then (1 : Int) else 0) = kfa F y a (F 104 dn).toNat (ts - (F 104 dn).toNat) := by
  rw [show ts - (F 104 dn).toNat = ts - 1 - (F 104 dn).toNat + 1 by omega]
  show _ = (if kfa F y a (F 104 dn).toNat (ts - 1 - (F 104 dn).toNat) = 1 ∧ kft F y a ((F 104 dn).toNat + (ts - 1 - (F 104 dn).toNat)) = 1 then (1 : Int) else 0)
  rw [show (F 104 dn).toNat + (ts - 1 - (F 104 dn).toNat) = ts - 1 by omega, ← h1.1]
  unfold kft
  rw [← h1.2.1, ← h1.2.2, ← h2]
theorem kTI_and (r : kTI T c i s F dn cs ts) (hi : i < c) (hs : s = 4 ∨ s = 5) (hx : T i = 38) : kTI T c (i + 1) 1 F dn cs ts := by
  have b1 := r.2.1.1
  have b2 := r.2.1.2
  have c1 := r.2.2.1.1
  have c2 := r.2.2.1.2.1
  have c3 := r.2.2.1.2.2
  have e1 := r.2.2.2.2.1.1
  have f1 := r.2.2.2.2.2.1.1
  have g1 := r.2.2.2.2.2.2.1
  have k1 := r.2.2.2.2.2.2.2.1
  have l1 := r.2.2.2.2.2.2.2.2
  refine ⟨⟨by omega, fun _ => (r.1.2) (by omega)⟩, ⟨?_, ?_⟩, ⟨c1, c2, c3⟩, ⟨by omega, by omega, by omega⟩, ⟨e1, by omega, by omega⟩, ⟨f1, by omega, by omega⟩, fun t h1 h2 => g1 t h1 (by omega), ?_, fun y a => ?_⟩
  · unfold kcA at *
    rcases hs with hs | hs <;> subst hs <;> simp at b1 ⊢ <;> omega
  · unfold kcB at *
    rcases hs with hs | hs <;> subst hs <;> simp at b2 ⊢ <;> omega
  · rw [ksem_n (by omega), k1]
    rcases hs with hs | hs <;> subst hs <;> simp
  · obtain ⟨ft, nm, cp, nu, m1, m2⟩ := l1 y a
    have n66 := kTI_over ((m2.2.2.2.1) (by omega)) ((m2.2.2.2.2.1) (by omega)) (c2 dn (by have := (r.1.2) (by omega); omega)).1 ((r.2.2.2.1.2.2) (by omega))
    refine ⟨_, nm, cp, 0, ?_, by omega, by omega, fun _ => ⟨n66, rfl⟩, by omega, by omega, by omega⟩
    rw [m1, show c - i = c - (i + 1) + 1 by omega, klb_tst (by omega)]
theorem kTI_col (r : kTI T c i s F dn cs ts) (hi : i < c) (hs : s = 4 ∨ s = 5 ∨ s = 6) (hx : T i = 58) (hF : ∀ j k, ¬ (j = 105 ∧ k = cs) → ¬ (j = 104 ∧ k = cs + 1) → F' j k = F j k) (h5 : F' 105 cs = 0) (h4 : F' 104 (cs + 1) = ts) : kTI T c (i + 1) 7 F' dn (cs + 1) ts := by
  have b1 := r.2.1.1
  have b2 := r.2.1.2
  have c1 := r.2.2.1.1
  have c2 := r.2.2.1.2.1
  have c3 := r.2.2.1.2.2
  have e1 := r.2.2.2.2.1.1
  have f1 := r.2.2.2.2.2.1.1
  have g1 := r.2.2.2.2.2.2.1
  have k1 := r.2.2.2.2.2.2.2.1
  have l1 := r.2.2.2.2.2.2.2.2
  have hcs := (r.1.2) (by omega)
  have e4 : ∀ k, k ≤ dn → F' 104 k = F 104 k := fun k hk => hF 104 k (by omega) (by omega)
  have e5 : ∀ k, k < dn → F' 105 k = F 105 k := fun k hk => hF 105 k (by omega) (by omega)
  have eT : ∀ j k, 106 ≤ j → F' j k = F j k := fun j k hj => hF j k (by omega) (by omega)
  have hd := c2 dn (by omega)
  refine ⟨⟨fun _ => by omega, by omega⟩, ⟨?_, ?_⟩, ⟨by rw [e4 0 (by omega)]; exact c1, fun k hk => ?_, fun k hk => by rw [e4 k hk, e4 dn (by omega)]; exact c3 k hk⟩, ⟨by omega, fun _ => h4, by omega⟩, ⟨fun k hk => ?_, fun _ => by rw [← hcs]; exact h5, by omega⟩, ⟨fun t ht => by rw [eT 106 t (by omega), eT 108 t (by omega)]; exact f1 t ht, by omega, by omega⟩, fun t h1 h2 => by rw [eT 107 t (by omega)]; exact g1 t h1 (by omega), ?_, fun y a => ?_⟩
  · unfold kcA at *
    rcases hs with hs | hs | hs <;> subst hs <;> simp at b1 ⊢ <;> omega
  · unfold kcB at *
    rcases hs with hs | hs | hs <;> subst hs <;> simp at b2 ⊢ <;> omega
  · by_cases e : k = cs + 1
    · subst e
      rw [h4]
      omega
    · rw [e4 k (by omega)]
      exact c2 k (by omega)
  · by_cases e : k = cs
    · subst e
      rw [h5]
      decide
    · rw [e5 k (by omega)]
      exact e1 k (by omega)
  · rw [ksem_n (by omega)]
    rw [if_neg (by omega)] at k1
    rw [if_pos (by omega)]
    omega
  · obtain ⟨ft, nm, cp, nu, m1, m2⟩ := l1 y a
    have hk : ∀ r, kl9 F' y a dn 0 r = kl9 F y a dn 0 r := fun r => kl9_k e4 e5 (fun j t h1 _ _ => eT j t h1) c3
    have hf : (if ft = 1 ∧ kho nm cp nu = 1 then (1 : Int) else 0) = kfa F y a (F 104 dn).toNat (ts - (F 104 dn).toNat) := by
      by_cases h6 : s = 6
      · obtain ⟨q1, q2, q3⟩ := (m2.2.1) h6
        have q4 := (r.2.2.2.1.1) (Or.inr h6)
        rw [show ts - (F 104 dn).toNat = 0 by omega, q1, q3, if_pos ⟨rfl, rfl⟩]
        rfl
      · exact kTI_over ((m2.2.2.2.1) (by omega)) ((m2.2.2.2.2.1) (by omega)) hd.1 ((r.2.2.2.1.2.2) (by omega))
    have hc : kcs F' y a dn = kfa F y a (F 104 dn).toNat (ts - (F 104 dn).toNat) := by
      unfold kcs
      rw [e4 dn (by omega), ← hcs, h4, show ((ts : Nat) : Int).toNat = ts from Int.toNat_natCast ts]
      exact kfa_cg (fun j t h1 _ _ _ => eT j t h1)
    refine ⟨_, nm, cp, 0, ?_, by omega, by omega, by omega, by omega, by omega, fun _ => ⟨hf.trans hc.symm, ?_⟩⟩
    · rw [hk, m1, show c - i = c - (i + 1) + 1 by omega, klb_tst (by omega)]
    · rw [← hcs, h5]
theorem kTI_say (r : kTI T c i s F dn cs ts) (hi : i < c) (hs : s = 7 ∨ s = 8) (hx : 48 ≤ T i ∧ T i ≤ 57) (hF : ∀ j k, ¬ (j = 105 ∧ k = cs - 1) → F' j k = F j k) (h5 : F' 105 (cs - 1) = 10 * F 105 (cs - 1) + T i - 48) : kTI T c (i + 1) (s + 1) F' dn cs ts := by
  have b1 := r.2.1.1
  have b2 := r.2.1.2
  have c1 := r.2.2.1.1
  have c2 := r.2.2.1.2.1
  have c3 := r.2.2.1.2.2
  have e1 := r.2.2.2.2.1.1
  have f1 := r.2.2.2.2.2.1.1
  have g1 := r.2.2.2.2.2.2.1
  have k1 := r.2.2.2.2.2.2.2.1
  have l1 := r.2.2.2.2.2.2.2.2
  have hcs := (r.1.1) (by omega)
  have hcd : cs - 1 = dn := by omega
  rw [hcd] at hF h5
  have e4 : ∀ k, F' 104 k = F 104 k := fun k => hF 104 k (by omega)
  have eT : ∀ j k, 106 ≤ j → F' j k = F j k := fun j k hj => hF j k (by omega)
  have hr := e1 dn (by omega)
  have hb : (s = 7 ∧ F 105 dn = 0) ∨ (s = 8 ∧ F 105 dn ≤ 9) := by
    rcases hs with hs | hs
    · exact Or.inl ⟨hs, (r.2.2.2.2.1.2.1) hs⟩
    · exact Or.inr ⟨hs, (r.2.2.2.2.1.2.2) hs⟩
  refine ⟨⟨fun _ => hcs, by omega⟩, ⟨?_, ?_⟩, ⟨by rw [e4]; exact c1, fun k hk => by rw [e4]; exact c2 k hk, fun k hk => by rw [e4, e4]; exact c3 k hk⟩, ⟨by omega, fun _ => by rw [e4]; exact (r.2.2.2.1.2.1) (by omega), by omega⟩, ⟨fun k hk => ?_, by omega, fun h => by rw [h5]; omega⟩, ⟨fun t ht => by rw [eT 106 t (by omega), eT 108 t (by omega)]; exact f1 t ht, by omega, by omega⟩, fun t h1 h2 => by rw [eT 107 t (by omega)]; exact g1 t h1 (by omega), ?_, fun y a => ?_⟩
  · unfold kcA at *
    rcases hs with hs | hs <;> subst hs <;> simp at b1 ⊢ <;> omega
  · unfold kcB at *
    rcases hs with hs | hs <;> subst hs <;> simp at b2 ⊢ <;> omega
  · by_cases e : k = dn
    · subst e
      rw [h5]
      omega
    · rw [hF 105 k (by omega)]
      exact e1 k hk
  · rw [ksem_n (by omega), k1, if_pos (by omega), if_pos (by omega)]
  · obtain ⟨ft, nm, cp, nu, m1, m2⟩ := l1 y a
    obtain ⟨n61, n62⟩ := (m2.2.2.2.2.2) (by omega)
    have hk : ∀ r, kl9 F' y a dn 0 r = kl9 F y a dn 0 r := fun r => kl9_k (fun k _ => e4 k) (fun k hk => hF 105 k (by omega)) (fun j t h1 _ _ => eT j t h1) c3
    have hc : kcs F' y a dn = kcs F y a dn := kcs_cg (e4 _) (e4 _) (fun j t h1 _ _ => eT j t h1)
    refine ⟨ft, nm, cp, 10 * nu + T i - 48, ?_, by omega, by omega, by omega, by omega, by omega, fun _ => ⟨by rw [hc]; exact n61, by rw [h5, n62]⟩⟩
    rw [hk, m1, show c - i = c - (i + 1) + 1 by omega, klb_dig hx]
theorem kTI_semi (r : kTI T c i s F dn cs ts) (hi : i < c) (hs : s = 8 ∨ s = 9) (hx : T i = 59) : kTI T c (i + 1) 0 F (dn + 1) cs ts := by
  have b1 := r.2.1.1
  have b2 := r.2.1.2
  have c1 := r.2.2.1.1
  have c2 := r.2.2.1.2.1
  have c3 := r.2.2.1.2.2
  have e1 := r.2.2.2.2.1.1
  have f1 := r.2.2.2.2.2.1.1
  have g1 := r.2.2.2.2.2.2.1
  have k1 := r.2.2.2.2.2.2.2.1
  have l1 := r.2.2.2.2.2.2.2.2
  have hcs := (r.1.1) (by omega)
  have hd2 := (r.2.2.2.1.2.1) (by omega)
  refine ⟨⟨by omega, fun _ => hcs⟩, ⟨?_, ?_⟩, ⟨c1, c2, fun k hk => ?_⟩, ⟨fun _ => by rw [← hcs]; exact hd2, by omega, by omega⟩, ⟨e1, by omega, by omega⟩, ⟨f1, by omega, by omega⟩, fun t h1 h2 => g1 t h1 (by omega), ?_, fun y a => ?_⟩
  · unfold kcA at *
    rcases hs with hs | hs <;> subst hs <;> simp at b1 ⊢ <;> omega
  · unfold kcB at *
    rcases hs with hs | hs <;> subst hs <;> simp at b2 ⊢ <;> omega
  · rw [← hcs, hd2]
    exact (c2 k (by omega)).2
  · rw [ksum_s]
    unfold ksem
    rw [if_pos hx, if_neg (by omega)]
    rw [if_pos (by omega)] at k1
    unfold ksem at k1
    omega
  · obtain ⟨ft, nm, cp, nu, m1, m2⟩ := l1 y a
    obtain ⟨n61, n62⟩ := (m2.2.2.2.2.2) (by omega)
    refine ⟨1, nm, cp, 0, ?_, fun _ => ⟨rfl, rfl⟩, by omega, by omega, by omega, by omega, by omega⟩
    rw [kl9_snoc, m1, show c - i = c - (i + 1) + 1 by omega, klb_end hx, show 0 + dn = dn by omega, ← n61, ← n62]
/-- all is read -/
theorem kTI_end {q : Nat → Int} {t : Int × (Nat → Int)} (r : kTI t.2 t.1.toNat t.1.toNat s F dn cs ts) (h0 : 0 < t.1) (h1 : t.1 ≤ 60) (hs : s = 8 ∨ s = 9) (hc : q 9 = cs) (ht : q 13 = ts) : kRD q F t := by
  have b1 := r.2.1.1
  have b2 := r.2.1.2
  have c1 := r.2.2.1.1
  have c2 := r.2.2.1.2.1
  have c3 := r.2.2.1.2.2
  have e1 := r.2.2.2.2.1.1
  have f1 := r.2.2.2.2.2.1.1
  have g1 := r.2.2.2.2.2.2.1
  have k1 := r.2.2.2.2.2.2.2.1
  have l1 := r.2.2.2.2.2.2.2.2
  have hcs := (r.1.1) (by omega)
  have hA : kcA s ≤ 2 := by unfold kcA; (repeat' split) <;> omega
  have hB : kcB s ≤ 3 := by unfold kcB; (repeat' split) <;> omega
  refine ⟨?_, by omega, by omega, c1, fun k hk => ?_, fun k hk => ?_, fun k hk => ?_, fun y a => ?_⟩
  · rw [hc, k1, if_pos (by omega)]
    unfold kpc
    rw [if_neg (by omega), Int.add_comm]
    rfl
  · rw [ht]
    exact c2 k (by omega)
  · have := e1 k (by omega)
    omega
  · have q1 := f1 k (by omega)
    have q2 := g1 k (by omega) (by omega)
    exact ⟨q1.1, by omega, q1.2.1, by omega⟩
  · obtain ⟨ft, nm, cp, nu, m1, m2⟩ := l1 y a
    obtain ⟨n61, n62⟩ := (m2.2.2.2.2.2) (by omega)
    rw [m1, ← kl9_D, show (q 9).toNat = dn + 1 by omega, kl9_snoc, show t.1.toNat - t.1.toNat = 0 by omega, show 0 + dn = dn by omega, ← n61, ← n62]
    rfl
end KT
