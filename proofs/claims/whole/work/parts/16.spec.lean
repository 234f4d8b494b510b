/-! WHAT THE DOCUMENT SAYS, as whole numbers: sums, ways to choose, HUMPS -/
def ksum (F : Nat → Int) : Nat → Int
  | 0 => 0
  | k + 1 => ksum F k + F k
theorem ksum_s (F : Nat → Int) (k : Nat) : ksum F (k + 1) = ksum F k + F k := rfl
theorem ksum_cong {F F' : Nat → Int} : ∀ {n : Nat}, (∀ k, k < n → F k = F' k) → ksum F n = ksum F' n
  | 0, _ => rfl
  | n + 1, h => by rw [ksum_s, ksum_s, ksum_cong (fun k hk => h k (by omega)), h n (by omega)]
theorem ksum_tail {F : Nat → Int} {a : Nat} : ∀ {b : Nat}, a ≤ b → (∀ k, a ≤ k → k < b → F k = 0) → ksum F b = ksum F a
  | 0, h, _ => by rw [show a = 0 by omega]
  | b + 1, h, hz => by
    by_cases e : a = b + 1
    · rw [e]
    · rw [ksum_s, ksum_tail (b := b) (by omega) (fun k h1 h2 => hz k h1 (by omega)), hz b (by omega) (by omega), Int.add_zero]
theorem ksum_nn {F : Nat → Int} : ∀ {n : Nat}, (∀ k, k < n → 0 ≤ F k) → 0 ≤ ksum F n
  | 0, _ => Int.le_refl 0
  | n + 1, h => by
    have h1 := ksum_nn (n := n) (fun k hk => h k (by omega))
    have h2 := h n (by omega)
    rw [ksum_s]
    omega
theorem ksum_le {F : Nat → Int} {c : Int} : ∀ {n : Nat}, (∀ k, k < n → F k ≤ c) → ksum F n ≤ n * c
  | 0, _ => by simp [ksum]
  | n + 1, h => by
    have h1 := ksum_le (n := n) (fun k hk => h k (by omega))
    have h2 := h n (by omega)
    rw [ksum_s, show ((n + 1 : Nat) : Int) = (n : Int) + 1 from rfl, Int.add_mul, Int.one_mul]
    omega
theorem ksum_mono {F F' : Nat → Int} : ∀ {n : Nat}, (∀ k, k < n → F k ≤ F' k) → ksum F n ≤ ksum F' n
  | 0, _ => Int.le_refl 0
  | n + 1, h => by
    have h1 := ksum_mono (n := n) (fun k hk => h k (by omega))
    have h2 := h n (by omega)
    rw [ksum_s, ksum_s]
    omega
theorem ksum_one {F : Nat → Int} {j : Nat} : ∀ {n : Nat}, (∀ k, k < n → 0 ≤ F k) → j < n → F j ≤ ksum F n
  | 0, _, h => absurd h (Nat.not_lt_zero j)
  | n + 1, h, hj => by
    rw [ksum_s]
    have h2 := h n (by omega)
    by_cases e : j = n
    · have := ksum_nn (n := n) (fun k hk => h k (by omega))
      rw [e]
      omega
    · have := ksum_one (n := n) (fun k hk => h k (by omega)) (show j < n by omega)
      omega
theorem ksum_add (F F' : Nat → Int) : ∀ n : Nat, ksum (fun k => F k + F' k) n = ksum F n + ksum F' n
  | 0 => rfl
  | n + 1 => by rw [ksum_s, ksum_s, ksum_s, ksum_add F F' n]; omega
theorem ksum_up {F : Nat → Int} {i : Nat} {x : Int} : ∀ {n : Nat}, i < n → ksum (up F i x) n = ksum F n - F i + x
  | 0, h => absurd h (Nat.not_lt_zero i)
  | n + 1, h => by
    rw [ksum_s, ksum_s]
    by_cases e : i = n
    · subst e
      rw [up_s, ksum_cong (F := up F i x) (F' := F) (fun k hk => up_n (by omega))]
      omega
    · rw [ksum_up (n := n) (by omega), up_n (by omega)]
      omega
/-- ways to choose k of 2w -/
def kbt : List (List Int) := [[], [1, 2, 1], [1, 4, 6, 4, 1], [1, 6, 15, 20, 15, 6, 1], [1, 8, 28, 56, 70, 56, 28, 8, 1], [1, 10, 45, 120, 210, 252, 210, 120, 45, 10, 1], [1, 12, 66, 220, 495, 792, 924, 792, 495, 220, 66, 12, 1], [1, 14, 91, 364, 1001, 2002, 3003, 3432, 3003, 2002, 1001, 364, 91, 14, 1], [1, 16, 120, 560, 1820, 4368, 8008, 11440, 12870, 11440, 8008, 4368, 1820, 560, 120, 16, 1]]
def kbn8 (w k : Nat) : Int := (kbt.getD w []).getD k 0
def kch (w k : Int) : Int := if 0 ≤ k ∧ k ≤ 16 then kbn8 w.toNat k.toNat else 0
theorem kbn8_ok : ∀ w : Nat, w < 9 → ∀ k : Nat, k < 17 → 0 ≤ kbn8 w k ∧ kbn8 w k ≤ 12870 ∧ (2 * w < k → kbn8 w k = 0) := by decide +kernel
theorem kch_in {w : Int} (h1 : 1 ≤ w) (h2 : w ≤ 8) (k : Int) : 0 ≤ kch w k ∧ kch w k ≤ 12870 := by
  unfold kch
  split
  · have := kbn8_ok w.toNat (by omega) k.toNat (by omega)
    exact ⟨this.1, this.2.1⟩
  · omega
theorem kch_lo {w k : Int} (h : k < 0) : kch w k = 0 := if_neg (by omega)
theorem kch_hi {w k : Int} (h1 : 1 ≤ w) (h2 : w ≤ 8) (h : 2 * w < k) : kch w k = 0 := by
  unfold kch
  split
  · exact (kbn8_ok w.toNat (by omega) k.toNat (by omega)).2.2 (by omega)
  · rfl
/-- men of a HEIGHT in a HUMP -/
def khm (m w x : Int) : Int := if 0 ≤ x ∧ x ≤ 63 then kch w (x - m + w) else 0
theorem khm_in {m w : Int} (h1 : 1 ≤ w) (h2 : w ≤ 8) (x : Int) : 0 ≤ khm m w x ∧ khm m w x ≤ 12870 := by
  unfold khm
  split
  · exact kch_in h1 h2 _
  · omega
theorem khm_lo {m w x : Int} (h : x < m - w) : khm m w x = 0 := by
  unfold khm
  split
  · exact kch_lo (by omega)
  · rfl
theorem khm_hi {m w x : Int} (h1 : 1 ≤ w) (h2 : w ≤ 8) (h : m + w < x) : khm m w x = 0 := by
  unfold khm
  split
  · exact kch_hi h1 h2 (by omega)
  · rfl
theorem khm_out {m w x : Int} (h : x < 0 ∨ 63 < x) : khm m w x = 0 := if_neg (by omega)
/-- UPPER: men of a line or more, and their HEIGHTS together -/
def kcf (m w line : Int) : Int := ksum (fun x => if line ≤ (x : Int) then khm m w x else 0) 64
def ksf (m w line : Int) : Int := ksum (fun x => if line ≤ (x : Int) then (x : Int) * khm m w x else 0) 64
