/-! numbers: every int is jI of a whole number, every long jL of one -/
def jI (z : Int) : Int32 := Int32.ofInt z
def jL (z : Int) : Int64 := Int64.ofInt z
def inI (z : Int) : Prop := -2147483648 ≤ z ∧ z ≤ 2147483647
def inL (z : Int) : Prop := -9223372036854775808 ≤ z ∧ z ≤ 9223372036854775807
theorem inI_dec (z : Int) (h : (decide (-2147483648 ≤ z) && decide (z ≤ 2147483647)) = true) : inI z := by
  simp only [Bool.and_eq_true, decide_eq_true_eq] at h
  exact h
theorem jI_of (x : Int32) : jI x.toInt = x := Int32.ofInt_toInt x
theorem inI_of (x : Int32) : inI x.toInt := by
  have h1 := Int32.le_toInt x
  have h2 := Int32.toInt_lt x
  unfold inI
  omega
theorem jI_ti {a : Int} (h : inI a) : (jI a).toInt = a := Int32.toInt_ofInt_of_le (by have := h.1; omega) (by have := h.2; omega)
theorem jL_ti {a : Int} (h : inL a) : (jL a).toInt = a := Int64.toInt_ofInt_of_le (by have := h.1; omega) (by have := h.2; omega)
theorem jI_add (a b : Int) : jI a + jI b = jI (a + b) := (Int32.ofInt_add a b).symm
theorem jI_sub (a b : Int) : jI a - jI b = jI (a - b) := (Int32.ofInt_sub a b).symm
theorem jI_mul (a b : Int) : jI a * jI b = jI (a * b) := (Int32.ofInt_mul a b).symm
theorem jI_neg (a : Int) : - jI a = jI (-a) := (Int32.ofInt_neg a).symm
theorem jL_add (a b : Int) : jL a + jL b = jL (a + b) := (Int64.ofInt_add a b).symm
theorem jL_sub (a b : Int) : jL a - jL b = jL (a - b) := (Int64.ofInt_sub a b).symm
theorem jL_mul (a b : Int) : jL a * jL b = jL (a * b) := (Int64.ofInt_mul a b).symm
theorem jL_neg (a : Int) : - jL a = jL (-a) := (Int64.ofInt_neg a).symm
theorem jI_lt {a b : Int} (ha : inI a) (hb : inI b) : jI a < jI b ↔ a < b := by rw [Int32.lt_iff_toInt_lt, jI_ti ha, jI_ti hb]
theorem jI_le {a b : Int} (ha : inI a) (hb : inI b) : jI a ≤ jI b ↔ a ≤ b := by rw [Int32.le_iff_toInt_le, jI_ti ha, jI_ti hb]
theorem jI_eq {a b : Int} (ha : inI a) (hb : inI b) : jI a = jI b ↔ a = b := by rw [← Int32.toInt_inj, jI_ti ha, jI_ti hb]
theorem jL_lt {a b : Int} (ha : inL a) (hb : inL b) : jL a < jL b ↔ a < b := by rw [Int64.lt_iff_toInt_lt, jL_ti ha, jL_ti hb]
theorem jL_le {a b : Int} (ha : inL a) (hb : inL b) : jL a ≤ jL b ↔ a ≤ b := by rw [Int64.le_iff_toInt_le, jL_ti ha, jL_ti hb]
theorem jL_eq {a b : Int} (ha : inL a) (hb : inL b) : jL a = jL b ↔ a = b := by rw [← Int64.toInt_inj, jL_ti ha, jL_ti hb]
theorem jI_0 : jI 0 = 0 := by decide
theorem jL_0 : jL 0 = 0 := by decide
theorem jI_l {a : Int} (h : inI a) : (jI a).toInt64 = jL a := by
  apply Int64.toInt_inj.mp
  rw [Int32.toInt_toInt64, jI_ti h, jL_ti ⟨by have := h.1; omega, by have := h.2; omega⟩]
theorem jL_i (a : Int) : (jL a).toInt32 = jI a := by
  apply Int32.toInt_inj.mp
  rw [Int64.toInt_toInt32]
  show (Int64.ofInt a).toInt.bmod (2 ^ 32) = (Int32.ofInt a).toInt
  rw [Int64.toInt_ofInt, Int32.toInt_ofInt]
  exact Int.bmod_bmod_of_dvd (by decide)
theorem jI_ne0 {b : Int} (hb : inI b) (h0 : 0 < b) : ¬ jI b = 0 := by
  rw [← jI_0, jI_eq hb ⟨by decide, by decide⟩]
  omega
theorem jL_ne0 {b : Int} (hb : inL b) (h0 : 0 < b) : ¬ jL b = 0 := by
  rw [← jL_0, jL_eq hb ⟨by decide, by decide⟩]
  omega
theorem jI_div {a b : Int} (ha : inI a) (hb : inI b) (h0 : 0 < b) : jI a / jI b = jI (a.tdiv b) := by
  have hm : jI b ≠ -1 := by
    have e : (-1 : Int32) = jI (-1) := by decide
    rw [e, Ne, jI_eq hb ⟨by decide, by decide⟩]
    omega
  have h := Int32.toInt_div_of_ne_right (jI a) (jI b) hm
  rw [jI_ti ha, jI_ti hb] at h
  rw [← jI_of (jI a / jI b), h]
theorem jI_rem {a b : Int} (ha : inI a) (hb : inI b) (h0 : 0 < b) : jI a - jI a / jI b * jI b = jI (a.tmod b) := by
  rw [jI_div ha hb h0, jI_mul, jI_sub]
  congr 1
  have := Int.tmod_add_mul_tdiv a b
  rw [Int.mul_comm] at this
  omega
theorem jL_of (x : Int64) : jL x.toInt = x := Int64.ofInt_toInt x
theorem jL_div {a b : Int} (ha : inL a) (hb : inL b) (h0 : 0 < b) : jL a / jL b = jL (a.tdiv b) := by
  have hm : jL b ≠ -1 := by
    have e : (-1 : Int64) = jL (-1) := by decide
    rw [e, Ne, jL_eq hb ⟨by decide, by decide⟩]
    omega
  have h := Int64.toInt_div_of_ne_right (jL a) (jL b) hm
  rw [jL_ti ha, jL_ti hb] at h
  rw [← jL_of (jL a / jL b), h]
theorem jL_rem {a b : Int} (ha : inL a) (hb : inL b) (h0 : 0 < b) : jL a - jL a / jL b * jL b = jL (a.tmod b) := by
  rw [jL_div ha hb h0, jL_mul, jL_sub]
  congr 1
  have := Int.tmod_add_mul_tdiv a b
  rw [Int.mul_comm] at this
  omega
def kcmp (a b : Int) : Int := if a < b then -1 else if a = b then 0 else 1
theorem kcmp_in (a b : Int) : inI (kcmp a b) := by
  unfold kcmp inI
  split <;> (try split) <;> omega
theorem jI_cl {a : Int} (h0 : 0 ≤ a) (h : a ≤ 2147483647) : (jI a).toNatClampNeg = a.toNat := by
  show (jI a).toInt.toNat = a.toNat
  rw [jI_ti ⟨by omega, h⟩]
theorem jI_in {a : Int} {N : Nat} (h0 : 0 ≤ a) (h : a < N) (hN : N < 2 ^ 31) : vp_in (jI a) N := by
  rw [vp_in_iff, jI_ti ⟨by omega, by omega⟩]
  omega
theorem jL_cmp {a b : Int} (ha : inL a) (hb : inL b) : lg_cmp (jL a) (jL b) = jI (kcmp a b) := by
  unfold lg_cmp kcmp
  by_cases h1 : a < b
  · have h2 : ¬ jL a > jL b := fun q => by have := (jL_lt hb ha).mp q; omega
    have h3 : ¬ jL a = jL b := fun q => by have := (jL_eq ha hb).mp q; omega
    rw [if_neg h2, if_neg h3, if_pos h1]
    decide
  · by_cases h2 : a = b
    · subst h2
      have h3 : ¬ jL a > jL a := fun q => by have := (jL_lt hb ha).mp q; omega
      rw [if_neg h3, if_pos rfl, if_neg h1, if_pos rfl]
      decide
    · have h3 : jL a > jL b := (jL_lt hb ha).mpr (by omega)
      rw [if_pos h3, if_neg h1, if_neg h2]
      decide

theorem e_iconst {G : kG} {M : kM} {d c0 s0 pc : Nat} {L : List (Option Value)} {st : List Value} {h : Nat → Option kC} {n : Nat} {Post : kPo} {z : Int} (hd : decode M.2.1 pc = .ok (.iconst z, 1)) (kk : kE G M d c0 s0 (pc + 1) L (.int (jI z) :: st) h n Post) : kE G M d c0 s0 pc L st h n Post := by
  intro p l e R s m args below meth c H locs cells slots Q ls X hL hH hS hc hs hr
  exact lv_iconst X.1 X.2.1 hd rfl (kk p l e R s m args below meth c H locs cells slots Q ls X hL hH hS hc hs hr)
theorem e_bipush {G : kG} {M : kM} {d c0 s0 pc : Nat} {L : List (Option Value)} {st : List Value} {h : Nat → Option kC} {n : Nat} {Post : kPo} {z : Int} (hz : (Int8.ofInt z).toInt32 = jI z) (hd : decode M.2.1 pc = .ok (.bipush z, 2)) (kk : kE G M d c0 s0 (pc + 2) L (.int (jI z) :: st) h n Post) : kE G M d c0 s0 pc L st h n Post := by
  intro p l e R s m args below meth c H locs cells slots Q ls X hL hH hS hc hs hr
  exact lv_bipush X.1 X.2.1 hd hz (kk p l e R s m args below meth c H locs cells slots Q ls X hL hH hS hc hs hr)
theorem e_sipush {G : kG} {M : kM} {d c0 s0 pc : Nat} {L : List (Option Value)} {st : List Value} {h : Nat → Option kC} {n : Nat} {Post : kPo} {z : Int} (hz : (Int16.ofInt z).toInt32 = jI z) (hd : decode M.2.1 pc = .ok (.sipush z, 3)) (kk : kE G M d c0 s0 (pc + 3) L (.int (jI z) :: st) h n Post) : kE G M d c0 s0 pc L st h n Post := by
  intro p l e R s m args below meth c H locs cells slots Q ls X hL hH hS hc hs hr
  exact lv_sipush X.1 X.2.1 hd hz (kk p l e R s m args below meth c H locs cells slots Q ls X hL hH hS hc hs hr)
theorem e_lconst {G : kG} {M : kM} {d c0 s0 pc : Nat} {L : List (Option Value)} {st : List Value} {h : Nat → Option kC} {n : Nat} {Post : kPo} {k : Fin 2} {z : Int} (hz : Int64.ofNat (k : Nat) = jL z) (hd : decode M.2.1 pc = .ok (.lconst k, 1)) (kk : kE G M d c0 s0 (pc + 1) L (.long (jL z) :: st) h n Post) : kE G M d c0 s0 pc L st h n Post := by
  intro p l e R s m args below meth c H locs cells slots Q ls X hL hH hS hc hs hr
  exact lv_lconst X.1 X.2.1 hd hz (kk p l e R s m args below meth c H locs cells slots Q ls X hL hH hS hc hs hr)
theorem e_ldc {G : kG} {M : kM} {d c0 s0 pc : Nat} {L : List (Option Value)} {st : List Value} {h : Nat → Option kC} {n : Nat} {Post : kPo} {idx : Nat} {v : Int32} {z : Int} (hw : kWd (.constant M.1.cls idx v)) (hz : v = jI z) (hd : decode M.2.1 pc = .ok (.ldc idx, 2)) (kk : kE G M d c0 s0 (pc + 2) L (.int (jI z) :: st) h n Post) : kE G M d c0 s0 pc L st h n Post := by
  intro p l e R s m args below meth c H locs cells slots Q ls X hL hH hS hc hs hr
  subst hz
  exact lv_ldc X.1 X.2.1 X.2.2.2.1 (X.2.2.2.2.2.1 _ (kWl_in hw)) hd (kk p l e R s m args below meth c H locs cells slots Q ls X hL hH hS hc hs hr)
theorem e_ldcw {G : kG} {M : kM} {d c0 s0 pc : Nat} {L : List (Option Value)} {st : List Value} {h : Nat → Option kC} {n : Nat} {Post : kPo} {idx : Nat} {v : Int32} {z : Int} (hw : kWd (.constant M.1.cls idx v)) (hz : v = jI z) (hd : decode M.2.1 pc = .ok (.ldc_w idx, 3)) (kk : kE G M d c0 s0 (pc + 3) L (.int (jI z) :: st) h n Post) : kE G M d c0 s0 pc L st h n Post := by
  intro p l e R s m args below meth c H locs cells slots Q ls X hL hH hS hc hs hr
  subst hz
  exact lv_ldcw X.1 X.2.1 X.2.2.2.1 (X.2.2.2.2.2.1 _ (kWl_in hw)) hd (kk p l e R s m args below meth c H locs cells slots Q ls X hL hH hS hc hs hr)
theorem e_ldc2 {G : kG} {M : kM} {d c0 s0 pc : Nat} {L : List (Option Value)} {st : List Value} {h : Nat → Option kC} {n : Nat} {Post : kPo} {idx : Nat} {v : Int64} {z : Int} (hw : kWd (.constantLong M.1.cls idx v)) (hz : v = jL z) (hd : decode M.2.1 pc = .ok (.ldc2_w idx, 3)) (kk : kE G M d c0 s0 (pc + 3) L (.long (jL z) :: st) h n Post) : kE G M d c0 s0 pc L st h n Post := by
  intro p l e R s m args below meth c H locs cells slots Q ls X hL hH hS hc hs hr
  subst hz
  exact lv_ldc2 X.1 X.2.1 X.2.2.2.1 (X.2.2.2.2.2.1 _ (kWl_in hw)) hd (kk p l e R s m args below meth c H locs cells slots Q ls X hL hH hS hc hs hr)
theorem e_iload_n {G : kG} {M : kM} {d c0 s0 pc : Nat} {L : List (Option Value)} {st : List Value} {h : Nat → Option kC} {n : Nat} {Post : kPo} {k : Fin 4} {x : Int32} (hl : L[(k : Nat)]? = some (some (.int x))) (hd : decode M.2.1 pc = .ok (.iload_n k, 1)) (kk : kE G M d c0 s0 (pc + 1) L (.int x :: st) h n Post) : kE G M d c0 s0 pc L st h n Post := by
  intro p l e R s m args below meth c H locs cells slots Q ls X hL hH hS hc hs hr
  exact lv_iload_n X.1 X.2.1 hd rfl (hL.2.2.2 _ _ hl) (kk p l e R s m args below meth c H locs cells slots Q ls X hL hH hS hc hs hr)
theorem e_iload {G : kG} {M : kM} {d c0 s0 pc : Nat} {L : List (Option Value)} {st : List Value} {h : Nat → Option kC} {n : Nat} {Post : kPo} {k : Nat} {x : Int32} (hl : L[k]? = some (some (.int x))) (hd : decode M.2.1 pc = .ok (.iload k, 2)) (kk : kE G M d c0 s0 (pc + 2) L (.int x :: st) h n Post) : kE G M d c0 s0 pc L st h n Post := by
  intro p l e R s m args below meth c H locs cells slots Q ls X hL hH hS hc hs hr
  exact lv_iload X.1 X.2.1 hd (hL.2.2.2 _ _ hl) (kk p l e R s m args below meth c H locs cells slots Q ls X hL hH hS hc hs hr)
theorem e_lload_n {G : kG} {M : kM} {d c0 s0 pc : Nat} {L : List (Option Value)} {st : List Value} {h : Nat → Option kC} {n : Nat} {Post : kPo} {k : Fin 4} {x : Int64} (hl : L[(k : Nat)]? = some (some (.long x))) (hd : decode M.2.1 pc = .ok (.lload_n k, 1)) (kk : kE G M d c0 s0 (pc + 1) L (.long x :: st) h n Post) : kE G M d c0 s0 pc L st h n Post := by
  intro p l e R s m args below meth c H locs cells slots Q ls X hL hH hS hc hs hr
  exact lv_lload_n X.1 X.2.1 hd rfl (hL.2.2.2 _ _ hl) (kk p l e R s m args below meth c H locs cells slots Q ls X hL hH hS hc hs hr)
theorem e_lload {G : kG} {M : kM} {d c0 s0 pc : Nat} {L : List (Option Value)} {st : List Value} {h : Nat → Option kC} {n : Nat} {Post : kPo} {k : Nat} {x : Int64} (hl : L[k]? = some (some (.long x))) (hd : decode M.2.1 pc = .ok (.lload k, 2)) (kk : kE G M d c0 s0 (pc + 2) L (.long x :: st) h n Post) : kE G M d c0 s0 pc L st h n Post := by
  intro p l e R s m args below meth c H locs cells slots Q ls X hL hH hS hc hs hr
  exact lv_lload X.1 X.2.1 hd (hL.2.2.2 _ _ hl) (kk p l e R s m args below meth c H locs cells slots Q ls X hL hH hS hc hs hr)
theorem e_aload_n {G : kG} {M : kM} {d c0 s0 pc : Nat} {L : List (Option Value)} {st : List Value} {h : Nat → Option kC} {n : Nat} {Post : kPo} {k : Fin 4} {x : Nat} (hl : L[(k : Nat)]? = some (some (.ref x))) (hd : decode M.2.1 pc = .ok (.aload_n k, 1)) (kk : kE G M d c0 s0 (pc + 1) L (.ref x :: st) h n Post) : kE G M d c0 s0 pc L st h n Post := by
  intro p l e R s m args below meth c H locs cells slots Q ls X hL hH hS hc hs hr
  exact lv_aload_n X.1 X.2.1 hd rfl (hL.2.2.2 _ _ hl) (kk p l e R s m args below meth c H locs cells slots Q ls X hL hH hS hc hs hr)
theorem e_aload {G : kG} {M : kM} {d c0 s0 pc : Nat} {L : List (Option Value)} {st : List Value} {h : Nat → Option kC} {n : Nat} {Post : kPo} {k : Nat} {x : Nat} (hl : L[k]? = some (some (.ref x))) (hd : decode M.2.1 pc = .ok (.aload k, 2)) (kk : kE G M d c0 s0 (pc + 2) L (.ref x :: st) h n Post) : kE G M d c0 s0 pc L st h n Post := by
  intro p l e R s m args below meth c H locs cells slots Q ls X hL hH hS hc hs hr
  exact lv_aload X.1 X.2.1 hd (hL.2.2.2 _ _ hl) (kk p l e R s m args below meth c H locs cells slots Q ls X hL hH hS hc hs hr)
theorem e_aload_nN {G : kG} {M : kM} {d c0 s0 pc : Nat} {L : List (Option Value)} {st : List Value} {h : Nat → Option kC} {n : Nat} {Post : kPo} {k : Fin 4} (hl : L[(k : Nat)]? = some (some .null)) (hd : decode M.2.1 pc = .ok (.aload_n k, 1)) (kk : kE G M d c0 s0 (pc + 1) L (.null :: st) h n Post) : kE G M d c0 s0 pc L st h n Post := by
  intro p l e R s m args below meth c H locs cells slots Q ls X hL hH hS hc hs hr
  exact lv_aload_nN X.1 X.2.1 hd rfl (hL.2.2.2 _ _ hl) (kk p l e R s m args below meth c H locs cells slots Q ls X hL hH hS hc hs hr)
theorem e_aloadN {G : kG} {M : kM} {d c0 s0 pc : Nat} {L : List (Option Value)} {st : List Value} {h : Nat → Option kC} {n : Nat} {Post : kPo} {k : Nat} (hl : L[k]? = some (some .null)) (hd : decode M.2.1 pc = .ok (.aload k, 2)) (kk : kE G M d c0 s0 (pc + 2) L (.null :: st) h n Post) : kE G M d c0 s0 pc L st h n Post := by
  intro p l e R s m args below meth c H locs cells slots Q ls X hL hH hS hc hs hr
  exact lv_aloadN X.1 X.2.1 hd (hL.2.2.2 _ _ hl) (kk p l e R s m args below meth c H locs cells slots Q ls X hL hH hS hc hs hr)
theorem e_istore_n {G : kG} {M : kM} {d c0 s0 pc : Nat} {L : List (Option Value)} {st : List Value} {h : Nat → Option kC} {n : Nat} {Post : kPo} {k : Fin 4} {x : Int32} (hd : decode M.2.1 pc = .ok (.istore_n k, 1)) (hi : Nat.ble ((k : Nat) + 1) L.length = true) (hk : kok L (k : Nat) = true) (kk : kE G M d c0 s0 (pc + 1) (L.set (k : Nat) (some (.int x))) st h n Post) : kE G M d c0 s0 pc L (.int x :: st) h n Post := by
  intro p l e R s m args below meth c H locs cells slots Q ls X hL hH hS hc hs hr
  exact lv_istore_n X.1 X.2.1 hd rfl hL.has (Nat.lt_of_lt_of_le (Nat.le_of_ble_eq_true hi) hL.2.2.1) rfl (fun ls hL' => kk p l e R s m args below meth c H locs cells slots Q ls X (hL.set1 hk hL') hH hS hc hs hr)
theorem e_istore {G : kG} {M : kM} {d c0 s0 pc : Nat} {L : List (Option Value)} {st : List Value} {h : Nat → Option kC} {n : Nat} {Post : kPo} {k : Nat} {x : Int32} (hd : decode M.2.1 pc = .ok (.istore k, 2)) (hi : Nat.ble (k + 1) L.length = true) (hk : kok L k = true) (kk : kE G M d c0 s0 (pc + 2) (L.set k (some (.int x))) st h n Post) : kE G M d c0 s0 pc L (.int x :: st) h n Post := by
  intro p l e R s m args below meth c H locs cells slots Q ls X hL hH hS hc hs hr
  exact lv_istore X.1 X.2.1 hd hL.has (Nat.lt_of_lt_of_le (Nat.le_of_ble_eq_true hi) hL.2.2.1) rfl (fun ls hL' => kk p l e R s m args below meth c H locs cells slots Q ls X (hL.set1 hk hL') hH hS hc hs hr)
theorem e_astore_n {G : kG} {M : kM} {d c0 s0 pc : Nat} {L : List (Option Value)} {st : List Value} {h : Nat → Option kC} {n : Nat} {Post : kPo} {k : Fin 4} {x : Nat} (hd : decode M.2.1 pc = .ok (.astore_n k, 1)) (hi : Nat.ble ((k : Nat) + 1) L.length = true) (hk : kok L (k : Nat) = true) (kk : kE G M d c0 s0 (pc + 1) (L.set (k : Nat) (some (.ref x))) st h n Post) : kE G M d c0 s0 pc L (.ref x :: st) h n Post := by
  intro p l e R s m args below meth c H locs cells slots Q ls X hL hH hS hc hs hr
  exact lv_astore_n X.1 X.2.1 hd rfl hL.has (Nat.lt_of_lt_of_le (Nat.le_of_ble_eq_true hi) hL.2.2.1) rfl (fun ls hL' => kk p l e R s m args below meth c H locs cells slots Q ls X (hL.set1 hk hL') hH hS hc hs hr)
theorem e_astore {G : kG} {M : kM} {d c0 s0 pc : Nat} {L : List (Option Value)} {st : List Value} {h : Nat → Option kC} {n : Nat} {Post : kPo} {k : Nat} {x : Nat} (hd : decode M.2.1 pc = .ok (.astore k, 2)) (hi : Nat.ble (k + 1) L.length = true) (hk : kok L k = true) (kk : kE G M d c0 s0 (pc + 2) (L.set k (some (.ref x))) st h n Post) : kE G M d c0 s0 pc L (.ref x :: st) h n Post := by
  intro p l e R s m args below meth c H locs cells slots Q ls X hL hH hS hc hs hr
  exact lv_astore X.1 X.2.1 hd hL.has (Nat.lt_of_lt_of_le (Nat.le_of_ble_eq_true hi) hL.2.2.1) rfl (fun ls hL' => kk p l e R s m args below meth c H locs cells slots Q ls X (hL.set1 hk hL') hH hS hc hs hr)
theorem e_astore_nN {G : kG} {M : kM} {d c0 s0 pc : Nat} {L : List (Option Value)} {st : List Value} {h : Nat → Option kC} {n : Nat} {Post : kPo} {k : Fin 4} (hd : decode M.2.1 pc = .ok (.astore_n k, 1)) (hi : Nat.ble ((k : Nat) + 1) L.length = true) (hk : kok L (k : Nat) = true) (kk : kE G M d c0 s0 (pc + 1) (L.set (k : Nat) (some .null)) st h n Post) : kE G M d c0 s0 pc L (.null :: st) h n Post := by
  intro p l e R s m args below meth c H locs cells slots Q ls X hL hH hS hc hs hr
  exact lv_astore_nN X.1 X.2.1 hd rfl hL.has (Nat.lt_of_lt_of_le (Nat.le_of_ble_eq_true hi) hL.2.2.1) rfl (fun ls hL' => kk p l e R s m args below meth c H locs cells slots Q ls X (hL.set1 hk hL') hH hS hc hs hr)
theorem e_astoreN {G : kG} {M : kM} {d c0 s0 pc : Nat} {L : List (Option Value)} {st : List Value} {h : Nat → Option kC} {n : Nat} {Post : kPo} {k : Nat} (hd : decode M.2.1 pc = .ok (.astore k, 2)) (hi : Nat.ble (k + 1) L.length = true) (hk : kok L k = true) (kk : kE G M d c0 s0 (pc + 2) (L.set k (some .null)) st h n Post) : kE G M d c0 s0 pc L (.null :: st) h n Post := by
  intro p l e R s m args below meth c H locs cells slots Q ls X hL hH hS hc hs hr
  exact lv_astoreN X.1 X.2.1 hd hL.has (Nat.lt_of_lt_of_le (Nat.le_of_ble_eq_true hi) hL.2.2.1) rfl (fun ls hL' => kk p l e R s m args below meth c H locs cells slots Q ls X (hL.set1 hk hL') hH hS hc hs hr)
theorem e_lstore_n {G : kG} {M : kM} {d c0 s0 pc : Nat} {L : List (Option Value)} {st : List Value} {h : Nat → Option kC} {n : Nat} {Post : kPo} {k : Fin 4} {x : Int64} (hd : decode M.2.1 pc = .ok (.lstore_n k, 1)) (hi : Nat.ble ((k : Nat) + 1 + 1) L.length = true) (hk : kok L (k : Nat) = true) (kk : kE G M d c0 s0 (pc + 1) ((L.set (k : Nat) (some (.long x))).set ((k : Nat) + 1) none) st h n Post) : kE G M d c0 s0 pc L (.long x :: st) h n Post := by
  intro p l e R s m args below meth c H locs cells slots Q ls X hL hH hS hc hs hr
  exact lv_lstore_n X.1 X.2.1 hd rfl hL.has (Nat.lt_of_lt_of_le (Nat.le_of_ble_eq_true hi) hL.2.2.1) rfl (fun ls hL' => kk p l e R s m args below meth c H locs cells slots Q ls X (hL.set2 hk hL') hH hS hc hs hr)
theorem e_lstore {G : kG} {M : kM} {d c0 s0 pc : Nat} {L : List (Option Value)} {st : List Value} {h : Nat → Option kC} {n : Nat} {Post : kPo} {k : Nat} {x : Int64} (hd : decode M.2.1 pc = .ok (.lstore k, 2)) (hi : Nat.ble (k + 1 + 1) L.length = true) (hk : kok L k = true) (kk : kE G M d c0 s0 (pc + 2) ((L.set k (some (.long x))).set (k + 1) none) st h n Post) : kE G M d c0 s0 pc L (.long x :: st) h n Post := by
  intro p l e R s m args below meth c H locs cells slots Q ls X hL hH hS hc hs hr
  exact lv_lstore X.1 X.2.1 hd hL.has (Nat.lt_of_lt_of_le (Nat.le_of_ble_eq_true hi) hL.2.2.1) rfl (fun ls hL' => kk p l e R s m args below meth c H locs cells slots Q ls X (hL.set2 hk hL') hH hS hc hs hr)
theorem e_iinc {G : kG} {M : kM} {d c0 s0 pc : Nat} {L : List (Option Value)} {st : List Value} {h : Nat → Option kC} {n : Nat} {Post : kPo} {k : Nat} {z a : Int} (hd : decode M.2.1 pc = .ok (.iinc k z, 3)) (hl : L[k]? = some (some (.int (jI a)))) (hk : kok L k = true) (kk : kE G M d c0 s0 (pc + 3) (L.set k (some (.int (jI (a + z))))) st h n Post) : kE G M d c0 s0 pc L st h n Post := by
  intro p l e R s m args below meth c H locs cells slots Q ls X hL hH hS hc hs hr
  obtain ⟨q, hq⟩ := List.getElem?_of_mem (kpr_mem.mpr hl)
  exact lv_iinc X.1 X.2.1 hd hL.has hq (v := jI (a + z)) (jI_add a z) (Nat.lt_of_lt_of_le (List.getElem?_eq_some_iff.mp hl).1 hL.2.2.1) rfl (fun ls hL' => kk p l e R s m args below meth c H locs cells slots Q ls X (hL.set1 hk hL') hH hS hc hs hr)
theorem e_iadd {G : kG} {M : kM} {d c0 s0 pc : Nat} {L : List (Option Value)} {st : List Value} {h : Nat → Option kC} {n : Nat} {Post : kPo} {a b : Int} (hd : decode M.2.1 pc = .ok (.iadd, 1)) (kk : kE G M d c0 s0 (pc + 1) L (.int (jI (a + b)) :: st) h n Post) : kE G M d c0 s0 pc L (.int (jI b) :: .int (jI a) :: st) h n Post := by
  intro p l e R s m args below meth c H locs cells slots Q ls X hL hH hS hc hs hr
  exact lv_iadd X.1 X.2.1 hd (by rw [jI_add]; exact (kk p l e R s m args below meth c H locs cells slots Q ls X hL hH hS hc hs hr))
theorem e_isub {G : kG} {M : kM} {d c0 s0 pc : Nat} {L : List (Option Value)} {st : List Value} {h : Nat → Option kC} {n : Nat} {Post : kPo} {a b : Int} (hd : decode M.2.1 pc = .ok (.isub, 1)) (kk : kE G M d c0 s0 (pc + 1) L (.int (jI (a - b)) :: st) h n Post) : kE G M d c0 s0 pc L (.int (jI b) :: .int (jI a) :: st) h n Post := by
  intro p l e R s m args below meth c H locs cells slots Q ls X hL hH hS hc hs hr
  exact lv_isub X.1 X.2.1 hd (by rw [jI_sub]; exact (kk p l e R s m args below meth c H locs cells slots Q ls X hL hH hS hc hs hr))
theorem e_imul {G : kG} {M : kM} {d c0 s0 pc : Nat} {L : List (Option Value)} {st : List Value} {h : Nat → Option kC} {n : Nat} {Post : kPo} {a b : Int} (hd : decode M.2.1 pc = .ok (.imul, 1)) (kk : kE G M d c0 s0 (pc + 1) L (.int (jI (a * b)) :: st) h n Post) : kE G M d c0 s0 pc L (.int (jI b) :: .int (jI a) :: st) h n Post := by
  intro p l e R s m args below meth c H locs cells slots Q ls X hL hH hS hc hs hr
  exact lv_imul X.1 X.2.1 hd (by rw [jI_mul]; exact (kk p l e R s m args below meth c H locs cells slots Q ls X hL hH hS hc hs hr))
theorem e_ladd {G : kG} {M : kM} {d c0 s0 pc : Nat} {L : List (Option Value)} {st : List Value} {h : Nat → Option kC} {n : Nat} {Post : kPo} {a b : Int} (hd : decode M.2.1 pc = .ok (.ladd, 1)) (kk : kE G M d c0 s0 (pc + 1) L (.long (jL (a + b)) :: st) h n Post) : kE G M d c0 s0 pc L (.long (jL b) :: .long (jL a) :: st) h n Post := by
  intro p l e R s m args below meth c H locs cells slots Q ls X hL hH hS hc hs hr
  exact lv_ladd X.1 X.2.1 hd (by rw [jL_add]; exact (kk p l e R s m args below meth c H locs cells slots Q ls X hL hH hS hc hs hr))
theorem e_lsub {G : kG} {M : kM} {d c0 s0 pc : Nat} {L : List (Option Value)} {st : List Value} {h : Nat → Option kC} {n : Nat} {Post : kPo} {a b : Int} (hd : decode M.2.1 pc = .ok (.lsub, 1)) (kk : kE G M d c0 s0 (pc + 1) L (.long (jL (a - b)) :: st) h n Post) : kE G M d c0 s0 pc L (.long (jL b) :: .long (jL a) :: st) h n Post := by
  intro p l e R s m args below meth c H locs cells slots Q ls X hL hH hS hc hs hr
  exact lv_lsub X.1 X.2.1 hd (by rw [jL_sub]; exact (kk p l e R s m args below meth c H locs cells slots Q ls X hL hH hS hc hs hr))
theorem e_lmul {G : kG} {M : kM} {d c0 s0 pc : Nat} {L : List (Option Value)} {st : List Value} {h : Nat → Option kC} {n : Nat} {Post : kPo} {a b : Int} (hd : decode M.2.1 pc = .ok (.lmul, 1)) (kk : kE G M d c0 s0 (pc + 1) L (.long (jL (a * b)) :: st) h n Post) : kE G M d c0 s0 pc L (.long (jL b) :: .long (jL a) :: st) h n Post := by
  intro p l e R s m args below meth c H locs cells slots Q ls X hL hH hS hc hs hr
  exact lv_lmul X.1 X.2.1 hd (by rw [jL_mul]; exact (kk p l e R s m args below meth c H locs cells slots Q ls X hL hH hS hc hs hr))
theorem e_ineg {G : kG} {M : kM} {d c0 s0 pc : Nat} {L : List (Option Value)} {st : List Value} {h : Nat → Option kC} {n : Nat} {Post : kPo} {a : Int} (hd : decode M.2.1 pc = .ok (.ineg, 1)) (kk : kE G M d c0 s0 (pc + 1) L (.int (jI (-a)) :: st) h n Post) : kE G M d c0 s0 pc L (.int (jI a) :: st) h n Post := by
  intro p l e R s m args below meth c H locs cells slots Q ls X hL hH hS hc hs hr
  exact lv_ineg X.1 X.2.1 hd (by rw [jI_neg]; exact (kk p l e R s m args below meth c H locs cells slots Q ls X hL hH hS hc hs hr))
theorem e_lneg {G : kG} {M : kM} {d c0 s0 pc : Nat} {L : List (Option Value)} {st : List Value} {h : Nat → Option kC} {n : Nat} {Post : kPo} {a : Int} (hd : decode M.2.1 pc = .ok (.lneg, 1)) (kk : kE G M d c0 s0 (pc + 1) L (.long (jL (-a)) :: st) h n Post) : kE G M d c0 s0 pc L (.long (jL a) :: st) h n Post := by
  intro p l e R s m args below meth c H locs cells slots Q ls X hL hH hS hc hs hr
  exact lv_lneg X.1 X.2.1 hd (by rw [jL_neg]; exact (kk p l e R s m args below meth c H locs cells slots Q ls X hL hH hS hc hs hr))
theorem e_idiv {G : kG} {M : kM} {d c0 s0 pc : Nat} {L : List (Option Value)} {st : List Value} {h : Nat → Option kC} {n : Nat} {Post : kPo} {a b : Int} (ha : inI a) (hb : inI b) (h0 : 0 < b) (hd : decode M.2.1 pc = .ok (.idiv, 1)) (kk : kE G M d c0 s0 (pc + 1) L (.int (jI (a.tdiv b)) :: st) h n Post) : kE G M d c0 s0 pc L (.int (jI b) :: .int (jI a) :: st) h n Post := by
  intro p l e R s m args below meth c H locs cells slots Q ls X hL hH hS hc hs hr
  exact lv_idiv X.1 X.2.1 hd (jI_ne0 hb h0) (by rw [jI_div ha hb h0]; exact (kk p l e R s m args below meth c H locs cells slots Q ls X hL hH hS hc hs hr))
theorem e_irem {G : kG} {M : kM} {d c0 s0 pc : Nat} {L : List (Option Value)} {st : List Value} {h : Nat → Option kC} {n : Nat} {Post : kPo} {a b : Int} (ha : inI a) (hb : inI b) (h0 : 0 < b) (hd : decode M.2.1 pc = .ok (.irem, 1)) (kk : kE G M d c0 s0 (pc + 1) L (.int (jI (a.tmod b)) :: st) h n Post) : kE G M d c0 s0 pc L (.int (jI b) :: .int (jI a) :: st) h n Post := by
  intro p l e R s m args below meth c H locs cells slots Q ls X hL hH hS hc hs hr
  exact lv_irem X.1 X.2.1 hd (jI_ne0 hb h0) (by rw [jI_rem ha hb h0]; exact (kk p l e R s m args below meth c H locs cells slots Q ls X hL hH hS hc hs hr))
theorem e_ldiv {G : kG} {M : kM} {d c0 s0 pc : Nat} {L : List (Option Value)} {st : List Value} {h : Nat → Option kC} {n : Nat} {Post : kPo} {a b : Int} (ha : inL a) (hb : inL b) (h0 : 0 < b) (hd : decode M.2.1 pc = .ok (.ldiv, 1)) (kk : kE G M d c0 s0 (pc + 1) L (.long (jL (a.tdiv b)) :: st) h n Post) : kE G M d c0 s0 pc L (.long (jL b) :: .long (jL a) :: st) h n Post := by
  intro p l e R s m args below meth c H locs cells slots Q ls X hL hH hS hc hs hr
  exact lv_ldiv X.1 X.2.1 hd (jL_ne0 hb h0) (by rw [jL_div ha hb h0]; exact (kk p l e R s m args below meth c H locs cells slots Q ls X hL hH hS hc hs hr))
theorem e_lrem {G : kG} {M : kM} {d c0 s0 pc : Nat} {L : List (Option Value)} {st : List Value} {h : Nat → Option kC} {n : Nat} {Post : kPo} {a b : Int} (ha : inL a) (hb : inL b) (h0 : 0 < b) (hd : decode M.2.1 pc = .ok (.lrem, 1)) (kk : kE G M d c0 s0 (pc + 1) L (.long (jL (a.tmod b)) :: st) h n Post) : kE G M d c0 s0 pc L (.long (jL b) :: .long (jL a) :: st) h n Post := by
  intro p l e R s m args below meth c H locs cells slots Q ls X hL hH hS hc hs hr
  exact lv_lrem X.1 X.2.1 hd (jL_ne0 hb h0) (by rw [jL_rem ha hb h0]; exact (kk p l e R s m args below meth c H locs cells slots Q ls X hL hH hS hc hs hr))
theorem e_idivN {G : kG} {M : kM} {d c0 s0 pc : Nat} {L : List (Option Value)} {st : List Value} {h : Nat → Option kC} {n : Nat} {Post : kPo} {a b : Int} (ha : inI a) (hb : inI b) (h0 : 0 < b) (h1 : 0 ≤ a) (hd : decode M.2.1 pc = .ok (.idiv, 1)) (kk : kE G M d c0 s0 (pc + 1) L (.int (jI (a / b)) :: st) h n Post) : kE G M d c0 s0 pc L (.int (jI b) :: .int (jI a) :: st) h n Post := e_idiv ha hb h0 hd (by rw [Int.tdiv_eq_ediv_of_nonneg h1]; exact kk)
theorem e_iremN {G : kG} {M : kM} {d c0 s0 pc : Nat} {L : List (Option Value)} {st : List Value} {h : Nat → Option kC} {n : Nat} {Post : kPo} {a b : Int} (ha : inI a) (hb : inI b) (h0 : 0 < b) (h1 : 0 ≤ a) (hd : decode M.2.1 pc = .ok (.irem, 1)) (kk : kE G M d c0 s0 (pc + 1) L (.int (jI (a % b)) :: st) h n Post) : kE G M d c0 s0 pc L (.int (jI b) :: .int (jI a) :: st) h n Post := e_irem ha hb h0 hd (by rw [Int.tmod_eq_emod_of_nonneg h1]; exact kk)
theorem e_ldivN {G : kG} {M : kM} {d c0 s0 pc : Nat} {L : List (Option Value)} {st : List Value} {h : Nat → Option kC} {n : Nat} {Post : kPo} {a b : Int} (ha : inL a) (hb : inL b) (h0 : 0 < b) (h1 : 0 ≤ a) (hd : decode M.2.1 pc = .ok (.ldiv, 1)) (kk : kE G M d c0 s0 (pc + 1) L (.long (jL (a / b)) :: st) h n Post) : kE G M d c0 s0 pc L (.long (jL b) :: .long (jL a) :: st) h n Post := e_ldiv ha hb h0 hd (by rw [Int.tdiv_eq_ediv_of_nonneg h1]; exact kk)
theorem e_lremN {G : kG} {M : kM} {d c0 s0 pc : Nat} {L : List (Option Value)} {st : List Value} {h : Nat → Option kC} {n : Nat} {Post : kPo} {a b : Int} (ha : inL a) (hb : inL b) (h0 : 0 < b) (h1 : 0 ≤ a) (hd : decode M.2.1 pc = .ok (.lrem, 1)) (kk : kE G M d c0 s0 (pc + 1) L (.long (jL (a % b)) :: st) h n Post) : kE G M d c0 s0 pc L (.long (jL b) :: .long (jL a) :: st) h n Post := e_lrem ha hb h0 hd (by rw [Int.tmod_eq_emod_of_nonneg h1]; exact kk)
theorem e_i2l {G : kG} {M : kM} {d c0 s0 pc : Nat} {L : List (Option Value)} {st : List Value} {h : Nat → Option kC} {n : Nat} {Post : kPo} {a : Int} (ha : inI a) (hd : decode M.2.1 pc = .ok (.i2l, 1)) (kk : kE G M d c0 s0 (pc + 1) L (.long (jL a) :: st) h n Post) : kE G M d c0 s0 pc L (.int (jI a) :: st) h n Post := by
  intro p l e R s m args below meth c H locs cells slots Q ls X hL hH hS hc hs hr
  exact lv_i2l X.1 X.2.1 hd (jI_l ha) (kk p l e R s m args below meth c H locs cells slots Q ls X hL hH hS hc hs hr)
theorem e_l2i {G : kG} {M : kM} {d c0 s0 pc : Nat} {L : List (Option Value)} {st : List Value} {h : Nat → Option kC} {n : Nat} {Post : kPo} {a : Int} (hd : decode M.2.1 pc = .ok (.l2i, 1)) (kk : kE G M d c0 s0 (pc + 1) L (.int (jI a) :: st) h n Post) : kE G M d c0 s0 pc L (.long (jL a) :: st) h n Post := by
  intro p l e R s m args below meth c H locs cells slots Q ls X hL hH hS hc hs hr
  exact lv_l2i X.1 X.2.1 hd (jL_i a) (kk p l e R s m args below meth c H locs cells slots Q ls X hL hH hS hc hs hr)
theorem e_ishl {G : kG} {M : kM} {d c0 s0 pc : Nat} {L : List (Option Value)} {st : List Value} {h : Nat → Option kC} {n : Nat} {Post : kPo} {a b v : Int} (hv : jI a <<< (jI b &&& 31) = jI v) (hd : decode M.2.1 pc = .ok (.ishl, 1)) (kk : kE G M d c0 s0 (pc + 1) L (.int (jI v) :: st) h n Post) : kE G M d c0 s0 pc L (.int (jI b) :: .int (jI a) :: st) h n Post := by
  intro p l e R s m args below meth c H locs cells slots Q ls X hL hH hS hc hs hr
  exact lv_ishl X.1 X.2.1 hd (by rw [hv]; exact (kk p l e R s m args below meth c H locs cells slots Q ls X hL hH hS hc hs hr))
theorem e_iand {G : kG} {M : kM} {d c0 s0 pc : Nat} {L : List (Option Value)} {st : List Value} {h : Nat → Option kC} {n : Nat} {Post : kPo} {a b v : Int} (hv : jI a &&& jI b = jI v) (hd : decode M.2.1 pc = .ok (.iand, 1)) (kk : kE G M d c0 s0 (pc + 1) L (.int (jI v) :: st) h n Post) : kE G M d c0 s0 pc L (.int (jI b) :: .int (jI a) :: st) h n Post := by
  intro p l e R s m args below meth c H locs cells slots Q ls X hL hH hS hc hs hr
  exact lv_iand X.1 X.2.1 hd (by rw [hv]; exact (kk p l e R s m args below meth c H locs cells slots Q ls X hL hH hS hc hs hr))
theorem e_dup {G : kG} {M : kM} {d c0 s0 pc : Nat} {L : List (Option Value)} {st : List Value} {h : Nat → Option kC} {n : Nat} {Post : kPo} {va : Value} (hv : va.category = 1) (hd : decode M.2.1 pc = .ok (.dup, 1)) (kk : kE G M d c0 s0 (pc + 1) L (va :: va :: st) h n Post) : kE G M d c0 s0 pc L (va :: st) h n Post := by
  intro p l e R s m args below meth c H locs cells slots Q ls X hL hH hS hc hs hr
  exact lv_dup X.1 X.2.1 hd hv (kk p l e R s m args below meth c H locs cells slots Q ls X hL hH hS hc hs hr)
theorem e_dup2 {G : kG} {M : kM} {d c0 s0 pc : Nat} {L : List (Option Value)} {st : List Value} {h : Nat → Option kC} {n : Nat} {Post : kPo} {va vb : Value} (hv : va.category = 1) (hv2 : vb.category = 1) (hd : decode M.2.1 pc = .ok (.dup2, 1)) (kk : kE G M d c0 s0 (pc + 1) L (va :: vb :: va :: vb :: st) h n Post) : kE G M d c0 s0 pc L (va :: vb :: st) h n Post := by
  intro p l e R s m args below meth c H locs cells slots Q ls X hL hH hS hc hs hr
  exact lv_dup2_11 X.1 X.2.1 hd hv hv2 (kk p l e R s m args below meth c H locs cells slots Q ls X hL hH hS hc hs hr)
theorem e_null {G : kG} {M : kM} {d c0 s0 pc : Nat} {L : List (Option Value)} {st : List Value} {h : Nat → Option kC} {n : Nat} {Post : kPo}  (hd : decode M.2.1 pc = .ok (.aconst_null, 1)) (kk : kE G M d c0 s0 (pc + 1) L (.null :: st) h n Post) : kE G M d c0 s0 pc L st h n Post := by
  intro p l e R s m args below meth c H locs cells slots Q ls X hL hH hS hc hs hr
  exact lv_null X.1 X.2.1 hd (kk p l e R s m args below meth c H locs cells slots Q ls X hL hH hS hc hs hr)
theorem e_goto {G : kG} {M : kM} {d c0 s0 pc : Nat} {L : List (Option Value)} {st : List Value} {h : Nat → Option kC} {n : Nat} {Post : kPo} {off : Int} {tgt : Nat} (hd : decode M.2.1 pc = .ok (.goto off, 3)) (ht : (pc : Int) + off = (tgt : Int)) (kk : kE G M d c0 s0 tgt L st h n Post) : kE G M d c0 s0 pc L st h n Post := by
  intro p l e R s m args below meth c H locs cells slots Q ls X hL hH hS hc hs hr
  exact lv_goto X.1 X.2.1 hd ht (kk p l e R s m args below meth c H locs cells slots Q ls X hL hH hS hc hs hr)
theorem e_icmp_eq {G : kG} {M : kM} {d c0 s0 pc : Nat} {L : List (Option Value)} {st : List Value} {h : Nat → Option kC} {n : Nat} {Post : kPo} {a b off : Int} {tgt : Nat} (hd : decode M.2.1 pc = .ok (.if_icmp .eq off, 3)) (ht : (pc : Int) + off = (tgt : Int)) (ha : inI a) (hb : inI b) (kt : a = b → kE G M d c0 s0 tgt L st h n Post) (kf : ¬ a = b → kE G M d c0 s0 (pc + 3) L st h n Post) : kE G M d c0 s0 pc L (.int (jI b) :: .int (jI a) :: st) h n Post := by
  intro p l e R s m args below meth c H locs cells slots Q ls X hL hH hS hc hs hr
  exact lv_icmp_eq (tgt := tgt) X.1 X.2.1 hd ht (fun q => (kt ((jI_eq ha hb).mp q) p l e R s m args below meth c H locs cells slots Q ls X hL hH hS hc hs hr)) (fun q => (kf (fun w => q ((jI_eq ha hb).mpr w)) p l e R s m args below meth c H locs cells slots Q ls X hL hH hS hc hs hr))
theorem e_if_eq {G : kG} {M : kM} {d c0 s0 pc : Nat} {L : List (Option Value)} {st : List Value} {h : Nat → Option kC} {n : Nat} {Post : kPo} {a off : Int} {tgt : Nat} (hd : decode M.2.1 pc = .ok (.ifCond .eq off, 3)) (ht : (pc : Int) + off = (tgt : Int)) (ha : inI a) (kt : a = 0 → kE G M d c0 s0 tgt L st h n Post) (kf : ¬ a = 0 → kE G M d c0 s0 (pc + 3) L st h n Post) : kE G M d c0 s0 pc L (.int (jI a) :: st) h n Post := by
  intro p l e R s m args below meth c H locs cells slots Q ls X hL hH hS hc hs hr
  have hb : inI 0 := ⟨by decide, by decide⟩
  exact lv_if_eq (tgt := tgt) X.1 X.2.1 hd ht (fun q => (kt ((jI_eq ha hb).mp (by rw [jI_0]; exact q)) p l e R s m args below meth c H locs cells slots Q ls X hL hH hS hc hs hr)) (fun q => (kf (fun w => q (by rw [← jI_0]; exact (jI_eq ha hb).mpr w)) p l e R s m args below meth c H locs cells slots Q ls X hL hH hS hc hs hr))
theorem e_icmp_ne {G : kG} {M : kM} {d c0 s0 pc : Nat} {L : List (Option Value)} {st : List Value} {h : Nat → Option kC} {n : Nat} {Post : kPo} {a b off : Int} {tgt : Nat} (hd : decode M.2.1 pc = .ok (.if_icmp .ne off, 3)) (ht : (pc : Int) + off = (tgt : Int)) (ha : inI a) (hb : inI b) (kt : ¬ a = b → kE G M d c0 s0 tgt L st h n Post) (kf : a = b → kE G M d c0 s0 (pc + 3) L st h n Post) : kE G M d c0 s0 pc L (.int (jI b) :: .int (jI a) :: st) h n Post := by
  intro p l e R s m args below meth c H locs cells slots Q ls X hL hH hS hc hs hr
  refine lv_icmp_ne (tgt := tgt) X.1 X.2.1 hd ht (fun q => ?_) (fun q => ?_)
  · exact kt (fun w => by first | exact q (by rw [w]) | (rw [w] at q; exact absurd rfl q)) p l e R s m args below meth c H locs cells slots Q ls X hL hH hS hc hs hr
  · exact kf (by first | exact (jI_eq ha hb).mp (Decidable.not_not.mp q) | exact (jI_eq ha hb).mp q) p l e R s m args below meth c H locs cells slots Q ls X hL hH hS hc hs hr
theorem e_if_ne {G : kG} {M : kM} {d c0 s0 pc : Nat} {L : List (Option Value)} {st : List Value} {h : Nat → Option kC} {n : Nat} {Post : kPo} {a off : Int} {tgt : Nat} (hd : decode M.2.1 pc = .ok (.ifCond .ne off, 3)) (ht : (pc : Int) + off = (tgt : Int)) (ha : inI a) (kt : ¬ a = 0 → kE G M d c0 s0 tgt L st h n Post) (kf : a = 0 → kE G M d c0 s0 (pc + 3) L st h n Post) : kE G M d c0 s0 pc L (.int (jI a) :: st) h n Post := by
  intro p l e R s m args below meth c H locs cells slots Q ls X hL hH hS hc hs hr
  have hb : inI 0 := ⟨by decide, by decide⟩
  refine lv_if_ne (tgt := tgt) X.1 X.2.1 hd ht (fun q => ?_) (fun q => ?_)
  · exact kt (fun w => by rw [w, jI_0] at q; first | exact q rfl | exact absurd rfl q) p l e R s m args below meth c H locs cells slots Q ls X hL hH hS hc hs hr
  · exact kf (by rw [← jI_0] at q; first | exact (jI_eq ha hb).mp (Decidable.not_not.mp q) | exact (jI_eq ha hb).mp q) p l e R s m args below meth c H locs cells slots Q ls X hL hH hS hc hs hr
theorem e_icmp_lt {G : kG} {M : kM} {d c0 s0 pc : Nat} {L : List (Option Value)} {st : List Value} {h : Nat → Option kC} {n : Nat} {Post : kPo} {a b off : Int} {tgt : Nat} (hd : decode M.2.1 pc = .ok (.if_icmp .lt off, 3)) (ht : (pc : Int) + off = (tgt : Int)) (ha : inI a) (hb : inI b) (kt : a < b → kE G M d c0 s0 tgt L st h n Post) (kf : ¬ a < b → kE G M d c0 s0 (pc + 3) L st h n Post) : kE G M d c0 s0 pc L (.int (jI b) :: .int (jI a) :: st) h n Post := by
  intro p l e R s m args below meth c H locs cells slots Q ls X hL hH hS hc hs hr
  exact lv_icmp_lt (tgt := tgt) X.1 X.2.1 hd ht (fun q => (kt ((jI_lt ha hb).mp q) p l e R s m args below meth c H locs cells slots Q ls X hL hH hS hc hs hr)) (fun q => (kf (fun w => q ((jI_lt ha hb).mpr w)) p l e R s m args below meth c H locs cells slots Q ls X hL hH hS hc hs hr))
theorem e_if_lt {G : kG} {M : kM} {d c0 s0 pc : Nat} {L : List (Option Value)} {st : List Value} {h : Nat → Option kC} {n : Nat} {Post : kPo} {a off : Int} {tgt : Nat} (hd : decode M.2.1 pc = .ok (.ifCond .lt off, 3)) (ht : (pc : Int) + off = (tgt : Int)) (ha : inI a) (kt : a < 0 → kE G M d c0 s0 tgt L st h n Post) (kf : ¬ a < 0 → kE G M d c0 s0 (pc + 3) L st h n Post) : kE G M d c0 s0 pc L (.int (jI a) :: st) h n Post := by
  intro p l e R s m args below meth c H locs cells slots Q ls X hL hH hS hc hs hr
  have hb : inI 0 := ⟨by decide, by decide⟩
  exact lv_if_lt (tgt := tgt) X.1 X.2.1 hd ht (fun q => (kt ((jI_lt ha hb).mp (by rw [jI_0]; exact q)) p l e R s m args below meth c H locs cells slots Q ls X hL hH hS hc hs hr)) (fun q => (kf (fun w => q (by rw [← jI_0]; exact (jI_lt ha hb).mpr w)) p l e R s m args below meth c H locs cells slots Q ls X hL hH hS hc hs hr))
theorem e_icmp_ge {G : kG} {M : kM} {d c0 s0 pc : Nat} {L : List (Option Value)} {st : List Value} {h : Nat → Option kC} {n : Nat} {Post : kPo} {a b off : Int} {tgt : Nat} (hd : decode M.2.1 pc = .ok (.if_icmp .ge off, 3)) (ht : (pc : Int) + off = (tgt : Int)) (ha : inI a) (hb : inI b) (kt : b ≤ a → kE G M d c0 s0 tgt L st h n Post) (kf : ¬ b ≤ a → kE G M d c0 s0 (pc + 3) L st h n Post) : kE G M d c0 s0 pc L (.int (jI b) :: .int (jI a) :: st) h n Post := by
  intro p l e R s m args below meth c H locs cells slots Q ls X hL hH hS hc hs hr
  exact lv_icmp_ge (tgt := tgt) X.1 X.2.1 hd ht (fun q => (kt ((jI_le hb ha).mp q) p l e R s m args below meth c H locs cells slots Q ls X hL hH hS hc hs hr)) (fun q => (kf (fun w => q ((jI_le hb ha).mpr w)) p l e R s m args below meth c H locs cells slots Q ls X hL hH hS hc hs hr))
theorem e_if_ge {G : kG} {M : kM} {d c0 s0 pc : Nat} {L : List (Option Value)} {st : List Value} {h : Nat → Option kC} {n : Nat} {Post : kPo} {a off : Int} {tgt : Nat} (hd : decode M.2.1 pc = .ok (.ifCond .ge off, 3)) (ht : (pc : Int) + off = (tgt : Int)) (ha : inI a) (kt : 0 ≤ a → kE G M d c0 s0 tgt L st h n Post) (kf : ¬ 0 ≤ a → kE G M d c0 s0 (pc + 3) L st h n Post) : kE G M d c0 s0 pc L (.int (jI a) :: st) h n Post := by
  intro p l e R s m args below meth c H locs cells slots Q ls X hL hH hS hc hs hr
  have hb : inI 0 := ⟨by decide, by decide⟩
  exact lv_if_ge (tgt := tgt) X.1 X.2.1 hd ht (fun q => (kt ((jI_le hb ha).mp (by rw [jI_0]; exact q)) p l e R s m args below meth c H locs cells slots Q ls X hL hH hS hc hs hr)) (fun q => (kf (fun w => q (by rw [← jI_0]; exact (jI_le hb ha).mpr w)) p l e R s m args below meth c H locs cells slots Q ls X hL hH hS hc hs hr))
theorem e_icmp_gt {G : kG} {M : kM} {d c0 s0 pc : Nat} {L : List (Option Value)} {st : List Value} {h : Nat → Option kC} {n : Nat} {Post : kPo} {a b off : Int} {tgt : Nat} (hd : decode M.2.1 pc = .ok (.if_icmp .gt off, 3)) (ht : (pc : Int) + off = (tgt : Int)) (ha : inI a) (hb : inI b) (kt : b < a → kE G M d c0 s0 tgt L st h n Post) (kf : ¬ b < a → kE G M d c0 s0 (pc + 3) L st h n Post) : kE G M d c0 s0 pc L (.int (jI b) :: .int (jI a) :: st) h n Post := by
  intro p l e R s m args below meth c H locs cells slots Q ls X hL hH hS hc hs hr
  exact lv_icmp_gt (tgt := tgt) X.1 X.2.1 hd ht (fun q => (kt ((jI_lt hb ha).mp q) p l e R s m args below meth c H locs cells slots Q ls X hL hH hS hc hs hr)) (fun q => (kf (fun w => q ((jI_lt hb ha).mpr w)) p l e R s m args below meth c H locs cells slots Q ls X hL hH hS hc hs hr))
theorem e_if_gt {G : kG} {M : kM} {d c0 s0 pc : Nat} {L : List (Option Value)} {st : List Value} {h : Nat → Option kC} {n : Nat} {Post : kPo} {a off : Int} {tgt : Nat} (hd : decode M.2.1 pc = .ok (.ifCond .gt off, 3)) (ht : (pc : Int) + off = (tgt : Int)) (ha : inI a) (kt : 0 < a → kE G M d c0 s0 tgt L st h n Post) (kf : ¬ 0 < a → kE G M d c0 s0 (pc + 3) L st h n Post) : kE G M d c0 s0 pc L (.int (jI a) :: st) h n Post := by
  intro p l e R s m args below meth c H locs cells slots Q ls X hL hH hS hc hs hr
  have hb : inI 0 := ⟨by decide, by decide⟩
  exact lv_if_gt (tgt := tgt) X.1 X.2.1 hd ht (fun q => (kt ((jI_lt hb ha).mp (by rw [jI_0]; exact q)) p l e R s m args below meth c H locs cells slots Q ls X hL hH hS hc hs hr)) (fun q => (kf (fun w => q (by rw [← jI_0]; exact (jI_lt hb ha).mpr w)) p l e R s m args below meth c H locs cells slots Q ls X hL hH hS hc hs hr))
theorem e_icmp_le {G : kG} {M : kM} {d c0 s0 pc : Nat} {L : List (Option Value)} {st : List Value} {h : Nat → Option kC} {n : Nat} {Post : kPo} {a b off : Int} {tgt : Nat} (hd : decode M.2.1 pc = .ok (.if_icmp .le off, 3)) (ht : (pc : Int) + off = (tgt : Int)) (ha : inI a) (hb : inI b) (kt : a ≤ b → kE G M d c0 s0 tgt L st h n Post) (kf : ¬ a ≤ b → kE G M d c0 s0 (pc + 3) L st h n Post) : kE G M d c0 s0 pc L (.int (jI b) :: .int (jI a) :: st) h n Post := by
  intro p l e R s m args below meth c H locs cells slots Q ls X hL hH hS hc hs hr
  exact lv_icmp_le (tgt := tgt) X.1 X.2.1 hd ht (fun q => (kt ((jI_le ha hb).mp q) p l e R s m args below meth c H locs cells slots Q ls X hL hH hS hc hs hr)) (fun q => (kf (fun w => q ((jI_le ha hb).mpr w)) p l e R s m args below meth c H locs cells slots Q ls X hL hH hS hc hs hr))
theorem e_if_le {G : kG} {M : kM} {d c0 s0 pc : Nat} {L : List (Option Value)} {st : List Value} {h : Nat → Option kC} {n : Nat} {Post : kPo} {a off : Int} {tgt : Nat} (hd : decode M.2.1 pc = .ok (.ifCond .le off, 3)) (ht : (pc : Int) + off = (tgt : Int)) (ha : inI a) (kt : a ≤ 0 → kE G M d c0 s0 tgt L st h n Post) (kf : ¬ a ≤ 0 → kE G M d c0 s0 (pc + 3) L st h n Post) : kE G M d c0 s0 pc L (.int (jI a) :: st) h n Post := by
  intro p l e R s m args below meth c H locs cells slots Q ls X hL hH hS hc hs hr
  have hb : inI 0 := ⟨by decide, by decide⟩
  exact lv_if_le (tgt := tgt) X.1 X.2.1 hd ht (fun q => (kt ((jI_le ha hb).mp (by rw [jI_0]; exact q)) p l e R s m args below meth c H locs cells slots Q ls X hL hH hS hc hs hr)) (fun q => (kf (fun w => q (by rw [← jI_0]; exact (jI_le ha hb).mpr w)) p l e R s m args below meth c H locs cells slots Q ls X hL hH hS hc hs hr))
theorem e_ifeqP {G : kG} {M : kM} {d c0 s0 pc : Nat} {L : List (Option Value)} {st : List Value} {h : Nat → Option kC} {n : Nat} {Post : kPo} {P : Prop} [Decidable P] {off : Int} {tgt : Nat} (hd : decode M.2.1 pc = .ok (.ifCond .eq off, 3)) (ht : (pc : Int) + off = (tgt : Int)) (kt : ¬ P → kE G M d c0 s0 tgt L st h n Post) (kf : P → kE G M d c0 s0 (pc + 3) L st h n Post) : kE G M d c0 s0 pc L (.int (jI (if P then 1 else 0)) :: st) h n Post := by
  by_cases hP : P
  · exact e_if_eq hd ht (by rw [if_pos hP]; exact ⟨by decide, by decide⟩) (fun q => by rw [if_pos hP] at q; exact absurd q (by decide)) (fun _ => kf hP)
  · exact e_if_eq hd ht (by rw [if_neg hP]; exact ⟨by decide, by decide⟩) (fun _ => kt hP) (fun q => by rw [if_neg hP] at q; exact absurd rfl q)
theorem e_ifneP {G : kG} {M : kM} {d c0 s0 pc : Nat} {L : List (Option Value)} {st : List Value} {h : Nat → Option kC} {n : Nat} {Post : kPo} {P : Prop} [Decidable P] {off : Int} {tgt : Nat} (hd : decode M.2.1 pc = .ok (.ifCond .ne off, 3)) (ht : (pc : Int) + off = (tgt : Int)) (kt : P → kE G M d c0 s0 tgt L st h n Post) (kf : ¬ P → kE G M d c0 s0 (pc + 3) L st h n Post) : kE G M d c0 s0 pc L (.int (jI (if P then 1 else 0)) :: st) h n Post := by
  by_cases hP : P
  · exact e_if_ne hd ht (by rw [if_pos hP]; exact ⟨by decide, by decide⟩) (fun _ => kt hP) (fun q => by rw [if_pos hP] at q; exact absurd q (by decide))
  · exact e_if_ne hd ht (by rw [if_neg hP]; exact ⟨by decide, by decide⟩) (fun q => by rw [if_neg hP] at q; exact absurd rfl q) (fun _ => kf hP)
theorem e_lcmp_eq {G : kG} {M : kM} {d c0 s0 pc : Nat} {L : List (Option Value)} {st : List Value} {h : Nat → Option kC} {n : Nat} {Post : kPo} {a b off : Int} {tgt : Nat} (hd : decode M.2.1 pc = .ok (.lcmp, 1)) (hd2 : decode M.2.1 (pc + 1) = .ok (.ifCond .eq off, 3)) (ht : ((pc + 1 : Nat) : Int) + off = (tgt : Int)) (ha : inL a) (hb : inL b) (kt : a = b → kE G M d c0 s0 tgt L st h n Post) (kf : ¬ (a = b) → kE G M d c0 s0 (pc + 1 + 3) L st h n Post) : kE G M d c0 s0 pc L (.long (jL b) :: .long (jL a) :: st) h n Post := by
  intro p l e R s m args below meth c H locs cells slots Q ls X hL hH hS hc hs hr
  refine W.lcmp X.1 X.2.1 hd ?_
  rw [jL_cmp ha hb]
  exact e_if_eq hd2 ht (kcmp_in a b) (fun q => kt (by unfold kcmp at q; split at q <;> (try split at q) <;> omega)) (fun q => kf (by unfold kcmp at q; split at q <;> (try split at q) <;> omega)) p l e R s m args below meth c H locs cells slots Q ls X hL hH hS hc hs hr
theorem e_lcmp_ne {G : kG} {M : kM} {d c0 s0 pc : Nat} {L : List (Option Value)} {st : List Value} {h : Nat → Option kC} {n : Nat} {Post : kPo} {a b off : Int} {tgt : Nat} (hd : decode M.2.1 pc = .ok (.lcmp, 1)) (hd2 : decode M.2.1 (pc + 1) = .ok (.ifCond .ne off, 3)) (ht : ((pc + 1 : Nat) : Int) + off = (tgt : Int)) (ha : inL a) (hb : inL b) (kt : ¬ a = b → kE G M d c0 s0 tgt L st h n Post) (kf : ¬ (¬ a = b) → kE G M d c0 s0 (pc + 1 + 3) L st h n Post) : kE G M d c0 s0 pc L (.long (jL b) :: .long (jL a) :: st) h n Post := by
  intro p l e R s m args below meth c H locs cells slots Q ls X hL hH hS hc hs hr
  refine W.lcmp X.1 X.2.1 hd ?_
  rw [jL_cmp ha hb]
  exact e_if_ne hd2 ht (kcmp_in a b) (fun q => kt (by unfold kcmp at q; split at q <;> (try split at q) <;> omega)) (fun q => kf (by unfold kcmp at q; split at q <;> (try split at q) <;> omega)) p l e R s m args below meth c H locs cells slots Q ls X hL hH hS hc hs hr
theorem e_lcmp_lt {G : kG} {M : kM} {d c0 s0 pc : Nat} {L : List (Option Value)} {st : List Value} {h : Nat → Option kC} {n : Nat} {Post : kPo} {a b off : Int} {tgt : Nat} (hd : decode M.2.1 pc = .ok (.lcmp, 1)) (hd2 : decode M.2.1 (pc + 1) = .ok (.ifCond .lt off, 3)) (ht : ((pc + 1 : Nat) : Int) + off = (tgt : Int)) (ha : inL a) (hb : inL b) (kt : a < b → kE G M d c0 s0 tgt L st h n Post) (kf : ¬ (a < b) → kE G M d c0 s0 (pc + 1 + 3) L st h n Post) : kE G M d c0 s0 pc L (.long (jL b) :: .long (jL a) :: st) h n Post := by
  intro p l e R s m args below meth c H locs cells slots Q ls X hL hH hS hc hs hr
  refine W.lcmp X.1 X.2.1 hd ?_
  rw [jL_cmp ha hb]
  exact e_if_lt hd2 ht (kcmp_in a b) (fun q => kt (by unfold kcmp at q; split at q <;> (try split at q) <;> omega)) (fun q => kf (by unfold kcmp at q; split at q <;> (try split at q) <;> omega)) p l e R s m args below meth c H locs cells slots Q ls X hL hH hS hc hs hr
theorem e_lcmp_ge {G : kG} {M : kM} {d c0 s0 pc : Nat} {L : List (Option Value)} {st : List Value} {h : Nat → Option kC} {n : Nat} {Post : kPo} {a b off : Int} {tgt : Nat} (hd : decode M.2.1 pc = .ok (.lcmp, 1)) (hd2 : decode M.2.1 (pc + 1) = .ok (.ifCond .ge off, 3)) (ht : ((pc + 1 : Nat) : Int) + off = (tgt : Int)) (ha : inL a) (hb : inL b) (kt : b ≤ a → kE G M d c0 s0 tgt L st h n Post) (kf : ¬ (b ≤ a) → kE G M d c0 s0 (pc + 1 + 3) L st h n Post) : kE G M d c0 s0 pc L (.long (jL b) :: .long (jL a) :: st) h n Post := by
  intro p l e R s m args below meth c H locs cells slots Q ls X hL hH hS hc hs hr
  refine W.lcmp X.1 X.2.1 hd ?_
  rw [jL_cmp ha hb]
  exact e_if_ge hd2 ht (kcmp_in a b) (fun q => kt (by unfold kcmp at q; split at q <;> (try split at q) <;> omega)) (fun q => kf (by unfold kcmp at q; split at q <;> (try split at q) <;> omega)) p l e R s m args below meth c H locs cells slots Q ls X hL hH hS hc hs hr
theorem e_lcmp_gt {G : kG} {M : kM} {d c0 s0 pc : Nat} {L : List (Option Value)} {st : List Value} {h : Nat → Option kC} {n : Nat} {Post : kPo} {a b off : Int} {tgt : Nat} (hd : decode M.2.1 pc = .ok (.lcmp, 1)) (hd2 : decode M.2.1 (pc + 1) = .ok (.ifCond .gt off, 3)) (ht : ((pc + 1 : Nat) : Int) + off = (tgt : Int)) (ha : inL a) (hb : inL b) (kt : b < a → kE G M d c0 s0 tgt L st h n Post) (kf : ¬ (b < a) → kE G M d c0 s0 (pc + 1 + 3) L st h n Post) : kE G M d c0 s0 pc L (.long (jL b) :: .long (jL a) :: st) h n Post := by
  intro p l e R s m args below meth c H locs cells slots Q ls X hL hH hS hc hs hr
  refine W.lcmp X.1 X.2.1 hd ?_
  rw [jL_cmp ha hb]
  exact e_if_gt hd2 ht (kcmp_in a b) (fun q => kt (by unfold kcmp at q; split at q <;> (try split at q) <;> omega)) (fun q => kf (by unfold kcmp at q; split at q <;> (try split at q) <;> omega)) p l e R s m args below meth c H locs cells slots Q ls X hL hH hS hc hs hr
theorem e_lcmp_le {G : kG} {M : kM} {d c0 s0 pc : Nat} {L : List (Option Value)} {st : List Value} {h : Nat → Option kC} {n : Nat} {Post : kPo} {a b off : Int} {tgt : Nat} (hd : decode M.2.1 pc = .ok (.lcmp, 1)) (hd2 : decode M.2.1 (pc + 1) = .ok (.ifCond .le off, 3)) (ht : ((pc + 1 : Nat) : Int) + off = (tgt : Int)) (ha : inL a) (hb : inL b) (kt : a ≤ b → kE G M d c0 s0 tgt L st h n Post) (kf : ¬ (a ≤ b) → kE G M d c0 s0 (pc + 1 + 3) L st h n Post) : kE G M d c0 s0 pc L (.long (jL b) :: .long (jL a) :: st) h n Post := by
  intro p l e R s m args below meth c H locs cells slots Q ls X hL hH hS hc hs hr
  refine W.lcmp X.1 X.2.1 hd ?_
  rw [jL_cmp ha hb]
  exact e_if_le hd2 ht (kcmp_in a b) (fun q => kt (by unfold kcmp at q; split at q <;> (try split at q) <;> omega)) (fun q => kf (by unfold kcmp at q; split at q <;> (try split at q) <;> omega)) p l e R s m args below meth c H locs cells slots Q ls X hL hH hS hc hs hr
theorem e_ifnonnull {G : kG} {M : kM} {d c0 s0 pc : Nat} {L : List (Option Value)} {st : List Value} {h : Nat → Option kC} {n : Nat} {Post : kPo} {x : Nat} {off : Int} {tgt : Nat} (hd : decode M.2.1 pc = .ok (.ifnonnull off, 3)) (ht : (pc : Int) + off = (tgt : Int)) (kk : kE G M d c0 s0 tgt L st h n Post) : kE G M d c0 s0 pc L (.ref x :: st) h n Post := by
  intro p l e R s m args below meth c H locs cells slots Q ls X hL hH hS hc hs hr
  exact lv_ifnonnull X.1 X.2.1 hd ht (kk p l e R s m args below meth c H locs cells slots Q ls X hL hH hS hc hs hr)
theorem e_ifnonnullN {G : kG} {M : kM} {d c0 s0 pc : Nat} {L : List (Option Value)} {st : List Value} {h : Nat → Option kC} {n : Nat} {Post : kPo} {off : Int} (hd : decode M.2.1 pc = .ok (.ifnonnull off, 3)) (kk : kE G M d c0 s0 (pc + 3) L st h n Post) : kE G M d c0 s0 pc L (.null :: st) h n Post := by
  intro p l e R s m args below meth c H locs cells slots Q ls X hL hH hS hc hs hr
  exact lv_ifnonnullN X.1 X.2.1 hd (kk p l e R s m args below meth c H locs cells slots Q ls X hL hH hS hc hs hr)
theorem e_ifnull {G : kG} {M : kM} {d c0 s0 pc : Nat} {L : List (Option Value)} {st : List Value} {h : Nat → Option kC} {n : Nat} {Post : kPo} {x : Nat} {off : Int} (hd : decode M.2.1 pc = .ok (.ifnull off, 3)) (kk : kE G M d c0 s0 (pc + 3) L st h n Post) : kE G M d c0 s0 pc L (.ref x :: st) h n Post := by
  intro p l e R s m args below meth c H locs cells slots Q ls X hL hH hS hc hs hr
  exact lv_ifnull X.1 X.2.1 hd (kk p l e R s m args below meth c H locs cells slots Q ls X hL hH hS hc hs hr)
theorem e_ifnullN {G : kG} {M : kM} {d c0 s0 pc : Nat} {L : List (Option Value)} {st : List Value} {h : Nat → Option kC} {n : Nat} {Post : kPo} {off : Int} {tgt : Nat} (hd : decode M.2.1 pc = .ok (.ifnull off, 3)) (ht : (pc : Int) + off = (tgt : Int)) (kk : kE G M d c0 s0 tgt L st h n Post) : kE G M d c0 s0 pc L (.null :: st) h n Post := by
  intro p l e R s m args below meth c H locs cells slots Q ls X hL hH hS hc hs hr
  exact lv_ifnullN X.1 X.2.1 hd ht (kk p l e R s m args below meth c H locs cells slots Q ls X hL hH hS hc hs hr)
theorem e_tabIn {G : kG} {M : kM} {d c0 s0 pc : Nat} {L : List (Option Value)} {st : List Value} {h : Nat → Option kC} {n : Nat} {Post : kPo} {dflt lo hi a off : Int} {offs : Array Int} {len tgt : Nat} (hd : decode M.2.1 pc = .ok (.tableswitch dflt lo hi offs, len)) (ha : inI a) (h1 : lo ≤ a) (h2 : a ≤ hi) (ho : offs[(a - lo).toNat]? = some off) (ht : (pc : Int) + off = (tgt : Int)) (kk : kE G M d c0 s0 tgt L st h n Post) : kE G M d c0 s0 pc L (.int (jI a) :: st) h n Post := by
  intro p l e R s m args below meth c H locs cells slots Q ls X hL hH hS hc hs hr
  have e9 := jI_ti ha
  exact lv_tableIn X.1 X.2.1 hd (by rw [e9]; omega) (by rw [e9]; omega) (by rw [e9]; exact ho) ht (kk p l e R s m args below meth c H locs cells slots Q ls X hL hH hS hc hs hr)
theorem e_tabOut {G : kG} {M : kM} {d c0 s0 pc : Nat} {L : List (Option Value)} {st : List Value} {h : Nat → Option kC} {n : Nat} {Post : kPo} {dflt lo hi a : Int} {offs : Array Int} {len tgt : Nat} (hd : decode M.2.1 pc = .ok (.tableswitch dflt lo hi offs, len)) (ha : inI a) (h1 : a < lo ∨ hi < a) (ht : (pc : Int) + dflt = (tgt : Int)) (kk : kE G M d c0 s0 tgt L st h n Post) : kE G M d c0 s0 pc L (.int (jI a) :: st) h n Post := by
  intro p l e R s m args below meth c H locs cells slots Q ls X hL hH hS hc hs hr
  have e9 := jI_ti ha
  exact lv_tableOut X.1 X.2.1 hd (by rw [e9]; exact h1) ht (kk p l e R s m args below meth c H locs cells slots Q ls X hL hH hS hc hs hr)
theorem e_ireturn {G : kG} {M : kM} {d c0 s0 pc : Nat} {L : List (Option Value)} {h : Nat → Option kC} {n : Nat} {Post : kPo} {z : Int} {ty : FieldType} (hd : decode M.2.1 pc = .ok (.ireturn, 1)) (hty : M.2.2.2 = some ty) (hn : narrow ty (.int (jI z)) = .int (jI z)) (hP : Post (some (.int (jI z))) h n) : kE G M d c0 s0 pc L [.int (jI z)] h n Post := by
  intro p l e R s m args below meth c H locs cells slots Q ls X hL hH hS hc hs hr
  exact hr H locs cells slots ls pc _ h n _ hP hH hS (by omega) (by omega) (Or.inl ⟨_, ty, hty, rfl, hn, rfl⟩) hd
theorem e_lreturn {G : kG} {M : kM} {d c0 s0 pc : Nat} {L : List (Option Value)} {h : Nat → Option kC} {n : Nat} {Post : kPo} {z : Int} (hd : decode M.2.1 pc = .ok (.lreturn, 1)) (hty : M.2.2.2 = some .long) (hP : Post (some (.long (jL z))) h n) : kE G M d c0 s0 pc L [.long (jL z)] h n Post := by
  intro p l e R s m args below meth c H locs cells slots Q ls X hL hH hS hc hs hr
  exact hr H locs cells slots ls pc _ h n _ hP hH hS (by omega) (by omega) (Or.inr (Or.inl ⟨_, hty, rfl, rfl⟩)) hd
theorem e_areturn {G : kG} {M : kM} {d c0 s0 pc : Nat} {L : List (Option Value)} {h : Nat → Option kC} {n : Nat} {Post : kPo} {v : Value} {nm : String} (hd : decode M.2.1 pc = .ok (.areturn, 1)) (hty : M.2.2.2 = some (.object nm)) (hv : v = .null ∨ ∃ a, v = .ref a) (hP : Post (some v) h n) : kE G M d c0 s0 pc L [v] h n Post := by
  intro p l e R s m args below meth c H locs cells slots Q ls X hL hH hS hc hs hr
  exact hr H locs cells slots ls pc _ h n _ hP hH hS (by omega) (by omega) (Or.inr (Or.inr (Or.inl ⟨v, nm, hty, rfl, hv, rfl⟩))) hd
theorem e_return {G : kG} {M : kM} {d c0 s0 pc : Nat} {L : List (Option Value)} {h : Nat → Option kC} {n : Nat} {Post : kPo} (hd : decode M.2.1 pc = .ok (.return_, 1)) (hty : M.2.2.2 = none) (hP : Post none h n) : kE G M d c0 s0 pc L [] h n Post := by
  intro p l e R s m args below meth c H locs cells slots Q ls X hL hH hS hc hs hr
  exact hr H locs cells slots ls pc _ h n _ hP hH hS (by omega) (by omega) (Or.inr (Or.inr (Or.inr ⟨hty, rfl, rfl⟩))) hd
