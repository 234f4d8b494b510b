/-! THE REFERENCE: its object at 97, its rows from 98 to 114; q its numbers by their field, F its rows by their cell -/
def kMl (G : kG) (q : Nat → Int) : List Value := [.ref (gB G + 98), .ref (gB G + 99), .ref (gB G + 100), .ref (gB G + 101), .ref (gB G + 102), .ref (gB G + 103), .int (jI (q 6)), .ref (gB G + 104), .ref (gB G + 105), .int (jI (q 9)), .ref (gB G + 106), .ref (gB G + 107), .ref (gB G + 108), .int (jI (q 13)), .ref (gB G + 109), .ref (gB G + 110), .int (jI (q 16)), .ref (gB G + 111), .int (jI (q 18)), .int (jI (q 19)), .int (jI (q 20)), .int (jI (q 21)), .int (jI (q 22)), .long (jL (q 23)), .long (jL (q 24)), .long (jL (q 25)), .long (jL (q 26)), .int (jI (q 27)), .ref (gB G + 112), .ref (gB G + 113), .ref (gB G + 114), .int (jI (q 31)), .int (jI (q 32))]
def ksz (j : Nat) : Nat := if j = 98 then 384 else if j ≤ 101 then 6 else if j = 102 then 5 else if j = 103 then 60 else if j = 104 then 21 else if j ≤ 110 then 20 else if j = 111 then 17 else if j = 112 then 64 else 1400
def kmh (G : kG) (h : Nat → Option kC) (q : Nat → Int) (F : Nat → Nat → Int) : Nat → Option kC := fun j => if j = 97 then some (kob 8 (kMl G q)) else if 98 ≤ j ∧ j ≤ 113 then some (kia (ksz j) (F j)) else if j = 114 then some (kza 2 (F 114)) else h j
section KM
variable {G : kG} {M : kM} {d c0 s0 pc : Nat} {L : List (Option Value)} {st : List Value} {h : Nat → Option kC} {n : Nat} {Post : kPo} {q : Nat → Int} {F : Nat → Nat → Int}
theorem kml_6 {z : Int} : (kMl G q).set 6 (.int (jI z)) = kMl G (up q 6 z) := rfl
theorem kml_9 {z : Int} : (kMl G q).set 9 (.int (jI z)) = kMl G (up q 9 z) := rfl
theorem kml_13 {z : Int} : (kMl G q).set 13 (.int (jI z)) = kMl G (up q 13 z) := rfl
theorem kml_16 {z : Int} : (kMl G q).set 16 (.int (jI z)) = kMl G (up q 16 z) := rfl
theorem kml_18 {z : Int} : (kMl G q).set 18 (.int (jI z)) = kMl G (up q 18 z) := rfl
theorem kml_19 {z : Int} : (kMl G q).set 19 (.int (jI z)) = kMl G (up q 19 z) := rfl
theorem kml_20 {z : Int} : (kMl G q).set 20 (.int (jI z)) = kMl G (up q 20 z) := rfl
theorem kml_21 {z : Int} : (kMl G q).set 21 (.int (jI z)) = kMl G (up q 21 z) := rfl
theorem kml_22 {z : Int} : (kMl G q).set 22 (.int (jI z)) = kMl G (up q 22 z) := rfl
theorem kml_23 {z : Int} : (kMl G q).set 23 (.long (jL z)) = kMl G (up q 23 z) := rfl
theorem kml_24 {z : Int} : (kMl G q).set 24 (.long (jL z)) = kMl G (up q 24 z) := rfl
theorem kml_25 {z : Int} : (kMl G q).set 25 (.long (jL z)) = kMl G (up q 25 z) := rfl
theorem kml_26 {z : Int} : (kMl G q).set 26 (.long (jL z)) = kMl G (up q 26 z) := rfl
theorem kml_27 {z : Int} : (kMl G q).set 27 (.int (jI z)) = kMl G (up q 27 z) := rfl
theorem kml_31 {z : Int} : (kMl G q).set 31 (.int (jI z)) = kMl G (up q 31 z) := rfl
theorem kml_32 {z : Int} : (kMl G q).set 32 (.int (jI z)) = kMl G (up q 32 z) := rfl
theorem kmh_97 : kmh G h q F 97 = some (kob 8 (kMl G q)) := if_pos rfl
theorem kmh_a {j : Nat} (h1 : 98 ≤ j) (h2 : j ≤ 113) : kmh G h q F j = some (kia (ksz j) (F j)) := by
  unfold kmh
  rw [if_neg (by omega), if_pos ⟨h1, h2⟩]
theorem kmh_z : kmh G h q F 114 = some (kza 2 (F 114)) := by
  unfold kmh
  rw [if_neg (by decide), if_neg (by decide), if_pos rfl]
theorem kmh_o {j : Nat} (h1 : j < 97 ∨ 114 < j) : kmh G h q F j = h j := by
  unfold kmh
  rw [if_neg (by omega), if_neg (by omega), if_neg (by omega)]
theorem kmh_q {q' : Nat → Int} : kup (kmh G h q F) 97 (kob 8 (kMl G q')) = kmh G h q' F := by
  funext j
  unfold kup
  by_cases e : j = 97
  · rw [if_pos e, e, kmh_97]
  · rw [if_neg e]
    unfold kmh
    rw [if_neg e, if_neg e]
theorem kmh_F {i : Nat} {A : Nat → Int} (h1 : 98 ≤ i) (h2 : i ≤ 113) : kup (kmh G h q F) i (kia (ksz i) A) = kmh G h q (up2 F i A) := by
  funext j
  unfold kup
  by_cases e : j = i
  · rw [if_pos e, e, kmh_a h1 h2]
    unfold up2
    rw [if_pos rfl]
  · rw [if_neg e]
    unfold kmh up2
    rw [if_neg e, if_neg (show ¬ 114 = i by omega)]
theorem kmh_Z {A : Nat → Int} : kup (kmh G h q F) 114 (kza 2 A) = kmh G h q (up2 F 114 A) := by
  funext j
  unfold kup
  by_cases e : j = 114
  · rw [if_pos e, e, kmh_z]
    rfl
  · rw [if_neg e]
    unfold kmh up2
    rw [if_neg e, if_pos rfl, if_neg e, if_neg e]
def kmA (j N : Nat) : Prop := (98 ≤ j ∧ j ≤ 113) ∧ ksz j = N ∧ N < 2147483648
theorem e_mld {j N : Nat} {a : Int} (hj : kmA j N) (hd : decode M.2.1 pc = .ok (.iaload, 1)) (h0 : 0 ≤ a) (h1 : a < N) (kk : kE G M d c0 s0 (pc + 1) L (.int (jI (F j a.toNat)) :: st) (kmh G h q F) n Post) : kE G M d c0 s0 pc L (.int (jI a) :: .ref (gB G + j) :: st) (kmh G h q F) n Post := by
  obtain ⟨⟨j0, j1⟩, j2, j3⟩ := hj
  exact e_iald hd (kmh_a j0 j1) h0 (by rw [j2]; exact h1) kk (by rw [j2]; exact j3)
theorem e_mst {j N : Nat} {a x : Int} (hj : kmA j N) (hd : decode M.2.1 pc = .ok (.iastore, 1)) (h0 : 0 ≤ a) (h1 : a < N) (kk : kE G M d c0 s0 (pc + 1) L st (kmh G h q (up2 F j (up (F j) a.toNat x))) n Post) : kE G M d c0 s0 pc L (.int (jI x) :: .int (jI a) :: .ref (gB G + j) :: st) (kmh G h q F) n Post := by
  obtain ⟨⟨j0, j1⟩, j2, j3⟩ := hj
  exact e_iast hd (kmh_a j0 j1) h0 (by rw [j2]; exact h1) (by rw [kmh_F j0 j1]; exact kk) (by rw [j2]; exact j3)
theorem e_mzld {a : Int} (hd : decode M.2.1 pc = .ok (.baload, 1)) (h0 : 0 ≤ a) (h1 : a < (2 : Nat)) (kk : kE G M d c0 s0 (pc + 1) L (.int (jI (F 114 a.toNat)) :: st) (kmh G h q F) n Post) : kE G M d c0 s0 pc L (.int (jI a) :: .ref (gB G + 114) :: st) (kmh G h q F) n Post := e_zald hd kmh_z h0 h1 kk
theorem e_mzst {a x : Int} (hx : narrow .boolean (.int (jI x)) = .int (jI x)) (hd : decode M.2.1 pc = .ok (.bastore, 1)) (h0 : 0 ≤ a) (h1 : a < (2 : Nat)) (kk : kE G M d c0 s0 (pc + 1) L st (kmh G h q (up2 F 114 (up (F 114) a.toNat x))) n Post) : kE G M d c0 s0 pc L (.int (jI x) :: .int (jI a) :: .ref (gB G + 114) :: st) (kmh G h q F) n Post := e_zast hd kmh_z h0 h1 hx (by rw [kmh_Z]; exact kk)
theorem e_mput {idx k : Nat} {z : Int} {v : Value} {ty : FieldType} (hf : kPf M.1.cls idx 8 k ty false) (hd : decode M.2.1 pc = .ok (.putfield idx, 3)) (hs : (kMl G q).set k v = kMl G (up q k z)) (hn : narrow ty v = v) (hfit : fits ty v = true) (hl9 : Nat.ble (k + 1) (kMl G q).length = true) (kk : kE G M d c0 s0 (pc + 3) L st (kmh G h (up q k z) F) n Post) : kE G M d c0 s0 pc L (v :: .ref (gB G + 97) :: st) (kmh G h q F) n Post := e_putf hf hd kmh_97 hn hfit hl9 (by rw [hs, kmh_q]; exact kk)
end KM
theorem ka98 : kmA 98 384 := ⟨by decide, by decide, by decide⟩
theorem ka99 : kmA 99 6 := ⟨by decide, by decide, by decide⟩
theorem ka100 : kmA 100 6 := ⟨by decide, by decide, by decide⟩
theorem ka101 : kmA 101 6 := ⟨by decide, by decide, by decide⟩
theorem ka102 : kmA 102 5 := ⟨by decide, by decide, by decide⟩
theorem ka103 : kmA 103 60 := ⟨by decide, by decide, by decide⟩
theorem ka104 : kmA 104 21 := ⟨by decide, by decide, by decide⟩
theorem ka105 : kmA 105 20 := ⟨by decide, by decide, by decide⟩
theorem ka106 : kmA 106 20 := ⟨by decide, by decide, by decide⟩
theorem ka107 : kmA 107 20 := ⟨by decide, by decide, by decide⟩
theorem ka108 : kmA 108 20 := ⟨by decide, by decide, by decide⟩
theorem ka109 : kmA 109 20 := ⟨by decide, by decide, by decide⟩
theorem ka110 : kmA 110 20 := ⟨by decide, by decide, by decide⟩
theorem ka111 : kmA 111 17 := ⟨by decide, by decide, by decide⟩
theorem ka112 : kmA 112 64 := ⟨by decide, by decide, by decide⟩
theorem ka113 : kmA 113 1400 := ⟨by decide, by decide, by decide⟩
/-- the tests of a case, the cases, as taken -/
def kft (F : Nat → Nat → Int) (y a : Int) (t : Nat) : Int := kho (if F 106 t = 121 then y else a) (F 107 t) (F 108 t)
def kfa (F : Nat → Nat → Int) (y a : Int) (s : Nat) : Nat → Int
  | 0 => 1
  | k + 1 => if kfa F y a s k = 1 ∧ kft F y a (s + k) = 1 then 1 else 0
def kcs (F : Nat → Nat → Int) (y a : Int) (k : Nat) : Int := kfa F y a (F 104 k).toNat ((F 104 (k + 1)).toNat - (F 104 k).toNat)
def klD (F : Nat → Nat → Int) (y a : Int) : Nat → Nat → Int
  | 0, _ => 0
  | f + 1, k => if kcs F y a k = 1 then F 105 k else klD F y a f (k + 1)
/-- THE RULE as taken -/
def kRD (q : Nat → Int) (F : Nat → Nat → Int) (t : Int × (Nat → Int)) : Prop :=
  q 9 = kpc t.1 t.2 ∧ (0 ≤ q 9 ∧ q 9 ≤ 20) ∧ (0 ≤ q 13 ∧ q 13 ≤ 20) ∧ F 104 0 = 0 ∧ (∀ k : Nat, (k : Int) ≤ q 9 → 0 ≤ F 104 k ∧ F 104 k ≤ q 13) ∧ (∀ k : Nat, (k : Int) < q 9 → 0 ≤ F 105 k ∧ F 105 k ≤ 999) ∧
  (∀ k : Nat, (k : Int) < q 13 → (0 ≤ F 106 k ∧ F 106 k ≤ 126) ∧ (F 107 k = 60 ∨ F 107 k = 61 ∨ F 107 k = 62) ∧ 0 ≤ F 108 k ∧ F 108 k ≤ 999) ∧ ∀ y a : Int, klD F y a (q 9).toNat 0 = klb t.2 y a t.1.toNat 0 1 0 42 0
def kgD (F : Nat → Nat → Int) (a : Int) : Nat → Nat → Int
  | 0, _ => 0
  | f + 1, k => if F 109 k = a then F 110 k else kgD F a f (k + 1)
/-- GROWTH as taken -/
def kGD (q : Nat → Int) (F : Nat → Nat → Int) (t : Int × (Nat → Int)) : Prop :=
  q 16 = kpc t.1 t.2 ∧ (0 ≤ q 16 ∧ q 16 ≤ 20) ∧ (∀ k : Nat, (k : Int) < q 16 → (0 ≤ F 109 k ∧ F 109 k ≤ 999) ∧ 0 ≤ F 110 k ∧ F 110 k ≤ 999) ∧ ∀ a : Int, 1 ≤ a → kgD F a (q 16).toNat 0 = kgw t a
/-- all but signs -/
def rHD (q : Nat → Int) (F : Nat → Nat → Int) (S : kHd) : Prop :=
  (∀ b x : Nat, b < 6 → x < 64 → F 98 (64 * b + x) = hM S b x) ∧ (∀ b : Nat, b < 6 → F 99 b = hE S b 0 ∧ F 100 b = hE S b 1 ∧ F 101 b = hE S b 2) ∧ (∀ k : Nat, k < 5 → F 102 k = hW S k) ∧ kRD q F (hR S) ∧ kGD q F (hG S)
/-- an IMAGE in its row -/
def kxq (X : Nat → Int) : Nat → Int := fun k => if k = 9 then X 0 else if k = 13 then X 1 else if k = 16 then X 2 else 0
def kxF (X : Nat → Int) : Nat → Nat → Int := fun j k => if j = 98 then X (3 + k) else if j = 99 then X (387 + 3 * k) else if j = 100 then X (388 + 3 * k) else if j = 101 then X (389 + 3 * k) else if j = 102 then X (405 + k) else if j = 104 then (if k = 0 then 0 else X (408 + 2 * k)) else if j = 105 then X (411 + 2 * k) else if j = 106 then X (450 + 3 * k) else if j = 107 then X (451 + 3 * k) else if j = 108 then X (452 + 3 * k) else if j = 109 then X (510 + 2 * k) else X (511 + 2 * k)
def rMD (q : Nat → Int) (F : Nat → Nat → Int) (Z : kCs) : Prop :=
  rHD q F (cN Z) ∧ q 6 = (cP Z).1 ∧ (∀ j : Nat, j < 60 → F 103 j = (cP Z).2 j) ∧ (∀ i : Nat, i < 2 → F 114 i = cK Z i) ∧ ∀ i : Nat, i < 2 → cK Z i ≠ 0 → rHD (kxq (fun j => F 113 (700 * i + j))) (kxF (fun j => F 113 (700 * i + j))) (cI Z i)
/-- a call's answer and the reference's state after it -/
def kQm (G : kG) (h : Nat → Option kC) (n : Nat) (v : Value) (Z : kCs) : kPo := fun r h' n' => r = some v ∧ n' = n ∧ ∃ (q' : Nat → Int) (F' : Nat → Nat → Int), h' = kmh G h q' F' ∧ rMD q' F' Z
theorem kQm_0 {G : kG} {h : Nat → Option kC} {n : Nat} {v : Value} {Z : kCs} {r : Option Value} {q : Nat → Int} {F : Nat → Nat → Int} (hr : r = some v) (md : rMD q F Z) : kQm G h n v Z r (kmh G h q F) n := ⟨hr, rfl, q, F, rfl, md⟩
theorem rHD_q {q q' : Nat → Int} {F : Nat → Nat → Int} {S : kHd} (r : rHD q F S) (h1 : q' 9 = q 9) (h2 : q' 13 = q 13) (h3 : q' 16 = q 16) : rHD q' F S := by
  obtain ⟨r1, r2, r3, r4, r5⟩ := r
  refine ⟨r1, r2, r3, ?_, ?_⟩
  · unfold kRD at *
    rw [h1, h2]
    exact r4
  · unfold kGD at *
    rw [h3]
    exact r5
theorem rMD_q {q q' : Nat → Int} {F : Nat → Nat → Int} {Z : kCs} (r : rMD q F Z) (h0 : q' 6 = q 6) (h1 : q' 9 = q 9) (h2 : q' 13 = q 13) (h3 : q' 16 = q 16) : rMD q' F Z := by
  obtain ⟨r1, r2, r3⟩ := r
  exact ⟨rHD_q r1 h1 h2 h3, by rw [h0]; exact r2, r3⟩
theorem kcs_F {F F' : Nat → Nat → Int} (hF : ∀ j, 104 ≤ j → j ≤ 110 → F' j = F j) : kft F' = kft F ∧ kfa F' = kfa F ∧ kcs F' = kcs F ∧ klD F' = klD F ∧ kgD F' = kgD F := by
  have e1 : kft F' = kft F := by
    funext y a t
    unfold kft
    rw [hF 106 (by omega) (by omega), hF 107 (by omega) (by omega), hF 108 (by omega) (by omega)]
  have e2 : kfa F' = kfa F := by
    funext y a s k
    induction k with
    | zero => rfl
    | succ k ih => unfold kfa; rw [ih, e1]
  have e3 : kcs F' = kcs F := by
    funext y a k
    unfold kcs
    rw [e2, hF 104 (by omega) (by omega)]
  refine ⟨e1, e2, e3, ?_, ?_⟩
  · funext y a f
    induction f with
    | zero => funext k; rfl
    | succ f ih => funext k; unfold klD; rw [e3, ih, hF 105 (by omega) (by omega)]
  · funext a f
    induction f with
    | zero => funext k; rfl
    | succ f ih => funext k; unfold kgD; rw [ih, hF 109 (by omega) (by omega), hF 110 (by omega) (by omega)]
theorem kRD_F {q : Nat → Int} {F F' : Nat → Nat → Int} {t : Int × (Nat → Int)} (r : kRD q F t) (hF : ∀ j, 104 ≤ j → j ≤ 110 → F' j = F j) : kRD q F' t := by
  have e := kcs_F hF
  unfold kRD at *
  rw [hF 104 (by omega) (by omega), hF 105 (by omega) (by omega), hF 106 (by omega) (by omega), hF 107 (by omega) (by omega), hF 108 (by omega) (by omega), e.2.2.2.1]
  exact r
theorem kGD_F {q : Nat → Int} {F F' : Nat → Nat → Int} {t : Int × (Nat → Int)} (r : kGD q F t) (hF : ∀ j, 104 ≤ j → j ≤ 110 → F' j = F j) : kGD q F' t := by
  have e := kcs_F hF
  unfold kGD at *
  rw [hF 109 (by omega) (by omega), hF 110 (by omega) (by omega), e.2.2.2.2]
  exact r
theorem rMD_F {q : Nat → Int} {F F' : Nat → Nat → Int} {Z : kCs} (r : rMD q F Z) (hF : ∀ j, j ≠ 111 → j ≠ 112 → F' j = F j) : rMD q F' Z := by
  obtain ⟨⟨a1, a2, a3, a4, a5⟩, r2, r3, r4, r5⟩ := r
  unfold rMD rHD
  rw [hF 98 (by omega) (by omega), hF 99 (by omega) (by omega), hF 100 (by omega) (by omega), hF 101 (by omega) (by omega), hF 102 (by omega) (by omega), hF 103 (by omega) (by omega), hF 113 (by omega) (by omega), hF 114 (by omega) (by omega)]
  exact ⟨⟨a1, a2, a3, kRD_F a4 (fun j _ _ => hF j (by omega) (by omega)), kGD_F a5 (fun j _ _ => hF j (by omega) (by omega))⟩, r2, r3, r4, r5⟩
theorem md_m {q : Nat → Int} {F : Nat → Nat → Int} {Z : kCs} (r : rMD q F Z) {b x : Int} (hb : 0 ≤ b ∧ b ≤ 5) (hx : 0 ≤ x ∧ x ≤ 63) : F 98 (64 * b + x).toNat = hM (cN Z) b.toNat x.toNat := by
  rw [← r.1.1 b.toNat x.toNat (by omega) (by omega), show (64 * b + x).toNat = 64 * b.toNat + x.toNat by omega]
theorem md_e {q : Nat → Int} {F : Nat → Nat → Int} {Z : kCs} (r : rMD q F Z) {b : Int} (hb : 0 ≤ b ∧ b ≤ 5) : F 99 b.toNat = hE (cN Z) b.toNat 0 ∧ F 100 b.toNat = hE (cN Z) b.toNat 1 ∧ F 101 b.toNat = hE (cN Z) b.toNat 2 := r.1.2.1 b.toNat (by omega)
theorem md_w {q : Nat → Int} {F : Nat → Nat → Int} {Z : kCs} (r : rMD q F Z) {k : Nat} (hk : k < 5) : F 102 k = hW (cN Z) k := r.1.2.2.1 k hk
theorem up2_s {F : Nat → Nat → Int} {i : Nat} {A : Nat → Int} : up2 F i A i = A := if_pos rfl
theorem up2_n {F : Nat → Nat → Int} {i j : Nat} {A : Nat → Int} (h : j ≠ i) : up2 F i A j = F j := if_neg h
theorem inL_of {v : Int} (h : inI v) : inL v := ⟨by have := h.1; omega, by have := h.2; omega⟩
