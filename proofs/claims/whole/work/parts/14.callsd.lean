/-! calls whose answer and heap are told outright; by how many arguments -/
def kre (r0 : Option Value) (h1 : Nat → Option kC) (n1 : Nat) : kPo := fun r h' n' => r = r0 ∧ h' = h1 ∧ n' = n1
section KD
variable {G : kG} {M M' : kM} {d c0 s0 pc np idx : Nat} {L : List (Option Value)} {st : List Value} {h h1 : Nat → Option kC} {n n1 : Nat} {Post : kPo} {r : Option Value}
theorem eS0 (hm : kMt M' 0) (hst : kWd (.static M'.1)) (hl : kWd (.methodLink M.1.cls idx M'.1)) (hd : decode M.2.1 pc = .ok (.invokestatic idx, 3)) (hav : Nat.ble (lg_sl ([] : List Value)).length M'.2.2.1 = true) (hrm : Nat.ble (st.map fun v => v.category).sum 8 = true) (hC : kCall G M' d 0 0 [] h n (kre r h1 n1)) (kk : kE G M (d + 1) c0 s0 (pc + 3) L (r.toList ++ st) h1 n1 Post) : kE G M (d + 1) c0 s0 pc L (st) h n Post := by
  have h9 := e_callS (L := L) (c2 := c0) (s2 := s0) (st := st) (Post := Post) hm hst hl hd rfl (Nat.le_of_ble_eq_true hav) (Nat.le_of_ble_eq_true hrm) hC (fun r' h' n' hp => by obtain ⟨rfl, rfl, rfl⟩ := hp; exact kk) (stk := st) rfl
  rwa [Nat.zero_add, Nat.zero_add] at h9
theorem eSN0 (hm : kMt M' 0) (hst : kWd (.static M'.1)) {host : String} (hl : Cond.methodLinkNest M.1.cls idx M'.1 host ∈ kNst) (hd : decode M.2.1 pc = .ok (.invokestatic idx, 3)) (hav : Nat.ble (lg_sl ([] : List Value)).length M'.2.2.1 = true) (hrm : Nat.ble (st.map fun v => v.category).sum 8 = true) (hC : kCall G M' d 0 0 [] h n (kre r h1 n1)) (kk : kE G M (d + 1) c0 s0 (pc + 3) L (r.toList ++ st) h1 n1 Post) : kE G M (d + 1) c0 s0 pc L (st) h n Post := by
  have h9 := e_callSN (L := L) (c2 := c0) (s2 := s0) (st := st) (Post := Post) hm hst hl hd rfl (Nat.le_of_ble_eq_true hav) (Nat.le_of_ble_eq_true hrm) hC (fun r' h' n' hp => by obtain ⟨rfl, rfl, rfl⟩ := hp; exact kk) (stk := st) rfl
  rwa [Nat.zero_add, Nat.zero_add] at h9
theorem eV0 (hm : kMt M' 0) (hi : kIn M') (hl : kWd (.methodLink M.1.cls idx M'.1)) (hd : decode M.2.1 pc = .ok (.invokevirtual idx, 3)) {i ci : Nat} {fs : List Value} (he : h i = some (kob ci fs)) (hq : (vwCl[ci]?).map (fun q => q.1) = some M'.1.cls) (hav : Nat.ble (lg_sl (.ref (gB G + i) :: [] : List Value)).length M'.2.2.1 = true) (hrm : Nat.ble (st.map fun v => v.category).sum 8 = true) (hC : kCall G M' d 0 0 (.ref (gB G + i) :: []) h n (kre r h1 n1)) (kk : kE G M (d + 1) c0 s0 (pc + 3) L (r.toList ++ st) h1 n1 Post) : kE G M (d + 1) c0 s0 pc L (.ref (gB G + i) :: st) h n Post := by
  obtain ⟨q, hq1, hq2⟩ := Option.map_eq_some_iff.mp hq
  have h9 := e_callV (L := L) (c2 := c0) (s2 := s0) (st := st) (Post := Post) hm hi hl hd he hq1 hq2.symm rfl (Nat.le_of_ble_eq_true hav) (Nat.le_of_ble_eq_true hrm) hC (fun r' h' n' hp => by obtain ⟨rfl, rfl, rfl⟩ := hp; exact kk) (stk := .ref (gB G + i) :: st) rfl
  rwa [Nat.zero_add, Nat.zero_add] at h9
theorem eV0R {PostC : kPo} (hm : kMt M' 0) (hi : kIn M') (hl : kWd (.methodLink M.1.cls idx M'.1)) (hd : decode M.2.1 pc = .ok (.invokevirtual idx, 3)) {i ci : Nat} {fs : List Value} (he : h i = some (kob ci fs)) (hq : (vwCl[ci]?).map (fun q => q.1) = some M'.1.cls) (hav : Nat.ble (lg_sl (.ref (gB G + i) :: [] : List Value)).length M'.2.2.1 = true) (hrm : Nat.ble (st.map fun v => v.category).sum 8 = true) (hC : kCall G M' d 0 0 (.ref (gB G + i) :: []) h n PostC) (kk : ∀ (r : Option Value) (h' : Nat → Option kC) (n' : Nat), PostC r h' n' → kE G M (d + 1) c0 s0 (pc + 3) L (r.toList ++ st) h' n' Post) : kE G M (d + 1) c0 s0 pc L (.ref (gB G + i) :: st) h n Post := by
  obtain ⟨q, hq1, hq2⟩ := Option.map_eq_some_iff.mp hq
  have h9 := e_callV (L := L) (c2 := c0) (s2 := s0) (st := st) (Post := Post) hm hi hl hd he hq1 hq2.symm rfl (Nat.le_of_ble_eq_true hav) (Nat.le_of_ble_eq_true hrm) hC kk (stk := .ref (gB G + i) :: st) rfl
  rwa [Nat.zero_add, Nat.zero_add] at h9
theorem eS1 {a1 : Value} (hm : kMt M' 1) (hst : kWd (.static M'.1)) (hl : kWd (.methodLink M.1.cls idx M'.1)) (hd : decode M.2.1 pc = .ok (.invokestatic idx, 3)) (hav : Nat.ble (lg_sl ([a1] : List Value)).length M'.2.2.1 = true) (hrm : Nat.ble (st.map fun v => v.category).sum 8 = true) (hC : kCall G M' d 0 0 [a1] h n (kre r h1 n1)) (kk : kE G M (d + 1) c0 s0 (pc + 3) L (r.toList ++ st) h1 n1 Post) : kE G M (d + 1) c0 s0 pc L (a1 :: st) h n Post := by
  have h9 := e_callS (L := L) (c2 := c0) (s2 := s0) (st := st) (Post := Post) hm hst hl hd rfl (Nat.le_of_ble_eq_true hav) (Nat.le_of_ble_eq_true hrm) hC (fun r' h' n' hp => by obtain ⟨rfl, rfl, rfl⟩ := hp; exact kk) (stk := a1 :: st) rfl
  rwa [Nat.zero_add, Nat.zero_add] at h9
theorem eSN1 {a1 : Value} (hm : kMt M' 1) (hst : kWd (.static M'.1)) {host : String} (hl : Cond.methodLinkNest M.1.cls idx M'.1 host ∈ kNst) (hd : decode M.2.1 pc = .ok (.invokestatic idx, 3)) (hav : Nat.ble (lg_sl ([a1] : List Value)).length M'.2.2.1 = true) (hrm : Nat.ble (st.map fun v => v.category).sum 8 = true) (hC : kCall G M' d 0 0 [a1] h n (kre r h1 n1)) (kk : kE G M (d + 1) c0 s0 (pc + 3) L (r.toList ++ st) h1 n1 Post) : kE G M (d + 1) c0 s0 pc L (a1 :: st) h n Post := by
  have h9 := e_callSN (L := L) (c2 := c0) (s2 := s0) (st := st) (Post := Post) hm hst hl hd rfl (Nat.le_of_ble_eq_true hav) (Nat.le_of_ble_eq_true hrm) hC (fun r' h' n' hp => by obtain ⟨rfl, rfl, rfl⟩ := hp; exact kk) (stk := a1 :: st) rfl
  rwa [Nat.zero_add, Nat.zero_add] at h9
theorem eV1 {a1 : Value} (hm : kMt M' 1) (hi : kIn M') (hl : kWd (.methodLink M.1.cls idx M'.1)) (hd : decode M.2.1 pc = .ok (.invokevirtual idx, 3)) {i ci : Nat} {fs : List Value} (he : h i = some (kob ci fs)) (hq : (vwCl[ci]?).map (fun q => q.1) = some M'.1.cls) (hav : Nat.ble (lg_sl (.ref (gB G + i) :: [a1] : List Value)).length M'.2.2.1 = true) (hrm : Nat.ble (st.map fun v => v.category).sum 8 = true) (hC : kCall G M' d 0 0 (.ref (gB G + i) :: [a1]) h n (kre r h1 n1)) (kk : kE G M (d + 1) c0 s0 (pc + 3) L (r.toList ++ st) h1 n1 Post) : kE G M (d + 1) c0 s0 pc L (a1 :: .ref (gB G + i) :: st) h n Post := by
  obtain ⟨q, hq1, hq2⟩ := Option.map_eq_some_iff.mp hq
  have h9 := e_callV (L := L) (c2 := c0) (s2 := s0) (st := st) (Post := Post) hm hi hl hd he hq1 hq2.symm rfl (Nat.le_of_ble_eq_true hav) (Nat.le_of_ble_eq_true hrm) hC (fun r' h' n' hp => by obtain ⟨rfl, rfl, rfl⟩ := hp; exact kk) (stk := a1 :: .ref (gB G + i) :: st) rfl
  rwa [Nat.zero_add, Nat.zero_add] at h9
theorem eV1R {PostC : kPo} {a1 : Value} (hm : kMt M' 1) (hi : kIn M') (hl : kWd (.methodLink M.1.cls idx M'.1)) (hd : decode M.2.1 pc = .ok (.invokevirtual idx, 3)) {i ci : Nat} {fs : List Value} (he : h i = some (kob ci fs)) (hq : (vwCl[ci]?).map (fun q => q.1) = some M'.1.cls) (hav : Nat.ble (lg_sl (.ref (gB G + i) :: [a1] : List Value)).length M'.2.2.1 = true) (hrm : Nat.ble (st.map fun v => v.category).sum 8 = true) (hC : kCall G M' d 0 0 (.ref (gB G + i) :: [a1]) h n PostC) (kk : ∀ (r : Option Value) (h' : Nat → Option kC) (n' : Nat), PostC r h' n' → kE G M (d + 1) c0 s0 (pc + 3) L (r.toList ++ st) h' n' Post) : kE G M (d + 1) c0 s0 pc L (a1 :: .ref (gB G + i) :: st) h n Post := by
  obtain ⟨q, hq1, hq2⟩ := Option.map_eq_some_iff.mp hq
  have h9 := e_callV (L := L) (c2 := c0) (s2 := s0) (st := st) (Post := Post) hm hi hl hd he hq1 hq2.symm rfl (Nat.le_of_ble_eq_true hav) (Nat.le_of_ble_eq_true hrm) hC kk (stk := a1 :: .ref (gB G + i) :: st) rfl
  rwa [Nat.zero_add, Nat.zero_add] at h9
theorem eS2 {a1 a2 : Value} (hm : kMt M' 2) (hst : kWd (.static M'.1)) (hl : kWd (.methodLink M.1.cls idx M'.1)) (hd : decode M.2.1 pc = .ok (.invokestatic idx, 3)) (hav : Nat.ble (lg_sl ([a1, a2] : List Value)).length M'.2.2.1 = true) (hrm : Nat.ble (st.map fun v => v.category).sum 8 = true) (hC : kCall G M' d 0 0 [a1, a2] h n (kre r h1 n1)) (kk : kE G M (d + 1) c0 s0 (pc + 3) L (r.toList ++ st) h1 n1 Post) : kE G M (d + 1) c0 s0 pc L (a2 :: a1 :: st) h n Post := by
  have h9 := e_callS (L := L) (c2 := c0) (s2 := s0) (st := st) (Post := Post) hm hst hl hd rfl (Nat.le_of_ble_eq_true hav) (Nat.le_of_ble_eq_true hrm) hC (fun r' h' n' hp => by obtain ⟨rfl, rfl, rfl⟩ := hp; exact kk) (stk := a2 :: a1 :: st) rfl
  rwa [Nat.zero_add, Nat.zero_add] at h9
theorem eSN2 {a1 a2 : Value} (hm : kMt M' 2) (hst : kWd (.static M'.1)) {host : String} (hl : Cond.methodLinkNest M.1.cls idx M'.1 host ∈ kNst) (hd : decode M.2.1 pc = .ok (.invokestatic idx, 3)) (hav : Nat.ble (lg_sl ([a1, a2] : List Value)).length M'.2.2.1 = true) (hrm : Nat.ble (st.map fun v => v.category).sum 8 = true) (hC : kCall G M' d 0 0 [a1, a2] h n (kre r h1 n1)) (kk : kE G M (d + 1) c0 s0 (pc + 3) L (r.toList ++ st) h1 n1 Post) : kE G M (d + 1) c0 s0 pc L (a2 :: a1 :: st) h n Post := by
  have h9 := e_callSN (L := L) (c2 := c0) (s2 := s0) (st := st) (Post := Post) hm hst hl hd rfl (Nat.le_of_ble_eq_true hav) (Nat.le_of_ble_eq_true hrm) hC (fun r' h' n' hp => by obtain ⟨rfl, rfl, rfl⟩ := hp; exact kk) (stk := a2 :: a1 :: st) rfl
  rwa [Nat.zero_add, Nat.zero_add] at h9
theorem eV2 {a1 a2 : Value} (hm : kMt M' 2) (hi : kIn M') (hl : kWd (.methodLink M.1.cls idx M'.1)) (hd : decode M.2.1 pc = .ok (.invokevirtual idx, 3)) {i ci : Nat} {fs : List Value} (he : h i = some (kob ci fs)) (hq : (vwCl[ci]?).map (fun q => q.1) = some M'.1.cls) (hav : Nat.ble (lg_sl (.ref (gB G + i) :: [a1, a2] : List Value)).length M'.2.2.1 = true) (hrm : Nat.ble (st.map fun v => v.category).sum 8 = true) (hC : kCall G M' d 0 0 (.ref (gB G + i) :: [a1, a2]) h n (kre r h1 n1)) (kk : kE G M (d + 1) c0 s0 (pc + 3) L (r.toList ++ st) h1 n1 Post) : kE G M (d + 1) c0 s0 pc L (a2 :: a1 :: .ref (gB G + i) :: st) h n Post := by
  obtain ⟨q, hq1, hq2⟩ := Option.map_eq_some_iff.mp hq
  have h9 := e_callV (L := L) (c2 := c0) (s2 := s0) (st := st) (Post := Post) hm hi hl hd he hq1 hq2.symm rfl (Nat.le_of_ble_eq_true hav) (Nat.le_of_ble_eq_true hrm) hC (fun r' h' n' hp => by obtain ⟨rfl, rfl, rfl⟩ := hp; exact kk) (stk := a2 :: a1 :: .ref (gB G + i) :: st) rfl
  rwa [Nat.zero_add, Nat.zero_add] at h9
theorem eV2R {PostC : kPo} {a1 a2 : Value} (hm : kMt M' 2) (hi : kIn M') (hl : kWd (.methodLink M.1.cls idx M'.1)) (hd : decode M.2.1 pc = .ok (.invokevirtual idx, 3)) {i ci : Nat} {fs : List Value} (he : h i = some (kob ci fs)) (hq : (vwCl[ci]?).map (fun q => q.1) = some M'.1.cls) (hav : Nat.ble (lg_sl (.ref (gB G + i) :: [a1, a2] : List Value)).length M'.2.2.1 = true) (hrm : Nat.ble (st.map fun v => v.category).sum 8 = true) (hC : kCall G M' d 0 0 (.ref (gB G + i) :: [a1, a2]) h n PostC) (kk : ∀ (r : Option Value) (h' : Nat → Option kC) (n' : Nat), PostC r h' n' → kE G M (d + 1) c0 s0 (pc + 3) L (r.toList ++ st) h' n' Post) : kE G M (d + 1) c0 s0 pc L (a2 :: a1 :: .ref (gB G + i) :: st) h n Post := by
  obtain ⟨q, hq1, hq2⟩ := Option.map_eq_some_iff.mp hq
  have h9 := e_callV (L := L) (c2 := c0) (s2 := s0) (st := st) (Post := Post) hm hi hl hd he hq1 hq2.symm rfl (Nat.le_of_ble_eq_true hav) (Nat.le_of_ble_eq_true hrm) hC kk (stk := a2 :: a1 :: .ref (gB G + i) :: st) rfl
  rwa [Nat.zero_add, Nat.zero_add] at h9
theorem eS3 {a1 a2 a3 : Value} (hm : kMt M' 3) (hst : kWd (.static M'.1)) (hl : kWd (.methodLink M.1.cls idx M'.1)) (hd : decode M.2.1 pc = .ok (.invokestatic idx, 3)) (hav : Nat.ble (lg_sl ([a1, a2, a3] : List Value)).length M'.2.2.1 = true) (hrm : Nat.ble (st.map fun v => v.category).sum 8 = true) (hC : kCall G M' d 0 0 [a1, a2, a3] h n (kre r h1 n1)) (kk : kE G M (d + 1) c0 s0 (pc + 3) L (r.toList ++ st) h1 n1 Post) : kE G M (d + 1) c0 s0 pc L (a3 :: a2 :: a1 :: st) h n Post := by
  have h9 := e_callS (L := L) (c2 := c0) (s2 := s0) (st := st) (Post := Post) hm hst hl hd rfl (Nat.le_of_ble_eq_true hav) (Nat.le_of_ble_eq_true hrm) hC (fun r' h' n' hp => by obtain ⟨rfl, rfl, rfl⟩ := hp; exact kk) (stk := a3 :: a2 :: a1 :: st) rfl
  rwa [Nat.zero_add, Nat.zero_add] at h9
theorem eSN3 {a1 a2 a3 : Value} (hm : kMt M' 3) (hst : kWd (.static M'.1)) {host : String} (hl : Cond.methodLinkNest M.1.cls idx M'.1 host ∈ kNst) (hd : decode M.2.1 pc = .ok (.invokestatic idx, 3)) (hav : Nat.ble (lg_sl ([a1, a2, a3] : List Value)).length M'.2.2.1 = true) (hrm : Nat.ble (st.map fun v => v.category).sum 8 = true) (hC : kCall G M' d 0 0 [a1, a2, a3] h n (kre r h1 n1)) (kk : kE G M (d + 1) c0 s0 (pc + 3) L (r.toList ++ st) h1 n1 Post) : kE G M (d + 1) c0 s0 pc L (a3 :: a2 :: a1 :: st) h n Post := by
  have h9 := e_callSN (L := L) (c2 := c0) (s2 := s0) (st := st) (Post := Post) hm hst hl hd rfl (Nat.le_of_ble_eq_true hav) (Nat.le_of_ble_eq_true hrm) hC (fun r' h' n' hp => by obtain ⟨rfl, rfl, rfl⟩ := hp; exact kk) (stk := a3 :: a2 :: a1 :: st) rfl
  rwa [Nat.zero_add, Nat.zero_add] at h9
theorem eV3 {a1 a2 a3 : Value} (hm : kMt M' 3) (hi : kIn M') (hl : kWd (.methodLink M.1.cls idx M'.1)) (hd : decode M.2.1 pc = .ok (.invokevirtual idx, 3)) {i ci : Nat} {fs : List Value} (he : h i = some (kob ci fs)) (hq : (vwCl[ci]?).map (fun q => q.1) = some M'.1.cls) (hav : Nat.ble (lg_sl (.ref (gB G + i) :: [a1, a2, a3] : List Value)).length M'.2.2.1 = true) (hrm : Nat.ble (st.map fun v => v.category).sum 8 = true) (hC : kCall G M' d 0 0 (.ref (gB G + i) :: [a1, a2, a3]) h n (kre r h1 n1)) (kk : kE G M (d + 1) c0 s0 (pc + 3) L (r.toList ++ st) h1 n1 Post) : kE G M (d + 1) c0 s0 pc L (a3 :: a2 :: a1 :: .ref (gB G + i) :: st) h n Post := by
  obtain ⟨q, hq1, hq2⟩ := Option.map_eq_some_iff.mp hq
  have h9 := e_callV (L := L) (c2 := c0) (s2 := s0) (st := st) (Post := Post) hm hi hl hd he hq1 hq2.symm rfl (Nat.le_of_ble_eq_true hav) (Nat.le_of_ble_eq_true hrm) hC (fun r' h' n' hp => by obtain ⟨rfl, rfl, rfl⟩ := hp; exact kk) (stk := a3 :: a2 :: a1 :: .ref (gB G + i) :: st) rfl
  rwa [Nat.zero_add, Nat.zero_add] at h9
theorem eV3R {PostC : kPo} {a1 a2 a3 : Value} (hm : kMt M' 3) (hi : kIn M') (hl : kWd (.methodLink M.1.cls idx M'.1)) (hd : decode M.2.1 pc = .ok (.invokevirtual idx, 3)) {i ci : Nat} {fs : List Value} (he : h i = some (kob ci fs)) (hq : (vwCl[ci]?).map (fun q => q.1) = some M'.1.cls) (hav : Nat.ble (lg_sl (.ref (gB G + i) :: [a1, a2, a3] : List Value)).length M'.2.2.1 = true) (hrm : Nat.ble (st.map fun v => v.category).sum 8 = true) (hC : kCall G M' d 0 0 (.ref (gB G + i) :: [a1, a2, a3]) h n PostC) (kk : ∀ (r : Option Value) (h' : Nat → Option kC) (n' : Nat), PostC r h' n' → kE G M (d + 1) c0 s0 (pc + 3) L (r.toList ++ st) h' n' Post) : kE G M (d + 1) c0 s0 pc L (a3 :: a2 :: a1 :: .ref (gB G + i) :: st) h n Post := by
  obtain ⟨q, hq1, hq2⟩ := Option.map_eq_some_iff.mp hq
  have h9 := e_callV (L := L) (c2 := c0) (s2 := s0) (st := st) (Post := Post) hm hi hl hd he hq1 hq2.symm rfl (Nat.le_of_ble_eq_true hav) (Nat.le_of_ble_eq_true hrm) hC kk (stk := a3 :: a2 :: a1 :: .ref (gB G + i) :: st) rfl
  rwa [Nat.zero_add, Nat.zero_add] at h9
theorem eS4 {a1 a2 a3 a4 : Value} (hm : kMt M' 4) (hst : kWd (.static M'.1)) (hl : kWd (.methodLink M.1.cls idx M'.1)) (hd : decode M.2.1 pc = .ok (.invokestatic idx, 3)) (hav : Nat.ble (lg_sl ([a1, a2, a3, a4] : List Value)).length M'.2.2.1 = true) (hrm : Nat.ble (st.map fun v => v.category).sum 8 = true) (hC : kCall G M' d 0 0 [a1, a2, a3, a4] h n (kre r h1 n1)) (kk : kE G M (d + 1) c0 s0 (pc + 3) L (r.toList ++ st) h1 n1 Post) : kE G M (d + 1) c0 s0 pc L (a4 :: a3 :: a2 :: a1 :: st) h n Post := by
  have h9 := e_callS (L := L) (c2 := c0) (s2 := s0) (st := st) (Post := Post) hm hst hl hd rfl (Nat.le_of_ble_eq_true hav) (Nat.le_of_ble_eq_true hrm) hC (fun r' h' n' hp => by obtain ⟨rfl, rfl, rfl⟩ := hp; exact kk) (stk := a4 :: a3 :: a2 :: a1 :: st) rfl
  rwa [Nat.zero_add, Nat.zero_add] at h9
theorem eV4 {a1 a2 a3 a4 : Value} (hm : kMt M' 4) (hi : kIn M') (hl : kWd (.methodLink M.1.cls idx M'.1)) (hd : decode M.2.1 pc = .ok (.invokevirtual idx, 3)) {i ci : Nat} {fs : List Value} (he : h i = some (kob ci fs)) (hq : (vwCl[ci]?).map (fun q => q.1) = some M'.1.cls) (hav : Nat.ble (lg_sl (.ref (gB G + i) :: [a1, a2, a3, a4] : List Value)).length M'.2.2.1 = true) (hrm : Nat.ble (st.map fun v => v.category).sum 8 = true) (hC : kCall G M' d 0 0 (.ref (gB G + i) :: [a1, a2, a3, a4]) h n (kre r h1 n1)) (kk : kE G M (d + 1) c0 s0 (pc + 3) L (r.toList ++ st) h1 n1 Post) : kE G M (d + 1) c0 s0 pc L (a4 :: a3 :: a2 :: a1 :: .ref (gB G + i) :: st) h n Post := by
  obtain ⟨q, hq1, hq2⟩ := Option.map_eq_some_iff.mp hq
  have h9 := e_callV (L := L) (c2 := c0) (s2 := s0) (st := st) (Post := Post) hm hi hl hd he hq1 hq2.symm rfl (Nat.le_of_ble_eq_true hav) (Nat.le_of_ble_eq_true hrm) hC (fun r' h' n' hp => by obtain ⟨rfl, rfl, rfl⟩ := hp; exact kk) (stk := a4 :: a3 :: a2 :: a1 :: .ref (gB G + i) :: st) rfl
  rwa [Nat.zero_add, Nat.zero_add] at h9
theorem eV4R {PostC : kPo} {a1 a2 a3 a4 : Value} (hm : kMt M' 4) (hi : kIn M') (hl : kWd (.methodLink M.1.cls idx M'.1)) (hd : decode M.2.1 pc = .ok (.invokevirtual idx, 3)) {i ci : Nat} {fs : List Value} (he : h i = some (kob ci fs)) (hq : (vwCl[ci]?).map (fun q => q.1) = some M'.1.cls) (hav : Nat.ble (lg_sl (.ref (gB G + i) :: [a1, a2, a3, a4] : List Value)).length M'.2.2.1 = true) (hrm : Nat.ble (st.map fun v => v.category).sum 8 = true) (hC : kCall G M' d 0 0 (.ref (gB G + i) :: [a1, a2, a3, a4]) h n PostC) (kk : ∀ (r : Option Value) (h' : Nat → Option kC) (n' : Nat), PostC r h' n' → kE G M (d + 1) c0 s0 (pc + 3) L (r.toList ++ st) h' n' Post) : kE G M (d + 1) c0 s0 pc L (a4 :: a3 :: a2 :: a1 :: .ref (gB G + i) :: st) h n Post := by
  obtain ⟨q, hq1, hq2⟩ := Option.map_eq_some_iff.mp hq
  have h9 := e_callV (L := L) (c2 := c0) (s2 := s0) (st := st) (Post := Post) hm hi hl hd he hq1 hq2.symm rfl (Nat.le_of_ble_eq_true hav) (Nat.le_of_ble_eq_true hrm) hC kk (stk := a4 :: a3 :: a2 :: a1 :: .ref (gB G + i) :: st) rfl
  rwa [Nat.zero_add, Nat.zero_add] at h9
theorem eS5 {a1 a2 a3 a4 a5 : Value} (hm : kMt M' 5) (hst : kWd (.static M'.1)) (hl : kWd (.methodLink M.1.cls idx M'.1)) (hd : decode M.2.1 pc = .ok (.invokestatic idx, 3)) (hav : Nat.ble (lg_sl ([a1, a2, a3, a4, a5] : List Value)).length M'.2.2.1 = true) (hrm : Nat.ble (st.map fun v => v.category).sum 8 = true) (hC : kCall G M' d 0 0 [a1, a2, a3, a4, a5] h n (kre r h1 n1)) (kk : kE G M (d + 1) c0 s0 (pc + 3) L (r.toList ++ st) h1 n1 Post) : kE G M (d + 1) c0 s0 pc L (a5 :: a4 :: a3 :: a2 :: a1 :: st) h n Post := by
  have h9 := e_callS (L := L) (c2 := c0) (s2 := s0) (st := st) (Post := Post) hm hst hl hd rfl (Nat.le_of_ble_eq_true hav) (Nat.le_of_ble_eq_true hrm) hC (fun r' h' n' hp => by obtain ⟨rfl, rfl, rfl⟩ := hp; exact kk) (stk := a5 :: a4 :: a3 :: a2 :: a1 :: st) rfl
  rwa [Nat.zero_add, Nat.zero_add] at h9
theorem eV5 {a1 a2 a3 a4 a5 : Value} (hm : kMt M' 5) (hi : kIn M') (hl : kWd (.methodLink M.1.cls idx M'.1)) (hd : decode M.2.1 pc = .ok (.invokevirtual idx, 3)) {i ci : Nat} {fs : List Value} (he : h i = some (kob ci fs)) (hq : (vwCl[ci]?).map (fun q => q.1) = some M'.1.cls) (hav : Nat.ble (lg_sl (.ref (gB G + i) :: [a1, a2, a3, a4, a5] : List Value)).length M'.2.2.1 = true) (hrm : Nat.ble (st.map fun v => v.category).sum 8 = true) (hC : kCall G M' d 0 0 (.ref (gB G + i) :: [a1, a2, a3, a4, a5]) h n (kre r h1 n1)) (kk : kE G M (d + 1) c0 s0 (pc + 3) L (r.toList ++ st) h1 n1 Post) : kE G M (d + 1) c0 s0 pc L (a5 :: a4 :: a3 :: a2 :: a1 :: .ref (gB G + i) :: st) h n Post := by
  obtain ⟨q, hq1, hq2⟩ := Option.map_eq_some_iff.mp hq
  have h9 := e_callV (L := L) (c2 := c0) (s2 := s0) (st := st) (Post := Post) hm hi hl hd he hq1 hq2.symm rfl (Nat.le_of_ble_eq_true hav) (Nat.le_of_ble_eq_true hrm) hC (fun r' h' n' hp => by obtain ⟨rfl, rfl, rfl⟩ := hp; exact kk) (stk := a5 :: a4 :: a3 :: a2 :: a1 :: .ref (gB G + i) :: st) rfl
  rwa [Nat.zero_add, Nat.zero_add] at h9
theorem eV5R {PostC : kPo} {a1 a2 a3 a4 a5 : Value} (hm : kMt M' 5) (hi : kIn M') (hl : kWd (.methodLink M.1.cls idx M'.1)) (hd : decode M.2.1 pc = .ok (.invokevirtual idx, 3)) {i ci : Nat} {fs : List Value} (he : h i = some (kob ci fs)) (hq : (vwCl[ci]?).map (fun q => q.1) = some M'.1.cls) (hav : Nat.ble (lg_sl (.ref (gB G + i) :: [a1, a2, a3, a4, a5] : List Value)).length M'.2.2.1 = true) (hrm : Nat.ble (st.map fun v => v.category).sum 8 = true) (hC : kCall G M' d 0 0 (.ref (gB G + i) :: [a1, a2, a3, a4, a5]) h n PostC) (kk : ∀ (r : Option Value) (h' : Nat → Option kC) (n' : Nat), PostC r h' n' → kE G M (d + 1) c0 s0 (pc + 3) L (r.toList ++ st) h' n' Post) : kE G M (d + 1) c0 s0 pc L (a5 :: a4 :: a3 :: a2 :: a1 :: .ref (gB G + i) :: st) h n Post := by
  obtain ⟨q, hq1, hq2⟩ := Option.map_eq_some_iff.mp hq
  have h9 := e_callV (L := L) (c2 := c0) (s2 := s0) (st := st) (Post := Post) hm hi hl hd he hq1 hq2.symm rfl (Nat.le_of_ble_eq_true hav) (Nat.le_of_ble_eq_true hrm) hC kk (stk := a5 :: a4 :: a3 :: a2 :: a1 :: .ref (gB G + i) :: st) rfl
  rwa [Nat.zero_add, Nat.zero_add] at h9
theorem eS6 {a1 a2 a3 a4 a5 a6 : Value} (hm : kMt M' 6) (hst : kWd (.static M'.1)) (hl : kWd (.methodLink M.1.cls idx M'.1)) (hd : decode M.2.1 pc = .ok (.invokestatic idx, 3)) (hav : Nat.ble (lg_sl ([a1, a2, a3, a4, a5, a6] : List Value)).length M'.2.2.1 = true) (hrm : Nat.ble (st.map fun v => v.category).sum 8 = true) (hC : kCall G M' d 0 0 [a1, a2, a3, a4, a5, a6] h n (kre r h1 n1)) (kk : kE G M (d + 1) c0 s0 (pc + 3) L (r.toList ++ st) h1 n1 Post) : kE G M (d + 1) c0 s0 pc L (a6 :: a5 :: a4 :: a3 :: a2 :: a1 :: st) h n Post := by
  have h9 := e_callS (L := L) (c2 := c0) (s2 := s0) (st := st) (Post := Post) hm hst hl hd rfl (Nat.le_of_ble_eq_true hav) (Nat.le_of_ble_eq_true hrm) hC (fun r' h' n' hp => by obtain ⟨rfl, rfl, rfl⟩ := hp; exact kk) (stk := a6 :: a5 :: a4 :: a3 :: a2 :: a1 :: st) rfl
  rwa [Nat.zero_add, Nat.zero_add] at h9
theorem eV6 {a1 a2 a3 a4 a5 a6 : Value} (hm : kMt M' 6) (hi : kIn M') (hl : kWd (.methodLink M.1.cls idx M'.1)) (hd : decode M.2.1 pc = .ok (.invokevirtual idx, 3)) {i ci : Nat} {fs : List Value} (he : h i = some (kob ci fs)) (hq : (vwCl[ci]?).map (fun q => q.1) = some M'.1.cls) (hav : Nat.ble (lg_sl (.ref (gB G + i) :: [a1, a2, a3, a4, a5, a6] : List Value)).length M'.2.2.1 = true) (hrm : Nat.ble (st.map fun v => v.category).sum 8 = true) (hC : kCall G M' d 0 0 (.ref (gB G + i) :: [a1, a2, a3, a4, a5, a6]) h n (kre r h1 n1)) (kk : kE G M (d + 1) c0 s0 (pc + 3) L (r.toList ++ st) h1 n1 Post) : kE G M (d + 1) c0 s0 pc L (a6 :: a5 :: a4 :: a3 :: a2 :: a1 :: .ref (gB G + i) :: st) h n Post := by
  obtain ⟨q, hq1, hq2⟩ := Option.map_eq_some_iff.mp hq
  have h9 := e_callV (L := L) (c2 := c0) (s2 := s0) (st := st) (Post := Post) hm hi hl hd he hq1 hq2.symm rfl (Nat.le_of_ble_eq_true hav) (Nat.le_of_ble_eq_true hrm) hC (fun r' h' n' hp => by obtain ⟨rfl, rfl, rfl⟩ := hp; exact kk) (stk := a6 :: a5 :: a4 :: a3 :: a2 :: a1 :: .ref (gB G + i) :: st) rfl
  rwa [Nat.zero_add, Nat.zero_add] at h9
theorem eV6R {PostC : kPo} {a1 a2 a3 a4 a5 a6 : Value} (hm : kMt M' 6) (hi : kIn M') (hl : kWd (.methodLink M.1.cls idx M'.1)) (hd : decode M.2.1 pc = .ok (.invokevirtual idx, 3)) {i ci : Nat} {fs : List Value} (he : h i = some (kob ci fs)) (hq : (vwCl[ci]?).map (fun q => q.1) = some M'.1.cls) (hav : Nat.ble (lg_sl (.ref (gB G + i) :: [a1, a2, a3, a4, a5, a6] : List Value)).length M'.2.2.1 = true) (hrm : Nat.ble (st.map fun v => v.category).sum 8 = true) (hC : kCall G M' d 0 0 (.ref (gB G + i) :: [a1, a2, a3, a4, a5, a6]) h n PostC) (kk : ∀ (r : Option Value) (h' : Nat → Option kC) (n' : Nat), PostC r h' n' → kE G M (d + 1) c0 s0 (pc + 3) L (r.toList ++ st) h' n' Post) : kE G M (d + 1) c0 s0 pc L (a6 :: a5 :: a4 :: a3 :: a2 :: a1 :: .ref (gB G + i) :: st) h n Post := by
  obtain ⟨q, hq1, hq2⟩ := Option.map_eq_some_iff.mp hq
  have h9 := e_callV (L := L) (c2 := c0) (s2 := s0) (st := st) (Post := Post) hm hi hl hd he hq1 hq2.symm rfl (Nat.le_of_ble_eq_true hav) (Nat.le_of_ble_eq_true hrm) hC kk (stk := a6 :: a5 :: a4 :: a3 :: a2 :: a1 :: .ref (gB G + i) :: st) rfl
  rwa [Nat.zero_add, Nat.zero_add] at h9
theorem eS7 {a1 a2 a3 a4 a5 a6 a7 : Value} (hm : kMt M' 7) (hst : kWd (.static M'.1)) (hl : kWd (.methodLink M.1.cls idx M'.1)) (hd : decode M.2.1 pc = .ok (.invokestatic idx, 3)) (hav : Nat.ble (lg_sl ([a1, a2, a3, a4, a5, a6, a7] : List Value)).length M'.2.2.1 = true) (hrm : Nat.ble (st.map fun v => v.category).sum 8 = true) (hC : kCall G M' d 0 0 [a1, a2, a3, a4, a5, a6, a7] h n (kre r h1 n1)) (kk : kE G M (d + 1) c0 s0 (pc + 3) L (r.toList ++ st) h1 n1 Post) : kE G M (d + 1) c0 s0 pc L (a7 :: a6 :: a5 :: a4 :: a3 :: a2 :: a1 :: st) h n Post := by
  have h9 := e_callS (L := L) (c2 := c0) (s2 := s0) (st := st) (Post := Post) hm hst hl hd rfl (Nat.le_of_ble_eq_true hav) (Nat.le_of_ble_eq_true hrm) hC (fun r' h' n' hp => by obtain ⟨rfl, rfl, rfl⟩ := hp; exact kk) (stk := a7 :: a6 :: a5 :: a4 :: a3 :: a2 :: a1 :: st) rfl
  rwa [Nat.zero_add, Nat.zero_add] at h9
theorem eV7 {a1 a2 a3 a4 a5 a6 a7 : Value} (hm : kMt M' 7) (hi : kIn M') (hl : kWd (.methodLink M.1.cls idx M'.1)) (hd : decode M.2.1 pc = .ok (.invokevirtual idx, 3)) {i ci : Nat} {fs : List Value} (he : h i = some (kob ci fs)) (hq : (vwCl[ci]?).map (fun q => q.1) = some M'.1.cls) (hav : Nat.ble (lg_sl (.ref (gB G + i) :: [a1, a2, a3, a4, a5, a6, a7] : List Value)).length M'.2.2.1 = true) (hrm : Nat.ble (st.map fun v => v.category).sum 8 = true) (hC : kCall G M' d 0 0 (.ref (gB G + i) :: [a1, a2, a3, a4, a5, a6, a7]) h n (kre r h1 n1)) (kk : kE G M (d + 1) c0 s0 (pc + 3) L (r.toList ++ st) h1 n1 Post) : kE G M (d + 1) c0 s0 pc L (a7 :: a6 :: a5 :: a4 :: a3 :: a2 :: a1 :: .ref (gB G + i) :: st) h n Post := by
  obtain ⟨q, hq1, hq2⟩ := Option.map_eq_some_iff.mp hq
  have h9 := e_callV (L := L) (c2 := c0) (s2 := s0) (st := st) (Post := Post) hm hi hl hd he hq1 hq2.symm rfl (Nat.le_of_ble_eq_true hav) (Nat.le_of_ble_eq_true hrm) hC (fun r' h' n' hp => by obtain ⟨rfl, rfl, rfl⟩ := hp; exact kk) (stk := a7 :: a6 :: a5 :: a4 :: a3 :: a2 :: a1 :: .ref (gB G + i) :: st) rfl
  rwa [Nat.zero_add, Nat.zero_add] at h9
theorem eV7R {PostC : kPo} {a1 a2 a3 a4 a5 a6 a7 : Value} (hm : kMt M' 7) (hi : kIn M') (hl : kWd (.methodLink M.1.cls idx M'.1)) (hd : decode M.2.1 pc = .ok (.invokevirtual idx, 3)) {i ci : Nat} {fs : List Value} (he : h i = some (kob ci fs)) (hq : (vwCl[ci]?).map (fun q => q.1) = some M'.1.cls) (hav : Nat.ble (lg_sl (.ref (gB G + i) :: [a1, a2, a3, a4, a5, a6, a7] : List Value)).length M'.2.2.1 = true) (hrm : Nat.ble (st.map fun v => v.category).sum 8 = true) (hC : kCall G M' d 0 0 (.ref (gB G + i) :: [a1, a2, a3, a4, a5, a6, a7]) h n PostC) (kk : ∀ (r : Option Value) (h' : Nat → Option kC) (n' : Nat), PostC r h' n' → kE G M (d + 1) c0 s0 (pc + 3) L (r.toList ++ st) h' n' Post) : kE G M (d + 1) c0 s0 pc L (a7 :: a6 :: a5 :: a4 :: a3 :: a2 :: a1 :: .ref (gB G + i) :: st) h n Post := by
  obtain ⟨q, hq1, hq2⟩ := Option.map_eq_some_iff.mp hq
  have h9 := e_callV (L := L) (c2 := c0) (s2 := s0) (st := st) (Post := Post) hm hi hl hd he hq1 hq2.symm rfl (Nat.le_of_ble_eq_true hav) (Nat.le_of_ble_eq_true hrm) hC kk (stk := a7 :: a6 :: a5 :: a4 :: a3 :: a2 :: a1 :: .ref (gB G + i) :: st) rfl
  rwa [Nat.zero_add, Nat.zero_add] at h9
theorem eS8 {a1 a2 a3 a4 a5 a6 a7 a8 : Value} (hm : kMt M' 8) (hst : kWd (.static M'.1)) (hl : kWd (.methodLink M.1.cls idx M'.1)) (hd : decode M.2.1 pc = .ok (.invokestatic idx, 3)) (hav : Nat.ble (lg_sl ([a1, a2, a3, a4, a5, a6, a7, a8] : List Value)).length M'.2.2.1 = true) (hrm : Nat.ble (st.map fun v => v.category).sum 8 = true) (hC : kCall G M' d 0 0 [a1, a2, a3, a4, a5, a6, a7, a8] h n (kre r h1 n1)) (kk : kE G M (d + 1) c0 s0 (pc + 3) L (r.toList ++ st) h1 n1 Post) : kE G M (d + 1) c0 s0 pc L (a8 :: a7 :: a6 :: a5 :: a4 :: a3 :: a2 :: a1 :: st) h n Post := by
  have h9 := e_callS (L := L) (c2 := c0) (s2 := s0) (st := st) (Post := Post) hm hst hl hd rfl (Nat.le_of_ble_eq_true hav) (Nat.le_of_ble_eq_true hrm) hC (fun r' h' n' hp => by obtain ⟨rfl, rfl, rfl⟩ := hp; exact kk) (stk := a8 :: a7 :: a6 :: a5 :: a4 :: a3 :: a2 :: a1 :: st) rfl
  rwa [Nat.zero_add, Nat.zero_add] at h9
theorem eV8 {a1 a2 a3 a4 a5 a6 a7 a8 : Value} (hm : kMt M' 8) (hi : kIn M') (hl : kWd (.methodLink M.1.cls idx M'.1)) (hd : decode M.2.1 pc = .ok (.invokevirtual idx, 3)) {i ci : Nat} {fs : List Value} (he : h i = some (kob ci fs)) (hq : (vwCl[ci]?).map (fun q => q.1) = some M'.1.cls) (hav : Nat.ble (lg_sl (.ref (gB G + i) :: [a1, a2, a3, a4, a5, a6, a7, a8] : List Value)).length M'.2.2.1 = true) (hrm : Nat.ble (st.map fun v => v.category).sum 8 = true) (hC : kCall G M' d 0 0 (.ref (gB G + i) :: [a1, a2, a3, a4, a5, a6, a7, a8]) h n (kre r h1 n1)) (kk : kE G M (d + 1) c0 s0 (pc + 3) L (r.toList ++ st) h1 n1 Post) : kE G M (d + 1) c0 s0 pc L (a8 :: a7 :: a6 :: a5 :: a4 :: a3 :: a2 :: a1 :: .ref (gB G + i) :: st) h n Post := by
  obtain ⟨q, hq1, hq2⟩ := Option.map_eq_some_iff.mp hq
  have h9 := e_callV (L := L) (c2 := c0) (s2 := s0) (st := st) (Post := Post) hm hi hl hd he hq1 hq2.symm rfl (Nat.le_of_ble_eq_true hav) (Nat.le_of_ble_eq_true hrm) hC (fun r' h' n' hp => by obtain ⟨rfl, rfl, rfl⟩ := hp; exact kk) (stk := a8 :: a7 :: a6 :: a5 :: a4 :: a3 :: a2 :: a1 :: .ref (gB G + i) :: st) rfl
  rwa [Nat.zero_add, Nat.zero_add] at h9
theorem eV8R {PostC : kPo} {a1 a2 a3 a4 a5 a6 a7 a8 : Value} (hm : kMt M' 8) (hi : kIn M') (hl : kWd (.methodLink M.1.cls idx M'.1)) (hd : decode M.2.1 pc = .ok (.invokevirtual idx, 3)) {i ci : Nat} {fs : List Value} (he : h i = some (kob ci fs)) (hq : (vwCl[ci]?).map (fun q => q.1) = some M'.1.cls) (hav : Nat.ble (lg_sl (.ref (gB G + i) :: [a1, a2, a3, a4, a5, a6, a7, a8] : List Value)).length M'.2.2.1 = true) (hrm : Nat.ble (st.map fun v => v.category).sum 8 = true) (hC : kCall G M' d 0 0 (.ref (gB G + i) :: [a1, a2, a3, a4, a5, a6, a7, a8]) h n PostC) (kk : ∀ (r : Option Value) (h' : Nat → Option kC) (n' : Nat), PostC r h' n' → kE G M (d + 1) c0 s0 (pc + 3) L (r.toList ++ st) h' n' Post) : kE G M (d + 1) c0 s0 pc L (a8 :: a7 :: a6 :: a5 :: a4 :: a3 :: a2 :: a1 :: .ref (gB G + i) :: st) h n Post := by
  obtain ⟨q, hq1, hq2⟩ := Option.map_eq_some_iff.mp hq
  have h9 := e_callV (L := L) (c2 := c0) (s2 := s0) (st := st) (Post := Post) hm hi hl hd he hq1 hq2.symm rfl (Nat.le_of_ble_eq_true hav) (Nat.le_of_ble_eq_true hrm) hC kk (stk := a8 :: a7 :: a6 :: a5 :: a4 :: a3 :: a2 :: a1 :: .ref (gB G + i) :: st) rfl
  rwa [Nat.zero_add, Nat.zero_add] at h9
theorem eS9 {a1 a2 a3 a4 a5 a6 a7 a8 a9 : Value} (hm : kMt M' 9) (hst : kWd (.static M'.1)) (hl : kWd (.methodLink M.1.cls idx M'.1)) (hd : decode M.2.1 pc = .ok (.invokestatic idx, 3)) (hav : Nat.ble (lg_sl ([a1, a2, a3, a4, a5, a6, a7, a8, a9] : List Value)).length M'.2.2.1 = true) (hrm : Nat.ble (st.map fun v => v.category).sum 8 = true) (hC : kCall G M' d 0 0 [a1, a2, a3, a4, a5, a6, a7, a8, a9] h n (kre r h1 n1)) (kk : kE G M (d + 1) c0 s0 (pc + 3) L (r.toList ++ st) h1 n1 Post) : kE G M (d + 1) c0 s0 pc L (a9 :: a8 :: a7 :: a6 :: a5 :: a4 :: a3 :: a2 :: a1 :: st) h n Post := by
  have h9 := e_callS (L := L) (c2 := c0) (s2 := s0) (st := st) (Post := Post) hm hst hl hd rfl (Nat.le_of_ble_eq_true hav) (Nat.le_of_ble_eq_true hrm) hC (fun r' h' n' hp => by obtain ⟨rfl, rfl, rfl⟩ := hp; exact kk) (stk := a9 :: a8 :: a7 :: a6 :: a5 :: a4 :: a3 :: a2 :: a1 :: st) rfl
  rwa [Nat.zero_add, Nat.zero_add] at h9
theorem e_objInit {i : Nat} (hl : kWd (.methodLink M.1.cls idx Lib.objectInit)) (hd : decode M.2.1 pc = .ok (.invokespecial idx, 3)) (hrm : Nat.ble (st.map fun v => v.category).sum 8 = true) (kk : kE G M (d + 1) c0 s0 (pc + 3) L st h n Post) : kE G M (d + 1) c0 s0 pc L (.ref i :: st) h n Post := by
  intro p l e R s m args below meth c H locs cells slots Q ls X hL hH hS hc hs hr
  obtain ⟨x1, x2, x3, x4, x5, x6, x7, x8, x9⟩ := id X
  have hrm9 := Nat.le_of_ble_eq_true hrm
  exact W.objInit x1 x2 x4 (x6 _ (kWl_in hl)) (x6 _ (kWl_in kx_obj1)) (x6 _ (kWl_in kx_obj2)) rfl (by rw [x3]; exact hL.1) rfl hd (by omega) (by show 2 * 0 + _ + 12 ≤ _; omega) (kk p l e R s m args below meth c H locs cells slots Q ls X hL hH hS hc hs hr)
def kmaxi (a b : Int) : Int := if a < b then b else a
def kmini (a b : Int) : Int := if b < a then b else a
def kabsi (a : Int) : Int := if 0 ≤ a then a else -a
def kmaxl (a b : Int) : Int := if b < a then a else b
def kabsl (a : Int) : Int := if 0 < a then a else -a
theorem e_mmax {a b : Int} (ha : inI a) (hb : inI b) (hl : kWd (.methodLink M.1.cls idx yJ9_max_7cf53)) (hd : decode M.2.1 pc = .ok (.invokestatic idx, 3)) (hrm : Nat.ble (st.map fun v => v.category).sum 8 = true) (kk : kE G M (d + 1) c0 s0 (pc + 3) L (.int (jI (kmaxi a b)) :: st) h n Post) : kE G M (d + 1) c0 s0 pc L (.int (jI b) :: .int (jI a) :: st) h n Post := by
  intro p l e R s m args below meth c H locs cells slots Q ls X hL hH hS hc hs hr
  obtain ⟨x1, x2, x3, x4, x5, x6, x7, x8, x9⟩ := id X
  have hrm9 := Nat.le_of_ble_eq_true hrm
  refine va_mmax x1 x2 (x3.trans hL.1.symm) x4 (x6 _ (kWl_in hl)) (x6 _ (kWl_in msJ9_max_7cf53)) (x6 _ (kWl_in wi_RJ9)) (x6 _ (kWl_in mkJ9_max_7cf53)) (by omega) (by omega) (by omega) (by omega) hd ?_
  have e9 : (if jI a < jI b then jI b else jI a) = jI (kmaxi a b) := by
    unfold kmaxi
    by_cases hq : a < b
    · rw [if_pos hq, if_pos ((jI_lt ha hb).mpr hq)]
    · rw [if_neg hq, if_neg (fun w => hq ((jI_lt ha hb).mp w))]
  rw [e9]
  exact kk p l e R s m args below meth c H locs cells slots Q ls X hL hH hS hc hs hr
theorem e_mmin {a b : Int} (ha : inI a) (hb : inI b) (hl : kWd (.methodLink M.1.cls idx yJ9_min_7cf53)) (hd : decode M.2.1 pc = .ok (.invokestatic idx, 3)) (hrm : Nat.ble (st.map fun v => v.category).sum 8 = true) (kk : kE G M (d + 1) c0 s0 (pc + 3) L (.int (jI (kmini a b)) :: st) h n Post) : kE G M (d + 1) c0 s0 pc L (.int (jI b) :: .int (jI a) :: st) h n Post := by
  intro p l e R s m args below meth c H locs cells slots Q ls X hL hH hS hc hs hr
  obtain ⟨x1, x2, x3, x4, x5, x6, x7, x8, x9⟩ := id X
  have hrm9 := Nat.le_of_ble_eq_true hrm
  refine va_mmin x1 x2 (x3.trans hL.1.symm) x4 (x6 _ (kWl_in hl)) (x6 _ (kWl_in msJ9_min_7cf53)) (x6 _ (kWl_in wi_RJ9)) (x6 _ (kWl_in mkJ9_min_7cf53)) (by omega) (by omega) (by omega) (by omega) hd ?_
  have e9 : (if jI b < jI a then jI b else jI a) = jI (kmini a b) := by
    unfold kmini
    by_cases hq : b < a
    · rw [if_pos hq, if_pos ((jI_lt hb ha).mpr hq)]
    · rw [if_neg hq, if_neg (fun w => hq ((jI_lt hb ha).mp w))]
  rw [e9]
  exact kk p l e R s m args below meth c H locs cells slots Q ls X hL hH hS hc hs hr
theorem e_mabs {a : Int} (ha : inI a) (hl : kWd (.methodLink M.1.cls idx yJ9_abs_0f7a4)) (hd : decode M.2.1 pc = .ok (.invokestatic idx, 3)) (hrm : Nat.ble (st.map fun v => v.category).sum 8 = true) (kk : kE G M (d + 1) c0 s0 (pc + 3) L (.int (jI (kabsi a)) :: st) h n Post) : kE G M (d + 1) c0 s0 pc L (.int (jI a) :: st) h n Post := by
  intro p l e R s m args below meth c H locs cells slots Q ls X hL hH hS hc hs hr
  obtain ⟨x1, x2, x3, x4, x5, x6, x7, x8, x9⟩ := id X
  have hrm9 := Nat.le_of_ble_eq_true hrm
  refine va_mabs x1 x2 (x3.trans hL.1.symm) x4 (x6 _ (kWl_in hl)) (x6 _ (kWl_in msJ9_abs_0f7a4)) (x6 _ (kWl_in wi_RJ9)) (x6 _ (kWl_in mkJ9_abs_0f7a4)) (by omega) (by omega) (by omega) (by omega) hd ?_
  have h0 : inI 0 := ⟨by decide, by decide⟩
  have e9 : (if 0 ≤ jI a then jI a else 0 - jI a) = jI (kabsi a) := by
    unfold kabsi
    rw [← jI_0, jI_sub]
    by_cases hq : 0 ≤ a
    · rw [if_pos hq, if_pos ((jI_le h0 ha).mpr hq)]
    · rw [if_neg hq, if_neg (fun w => hq ((jI_le h0 ha).mp w)), Int.zero_sub]
  rw [e9]
  exact kk p l e R s m args below meth c H locs cells slots Q ls X hL hH hS hc hs hr
theorem e_mmaxl {a b : Int} (ha : inL a) (hb : inL b) (hl : kWd (.methodLink M.1.cls idx yJ9_max_f86c9)) (hd : decode M.2.1 pc = .ok (.invokestatic idx, 3)) (hrm : Nat.ble (st.map fun v => v.category).sum 8 = true) (kk : kE G M (d + 1) c0 s0 (pc + 3) L (.long (jL (kmaxl a b)) :: st) h n Post) : kE G M (d + 1) c0 s0 pc L (.long (jL b) :: .long (jL a) :: st) h n Post := by
  intro p l e R s m args below meth c H locs cells slots Q ls X hL hH hS hc hs hr
  obtain ⟨x1, x2, x3, x4, x5, x6, x7, x8, x9⟩ := id X
  have hrm9 := Nat.le_of_ble_eq_true hrm
  refine va_mmax_long x1 x2 (x3.trans hL.1.symm) x4 (x6 _ (kWl_in hl)) (x6 _ (kWl_in msJ9_max_f86c9)) (x6 _ (kWl_in wi_RJ9)) (x6 _ (kWl_in mkJ9_max_f86c9)) (by omega) (by omega) (by omega) (by omega) hd ?_
  have e9 : (if jL b < jL a then jL a else jL b) = jL (kmaxl a b) := by
    unfold kmaxl
    by_cases hq : b < a
    · rw [if_pos hq, if_pos ((jL_lt hb ha).mpr hq)]
    · rw [if_neg hq, if_neg (fun w => hq ((jL_lt hb ha).mp w))]
  rw [e9]
  exact kk p l e R s m args below meth c H locs cells slots Q ls X hL hH hS hc hs hr
theorem e_mabsl {a : Int} (ha : inL a) (hl : kWd (.methodLink M.1.cls idx yJ9_abs_067f4)) (hd : decode M.2.1 pc = .ok (.invokestatic idx, 3)) (hrm : Nat.ble (st.map fun v => v.category).sum 8 = true) (kk : kE G M (d + 1) c0 s0 (pc + 3) L (.long (jL (kabsl a)) :: st) h n Post) : kE G M (d + 1) c0 s0 pc L (.long (jL a) :: st) h n Post := by
  intro p l e R s m args below meth c H locs cells slots Q ls X hL hH hS hc hs hr
  obtain ⟨x1, x2, x3, x4, x5, x6, x7, x8, x9⟩ := id X
  have hrm9 := Nat.le_of_ble_eq_true hrm
  refine va_mabs_long x1 x2 (x3.trans hL.1.symm) x4 (x6 _ (kWl_in hl)) (x6 _ (kWl_in msJ9_abs_067f4)) (x6 _ (kWl_in wi_RJ9)) (x6 _ (kWl_in mkJ9_abs_067f4)) (by omega) (by omega) (by omega) (by omega) hd ?_
  have h0 : inL 0 := ⟨by decide, by decide⟩
  have e9 : (if 0 < jL a then jL a else -jL a) = jL (kabsl a) := by
    unfold kabsl
    rw [← jL_0, jL_neg]
    by_cases hq : 0 < a
    · rw [if_pos hq, if_pos ((jL_lt h0 ha).mpr hq)]
    · rw [if_neg hq, if_neg (fun w => hq ((jL_lt h0 ha).mp w))]
  rw [e9]
  exact kk p l e R s m args below meth c H locs cells slots Q ls X hL hH hS hc hs hr
end KD
