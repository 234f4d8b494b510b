/-! fields, arrays, new cells -/
def kia (N : Nat) (F : Nat → Int) : kC := .inl (0, N, .inl (fun j => jI (F j)))
def kla (N : Nat) (F : Nat → Int) : kC := .inl (1, N, .inr (.inl (fun j => jL (F j))))
def kza (N : Nat) (F : Nat → Int) : kC := .inl (2, N, .inl (fun j => jI (F j)))
def kra (t N : Nat) (f : Nat → Option Nat) : kC := .inl (t, N, .inr (.inr (.inr (.inr f))))
def kob (ci : Nat) (fs : List Value) : kC := .inr (ci, fs)
def up (F : Nat → Int) (k : Nat) (x : Int) : Nat → Int := fun j => if j = k then x else F j
theorem up_s {F : Nat → Int} {k : Nat} {x : Int} : up F k x k = x := if_pos rfl
theorem up_n {F : Nat → Int} {k j : Nat} {x : Int} (h : j ≠ k) : up F k x j = F j := if_neg h
section KH
variable {G : kG} {M : kM} {d c0 s0 pc : Nat} {L : List (Option Value)} {st : List Value} {h : Nat → Option kC} {n : Nat} {Post : kPo}
theorem kP1 {i : Nat} {e : kC} {H : Heap} (hH : kHV G h n H) (he : h i = some e) : va_P (gD G) vwCl [(gB G + i, kcc (gC G) e)] H := by
  intro k q hq
  cases k with
  | zero => cases hq; exact hH.at he
  | succ k => simp at hq
theorem e_getf {idx ci k i : Nat} {fs : List Value} {v : Value} (hf : kFd M.1.cls idx ci k) (hd : decode M.2.1 pc = .ok (.getfield idx, 3)) (he : h i = some (kob ci fs)) (hv : fs[k]? = some v) (kk : kE G M d c0 s0 (pc + 3) L (v :: st) h n Post) : kE G M d c0 s0 pc L (.ref (gB G + i) :: st) h n Post := by
  intro p l e R s m args below meth c H locs cells slots Q ls X hL hH hS hc hs hr
  obtain ⟨C, T, N, ty0, ⟨hc1, hc2, -⟩, hk, hw⟩ := hf
  exact va_get (D := gD G) (Ts := u_ws C T N) X.1 X.2.1 (fun w h9 => X.2.2.2.2.2.1 w (kWl_in (hc2 w h9))) (fun _ h9 => h9) X.2.2.2.1 X.2.2.2.2.2.2.1.2.1 (kP1 hH he) 0 rfl hc1 k hk (X.2.2.2.2.2.1 _ (kWl_in hw)) (fun _ h9 => h9) hv hd (kk p l e R s m args below meth c H locs cells slots Q ls X hL hH hS hc hs hr)
theorem e_putf {idx ci k i : Nat} {fs : List Value} {v : Value} {ty : FieldType} (hf : kPf M.1.cls idx ci k ty false) (hd : decode M.2.1 pc = .ok (.putfield idx, 3)) (he : h i = some (kob ci fs)) (hn : narrow ty v = v) (hfit : fits ty v = true) (hl9 : Nat.ble (k + 1) fs.length = true) (kk : kE G M d c0 s0 (pc + 3) L st (kup h i (kob ci (fs.set k v))) n Post) : kE G M d c0 s0 pc L (v :: .ref (gB G + i) :: st) h n Post := by
  intro p l e R s m args below meth c H locs cells slots Q ls X hL hH hS hc hs hr
  have hl : k < fs.length := Nat.le_of_ble_eq_true hl9
  obtain ⟨C, T, N, ty0, ⟨hc1, hc2, hc3, hc4, -⟩, hk, hw, hfin, hty, -⟩ := hf
  have hts : ∀ w ∈ u_ws C T N, w.before args s = true := fun w h9 => X.2.2.2.2.2.1 w (kWl_in (hc2 w h9))
  have hK := X.2.2.2.2.2.2.1.2.1
  have hap := va_apart (own := M.1.cls) (Ts := u_ws C T N) hts (fun _ h9 => h9) ty0 hc3 hc4 hK hc1
  obtain ⟨r, h1, cell, q1, q2, q3, q4⟩ := hH.at he
  have hr9 : r = (C, T, N) := Option.some.inj (h1.symm.trans hc1)
  subst hr9
  obtain ⟨hS9, hfc, kC9, hkC, hkind⟩ := hK.1 ci _ hc1
  obtain ⟨cf, kf, fi, f, hi, hsl⟩ := hS9 k hk
  have hlay := hts _ (u_in_lay hk)
  unfold u_lay at hlay
  rw [if_neg (by rw [hfin]; decide)] at hlay
  have hst := (u_facts hfc hkC (u_lays hts (fun _ h9 => h9) hk) hi).1
  have h6 := u_store hfc hkC hkind hlay hi hty hn hfit
  refine W.putK X.1 X.2.1 (f := f) ⟨X.2.2.2.1, X.2.2.2.2.2.1 _ (kWl_in hw), ⟨_, _, _, hi⟩, hst⟩ (by rw [q2]; exact h6) q1 q3 (by rw [hsl]; exact k2_hasslot (q4 k hk)) rfl rfl hd fun H' e1 e2 e3 => ?_
  rw [hsl] at e1 ⊢
  exact kk p l e R s m args below meth c H' _ cells slots Q ls X hL (hH.set he e2 e3 ⟨_, hc1, t_OB.to (V := updV (vp_V fs) k v) ⟨_, e1, q2, q3, t_set q4 hap hk v⟩ (fun j _ => vp_updV_set hl v j)⟩) (hS.put e2 e3 (Nat.le_add_right _ _)) hc hs hr
theorem e_putF {idx ci k i : Nat} {fs : List Value} {v : Value} {ty : FieldType} (hf : kPf M.1.cls idx ci k ty true) (hd : decode M.2.1 pc = .ok (.putfield idx, 3)) (hin : M.1.name = "<init>") (he : h i = some (kob ci fs)) (hn : narrow ty v = v) (hfit : fits ty v = true) (hl9 : Nat.ble (k + 1) fs.length = true) (kk : kE G M d c0 s0 (pc + 3) L st (kup h i (kob ci (fs.set k v))) n Post) : kE G M d c0 s0 pc L (v :: .ref (gB G + i) :: st) h n Post := by
  intro p l e R s m args below meth c H locs cells slots Q ls X hL hH hS hc hs hr
  have hl : k < fs.length := Nat.le_of_ble_eq_true hl9
  obtain ⟨C, T, N, ty0, ⟨hc1, hc2, hc3, hc4, -⟩, hk, hw, hfin, hty, hdecl⟩ := hf
  have hts : ∀ w ∈ u_ws C T N, w.before args s = true := fun w h9 => X.2.2.2.2.2.1 w (kWl_in (hc2 w h9))
  have hK := X.2.2.2.2.2.2.1.2.1
  have hap := va_apart (own := M.1.cls) (Ts := u_ws C T N) hts (fun _ h9 => h9) ty0 hc3 hc4 hK hc1
  obtain ⟨r, h1, cell, q1, q2, q3, q4⟩ := hH.at he
  have hr9 : r = (C, T, N) := Option.some.inj (h1.symm.trans hc1)
  subst hr9
  obtain ⟨hS9, hfc, kC9, hkC, hkind⟩ := hK.1 ci _ hc1
  obtain ⟨cf, kf, fi, f, hi, hsl⟩ := hS9 k hk
  have hlay := hts _ (u_in_lay hk)
  unfold u_lay at hlay
  rw [if_pos hfin] at hlay
  have hst := (u_facts hfc hkC (u_lays hts (fun _ h9 => h9) hk) hi).1
  have hcf : m.cls = cf := by
    obtain ⟨_, _, c', _, _, _, -, -, hf', -, -, -, hown2, -⟩ := Cond.laysFinal_spec hlay
    have e1 : c' = cf := by have := hi.symm.trans hf'; simp at this; exact this.1.symm
    rw [hdecl rfl] at hown2
    rw [← e1]; exact Option.some.inj (X.2.2.2.1.symm.trans hown2)
  have h6 := u_fits hfc hkC hkind (Or.inr hlay) hi hty hn hfit
  refine W.putFinK X.1 X.2.1 X.2.2.2.1 (X.2.2.2.2.2.1 _ (kWl_in hw)) hi hst hcf (X.2.2.2.2.1.trans hin) (by rw [q2]; exact h6) q1 q3 (by rw [hsl]; exact k2_hasslot (q4 k hk)) rfl rfl hd fun H' e1 e2 e3 => ?_
  rw [hsl] at e1 ⊢
  exact kk p l e R s m args below meth c H' _ cells slots Q ls X hL (hH.set he e2 e3 ⟨_, hc1, t_OB.to (V := updV (vp_V fs) k v) ⟨_, e1, q2, q3, t_set q4 hap hk v⟩ (fun j _ => vp_updV_set hl v j)⟩) (hS.put e2 e3 (Nat.le_add_right _ _)) hc hs hr
theorem e_iald {i N : Nat} {F : Nat → Int} {a : Int} (hd : decode M.2.1 pc = .ok (.iaload, 1)) (he : h i = some (kia N F)) (h0 : 0 ≤ a) (h1 : a < N) (kk : kE G M d c0 s0 (pc + 1) L (.int (jI (F a.toNat)) :: st) h n Post) (hN : N < 2147483648 := by decide) : kE G M d c0 s0 pc L (.int (jI a) :: .ref (gB G + i) :: st) h n Post := by
  intro p l e R s m args below meth c H locs cells slots Q ls X hL hH hS hc hs hr
  exact va_iald X.1 X.2.1 X.2.2.2.2.2.2.1.2.1 (kP1 hH he) 0 0 rfl rfl (jI_in h0 h1 hN) hd (by rw [jI_cl h0 (by omega)]; exact kk p l e R s m args below meth c H locs cells slots Q ls X hL hH hS hc hs hr)
theorem e_lald {i N : Nat} {F : Nat → Int} {a : Int} (hd : decode M.2.1 pc = .ok (.laload, 1)) (he : h i = some (kla N F)) (h0 : 0 ≤ a) (h1 : a < N) (kk : kE G M d c0 s0 (pc + 1) L (.long (jL (F a.toNat)) :: st) h n Post) (hN : N < 2147483648 := by decide) : kE G M d c0 s0 pc L (.int (jI a) :: .ref (gB G + i) :: st) h n Post := by
  intro p l e R s m args below meth c H locs cells slots Q ls X hL hH hS hc hs hr
  exact va_lald X.1 X.2.1 X.2.2.2.2.2.2.1.2.1 (kP1 hH he) 0 1 rfl rfl (jI_in h0 h1 hN) hd (by rw [jI_cl h0 (by omega)]; exact kk p l e R s m args below meth c H locs cells slots Q ls X hL hH hS hc hs hr)
theorem e_zald {i N : Nat} {F : Nat → Int} {a : Int} (hd : decode M.2.1 pc = .ok (.baload, 1)) (he : h i = some (kza N F)) (h0 : 0 ≤ a) (h1 : a < N) (kk : kE G M d c0 s0 (pc + 1) L (.int (jI (F a.toNat)) :: st) h n Post) (hN : N < 2147483648 := by decide) : kE G M d c0 s0 pc L (.int (jI a) :: .ref (gB G + i) :: st) h n Post := by
  intro p l e R s m args below meth c H locs cells slots Q ls X hL hH hS hc hs hr
  exact va_zald X.1 X.2.1 X.2.2.2.2.2.2.1.2.1 (kP1 hH he) 0 2 rfl rfl (jI_in h0 h1 hN) hd (by rw [jI_cl h0 (by omega)]; exact kk p l e R s m args below meth c H locs cells slots Q ls X hL hH hS hc hs hr)
theorem e_aald {i N t j : Nat} {f : Nat → Option Nat} {a : Int} {ty : FieldType} (hd : decode M.2.1 pc = .ok (.aaload, 1)) (he : h i = some (kra t N f)) (ht : ∀ cA, (ktys cA)[t]? = some (cA t, ty)) (hty : ty.isReference = true) (h0 : 0 ≤ a) (h1 : a < N) (hf : f a.toNat = some (gB G + j)) (kk : kE G M d c0 s0 (pc + 1) L (.ref (gB G + j) :: st) h n Post) (hN : N < 2147483648 := by decide) : kE G M d c0 s0 pc L (.int (jI a) :: .ref (gB G + i) :: st) h n Post := by
  intro p l e R s m args below meth c H locs cells slots Q ls X hL hH hS hc hs hr
  have hK := X.2.2.2.2.2.2.1.2.1
  have hin := jI_in h0 h1 hN
  have hcl := jI_cl h0 (show a ≤ 2147483647 by omega)
  refine W.aald (v := .ref (gB G + j)) (ty := ty) X.1 X.2.1 (hH.at he) ((hK.2 t _ (ht _)).1 N (fun j => va_rf (f j))) hty (fun q => by cases q) (by show ¬ (_ ∨ (arrV _ _ _).slots.size ≤ _); rw [arrV_size]; exact hin) ?_ rfl rfl hd (kk p l e R s m args below meth c H locs cells slots Q ls X hL hH hS hc hs hr)
  have hlt : a.toNat < N := by omega
  show (arrV _ _ _).slots[_]? = _
  rw [hcl, arrV_read _ _ hlt, hf]
  rfl
theorem e_alen {i N t : Nat} {x : (Nat → Int32) ⊕ (Nat → Int64) ⊕ (Nat → UInt32) ⊕ (Nat → UInt64) ⊕ (Nat → Option Nat)} {ty : FieldType} (hd : decode M.2.1 pc = .ok (.arraylength, 1)) (he : h i = some (.inl (t, N, x))) (ht : ∀ cA, (ktys cA)[t]? = some (cA t, ty)) (kk : kE G M d c0 s0 (pc + 1) L (.int (jI N) :: st) h n Post) : kE G M d c0 s0 pc L (.ref (gB G + i) :: st) h n Post := by
  intro p l e R s m args below meth c H locs cells slots Q ls X hL hH hS hc hs hr
  have hK := X.2.2.2.2.2.2.1.2.1
  have hn : (vp_cell (gC G t) (N, x)).slots.size.toInt32 = jI N := by
    have : (vp_cell (gC G t) (N, x)).slots.size = N := by
      rcases x with f | f | f | f | f <;> exact arrV_size _ _ _
    rw [this]
    exact Int32.ofInt_eq_ofNat.symm
  have har : s.isArrayOf (vp_cell (gC G t) (N, x)) ty := by
    rcases x with f | f | f | f | f <;> exact (hK.2 t _ (ht _)).1 N _
  exact W.alen X.1 X.2.1 (hH.at he) har hn rfl rfl hd (kk p l e R s m args below meth c H locs cells slots Q ls X hL hH hS hc hs hr)
theorem e_iast {i N : Nat} {F : Nat → Int} {a x : Int} (hd : decode M.2.1 pc = .ok (.iastore, 1)) (he : h i = some (kia N F)) (h0 : 0 ≤ a) (h1 : a < N) (kk : kE G M d c0 s0 (pc + 1) L st (kup h i (kia N (up F a.toNat x))) n Post) (hN : N < 2147483648 := by decide) : kE G M d c0 s0 pc L (.int (jI x) :: .int (jI a) :: .ref (gB G + i) :: st) h n Post := by
  intro p l e R s m args below meth c H locs cells slots Q ls X hL hH hS hc hs hr
  have hK := X.2.2.2.2.2.2.1.2.1
  have hin := jI_in h0 h1 hN
  have hcl := jI_cl h0 (show a ≤ 2147483647 by omega)
  refine W.iast X.1 X.2.1 (hH.at he) ((hK.2 0 _ rfl).1 N (fun j => .int (jI (F j)))) (fun q => by cases q) (by show ¬ (_ ∨ (arrV _ _ _).slots.size ≤ _); rw [arrV_size]; exact hin) rfl rfl hd fun H1 e1 z oq => ?_
  refine kk p l e R s m args below meth c H1 _ cells slots Q ls X hL (hH.set he z oq ?_) (hS.put z oq (Nat.le_add_right _ _)) hc hs hr
  show H1[_]? = some (vp_cell _ _)
  rw [e1]
  dsimp only
  rw [vp_cell_i, vp_cell_i, arrV_store, hcl]
  congr 2
  funext q
  by_cases hq : q = a.toNat
  · simp [updV, up, hq]
  · simp [updV, up, hq]
theorem e_last {i N : Nat} {F : Nat → Int} {a x : Int} (hd : decode M.2.1 pc = .ok (.lastore, 1)) (he : h i = some (kla N F)) (h0 : 0 ≤ a) (h1 : a < N) (kk : kE G M d c0 s0 (pc + 1) L st (kup h i (kla N (up F a.toNat x))) n Post) (hN : N < 2147483648 := by decide) : kE G M d c0 s0 pc L (.long (jL x) :: .int (jI a) :: .ref (gB G + i) :: st) h n Post := by
  intro p l e R s m args below meth c H locs cells slots Q ls X hL hH hS hc hs hr
  have hK := X.2.2.2.2.2.2.1.2.1
  have hin := jI_in h0 h1 hN
  have hcl := jI_cl h0 (show a ≤ 2147483647 by omega)
  refine W.last X.1 X.2.1 (hH.at he) ((hK.2 1 _ rfl).1 N (fun j => .long (jL (F j)))) (fun q => by cases q) (by show ¬ (_ ∨ (arrV _ _ _).slots.size ≤ _); rw [arrV_size]; exact hin) rfl rfl hd fun H1 e1 z oq => ?_
  refine kk p l e R s m args below meth c H1 _ cells slots Q ls X hL (hH.set he z oq ?_) (hS.put z oq (Nat.le_add_right _ _)) hc hs hr
  show H1[_]? = some (vp_cell _ _)
  rw [e1]
  dsimp only
  rw [vp_cell_l, vp_cell_l, arrV_store, hcl]
  congr 2
  funext q
  by_cases hq : q = a.toNat
  · simp [updV, up, hq]
  · simp [updV, up, hq]
theorem e_zast {i N : Nat} {F : Nat → Int} {a x : Int} (hd : decode M.2.1 pc = .ok (.bastore, 1)) (he : h i = some (kza N F)) (h0 : 0 ≤ a) (h1 : a < N) (hx : narrow .boolean (.int (jI x)) = .int (jI x)) (kk : kE G M d c0 s0 (pc + 1) L st (kup h i (kza N (up F a.toNat x))) n Post) (hN : N < 2147483648 := by decide) : kE G M d c0 s0 pc L (.int (jI x) :: .int (jI a) :: .ref (gB G + i) :: st) h n Post := by
  intro p l e R s m args below meth c H locs cells slots Q ls X hL hH hS hc hs hr
  have hK := X.2.2.2.2.2.2.1.2.1
  have hin := jI_in h0 h1 hN
  have hcl := jI_cl h0 (show a ≤ 2147483647 by omega)
  refine W.zast X.1 X.2.1 (hH.at he) ((hK.2 2 _ rfl).1 N (fun j => .int (jI (F j)))) (fun q => by cases q) (by show ¬ (_ ∨ (arrV _ _ _).slots.size ≤ _); rw [arrV_size]; exact hin) rfl rfl hd fun H1 e1 z oq => ?_
  refine kk p l e R s m args below meth c H1 _ cells slots Q ls X hL (hH.set he z oq ?_) (hS.put z oq (Nat.le_add_right _ _)) hc hs hr
  show H1[_]? = some (vp_cell _ _)
  rw [e1, hx]
  dsimp only
  rw [vp_cell_i, vp_cell_i, arrV_store, hcl]
  congr 2
  funext q
  by_cases hq : q = a.toNat
  · simp [updV, up, hq]
  · simp [updV, up, hq]
theorem e_aast {i N t j ci : Nat} {f : Nat → Option Nat} {a : Int} {q : vw_C} {vs : List Value} (hd : decode M.2.1 pc = .ok (.aastore, 1)) (he : h i = some (kra t N f)) (hv : h j = some (kob ci vs)) (hcl : vwCl[ci]? = some q) (ht : ∀ cA, (ktys cA)[t]? = some (cA t, .object q.1)) (h0 : 0 ≤ a) (h1 : a < N) (kk : kE G M d c0 s0 (pc + 1) L st (kup h i (kra t N (va_up f a.toNat (some (gB G + j))))) n Post) (hN : N < 2147483648 := by decide) : kE G M d c0 s0 pc L (.ref (gB G + j) :: .int (jI a) :: .ref (gB G + i) :: st) h n Post := by
  intro p l e R s m args below meth c H locs cells slots Q ls X hL hH hS hc hs hr
  have hK := X.2.2.2.2.2.2.1.2.1
  have hin := jI_in h0 h1 hN
  have hcl9 := jI_cl h0 (show a ≤ 2147483647 by omega)
  obtain ⟨r', hr', cellV, g1, g2, g3, -⟩ := hH.at hv
  have hcls := (hK.1 ci q hcl).2
  obtain ⟨kA9, comp, k1, k2, k3, -⟩ := (hK.2 t _ (ht _)).2
  have hcomp : comp = (gD G).1 ci := Option.some.inj (k3.symm.trans hcls.1)
  subst hcomp
  obtain ⟨kC9, hkC, -⟩ := hcls.2
  refine W.aast X.1 X.2.1 (hH.at he) (fun q h => by cases h) (fun h => by cases h) k1 k2 rfl hkC ⟨fun q => hin (Or.inl q), by show _ < (arrV _ _ _).slots.size; rw [arrV_size]; exact Nat.not_le.mp fun q => hin (Or.inr q)⟩ g1 (fun q h => by rw [g3] at h; cases h) (by rw [g2]; exact hkC) (by rw [g2]; exact va_assign hcls) rfl rfl hd fun H1 e1 z oq => ?_
  refine kk p l e R s m args below meth c H1 _ cells slots Q ls X hL (hH.set he z oq ?_) (hS.put z oq (Nat.le_add_right _ _)) hc hs hr
  show H1[_]? = some (vp_cell _ _)
  rw [e1]
  dsimp only
  rw [vp_cell_q, vp_cell_q, arrV_store, hcl9]
  congr 2
  funext q9
  by_cases hq : q9 = a.toNat
  · simp [updV, va_up, va_rf, hq]
  · simp [updV, va_up, hq]
theorem e_tald {k t N : Nat} {f : Nat → Int32} {a z : Int} (hd : decode M.2.1 pc = .ok (.iaload, 1)) (he : (gT G)[k]? = some (t, N, f)) (h0 : 0 ≤ a) (h1 : a < N) (hz : f a.toNat = jI z) (kk : kE G M d c0 s0 (pc + 1) L (.int (jI z) :: st) h n Post) : kE G M d c0 s0 pc L (.int (jI a) :: .ref t :: st) h n Post := by
  intro p l e R s m args below meth c H locs cells slots Q ls X hL hH hS hc hs hr
  obtain ⟨cell, t1, t2, t3, t4, t5, t6, t7⟩ := X.2.2.2.2.2.2.1.2.2.1 k _ he
  have hB := X.2.2.2.2.2.2.1.2.2.2.2.2
  dsimp only at t1 t2 t5 t6 t7
  have hin : vp_in (jI a) N := jI_in h0 h1 (by omega)
  have hcl := jI_cl h0 (show a ≤ 2147483647 by omega)
  exact W.iald (v := .int (jI z)) X.1 X.2.1 (by rw [hS.2.1 t (Nat.lt_of_lt_of_le t2 hB) (Nat.not_le.mpr t2)]; exact t1) t3 t4 (by rw [t5]; exact hin) (by rw [hcl, t7 _ (by omega), hz]) rfl rfl hd (kk p l e R s m args below meth c H locs cells slots Q ls X hL hH hS hc hs hr)
theorem e_tlen {k t N : Nat} {f : Nat → Int32} (hd : decode M.2.1 pc = .ok (.arraylength, 1)) (he : (gT G)[k]? = some (t, N, f)) (kk : kE G M d c0 s0 (pc + 1) L (.int (jI N) :: st) h n Post) : kE G M d c0 s0 pc L (.ref t :: st) h n Post := by
  intro p l e R s m args below meth c H locs cells slots Q ls X hL hH hS hc hs hr
  obtain ⟨cell, t1, t2, t3, t4, t5, t6, t7⟩ := X.2.2.2.2.2.2.1.2.2.1 k _ he
  have hB := X.2.2.2.2.2.2.1.2.2.2.2.2
  dsimp only at t1 t2 t5 t6 t7
  exact W.alen (n := jI N) X.1 X.2.1 (by rw [hS.2.1 t (Nat.lt_of_lt_of_le t2 hB) (Nat.not_le.mpr t2)]; exact t1) t3 (by rw [t5]; exact Int32.ofInt_eq_ofNat.symm) rfl rfl hd (kk p l e R s m args below meth c H locs cells slots Q ls X hL hH hS hc hs hr)
theorem e_gets {k idx : Nat} {nm : String} (hw : kWd (.fieldLink M.1.cls idx RX9 nm "[I")) (hk : kSn[k]? = some nm) (hd : decode M.2.1 pc = .ok (.getstatic idx, 3)) (kk : kE G M d c0 s0 (pc + 3) L (.ref (gS G k) :: st) h n Post) : kE G M d c0 s0 pc L st h n Post := by
  intro p l e R s m args below meth c H locs cells slots Q ls X hL hH hS hc hs hr
  exact va_gets X.1 X.2.1 (X.2.2.2.2.2.2.1.2.2.2.1 k nm hk) hS X.2.2.2.1 (X.2.2.2.2.2.1 _ (kWl_in hw)) (fun _ h9 => h9) hd (kk p l e R s m args below meth c H locs cells slots Q ls X hL hH hS hc hs hr)
theorem e_getsN {k idx : Nat} {nm : String} (hw : Cond.fieldLinkNest M.1.cls idx RX9 nm "[I" RX9 ∈ kNst) (hk : kSn[k]? = some nm) (hd : decode M.2.1 pc = .ok (.getstatic idx, 3)) (kk : kE G M d c0 s0 (pc + 3) L (.ref (gS G k) :: st) h n Post) : kE G M d c0 s0 pc L st h n Post := by
  intro p l e R s m args below meth c H locs cells slots Q ls X hL hH hS hc hs hr
  exact va_getsN X.1 X.2.1 (X.2.2.2.2.2.2.1.2.2.2.1 k nm hk) hS X.2.2.2.1 (va_Nw.use rfl (X.2.2.2.2.2.2.1.1 _ hw)) (fun _ h9 => h9) hd (kk p l e R s m args below meth c H locs cells slots Q ls X hL hH hS hc hs hr)
theorem kSz {h : Nat → Option kC} {n : Nat} {H H1 H0 : Heap} {locs : List Loc} (hH : kHV G h n H) (hB : gB G ≤ H0.size) (hS : va_S (kA G) H0 H locs) (z : H.size ≤ H1.size) (o : ∀ q : Nat, q < H.size → H1[q]? = H[q]?) : va_S (kA G) H0 H1 locs := ⟨Nat.le_trans hS.1 z, fun q h1 h2 => (o q (Nat.lt_of_lt_of_le h1 hS.1)).trans (hS.2.1 q h1 h2), hS.2.2⟩
theorem e_new {idx ci N : Nat} {ty0 : Nat → FieldType} {fs : List Value} (hw : kNw M.1.cls idx ci N ty0) (hd : decode M.2.1 pc = .ok (.new idx, 3)) (hfs : ∀ j, j < N → defaultValue (ty0 j) = vp_V fs j) (kk : kE G M d c0 s0 (pc + 3) L (.ref (gB G + n) :: st) (kup h n (kob ci fs)) (n + 1) Post) : kE G M d (c0 + 1) (s0 + N) pc L st h n Post := by
  intro p l e R s m args below meth c H locs cells slots Q ls X hL hH hS hc hs hr
  obtain ⟨C, T, ⟨hc1, hc2, hc3, hc4, hc5⟩, hw1, hw2⟩ := hw
  have hK := X.2.2.2.2.2.2.1.2.1
  have hts : ∀ w ∈ u_ws C T N, w.before args s = true := fun w h9 => X.2.2.2.2.2.1 w (kWl_in (hc2 w h9))
  have hKn := hK.1 ci _ hc1
  refine W.newcK X.1 X.2.1 X.2.2.2.1 (X.2.2.2.2.2.1 _ (kWl_in hw1)) (X.2.2.2.2.2.1 _ (kWl_in hc5)) (X.2.2.2.2.2.1 _ (kWl_in hw2)) rfl hd (by omega) (by omega) hKn.2.1 hH.1 fun H1 kC9 hkC e1 z1 o1 => ?_
  have z2 : H1.size = H.size + 1 := by rw [z1, hH.1]
  have o2 : ∀ q : Nat, q < H.size → H1[q]? = H[q]? := fun q hq => o1 q (by rw [← hH.1]; exact hq)
  exact kk p l e R s m args below meth c H1 locs (cells + 1) (slots + N) Q ls X hL (hH.push z2 o2 ⟨_, hc1, (u_born ty0 hts (fun _ h9 => h9) hKn hkC e1 hc3).to hfs⟩) (kSz hH X.2.2.2.2.2.2.1.2.2.2.2.2 hS (by omega) o2) (by omega) (by omega) hr
theorem kA_int {s : State} (hK : va_K (gD G) vwCl (ktys (gC G)) s) {t : Nat} {ty : FieldType} {cA : ClassId} (ht : (ktys (gC G))[t]? = some (gC G t, ty)) (hty : (∃ C, ty = .object C) → False) (hf : s.vm.findClass ("[" ++ ty.toString) = some cA) : cA = gC G t := by
  have h := (hK.2 t _ ht).2
  cases ty <;> first | exact absurd ⟨_, rfl⟩ hty | exact Option.some.inj (hf.symm.trans h)
theorem e_newai {a : Int} (hd : decode M.2.1 pc = .ok (.newarray .int, 2)) (h0 : 0 ≤ a) (h1 : a ≤ 100000) (kk : kE G M d c0 s0 (pc + 2) L (.ref (gB G + n) :: st) (kup h n (kia a.toNat (fun _ => 0))) (n + 1) Post) : kE G M d (c0 + 1) (s0 + a.toNat) pc L (.int (jI a) :: st) h n Post := by
  intro p l e R s m args below meth c H locs cells slots Q ls X hL hH hS hc hs hr
  have hK := X.2.2.2.2.2.2.1.2.1
  have hcl := jI_cl h0 (show a ≤ 2147483647 by omega)
  refine va_newaK (atype := .int) X.1 X.2.1 (X.2.2.2.2.2.1 _ (kWl_in ka_int)) rfl hd rfl (fun q => by rw [← jI_0] at q; have := (jI_lt ⟨by omega, by omega⟩ ⟨by decide, by decide⟩).mp q; omega) hcl (by show a.toNat * 4 ≤ _; omega) (by omega) (by omega) hH.1 fun H1 cA e1 z1 o1 hAr hNm => ?_
  have hcA : cA = gC G 0 := kA_int hK (t := 0) rfl (fun ⟨C, h⟩ => by cases h) hNm
  subst hcA
  have z2 : H1.size = H.size + 1 := by rw [z1, hH.1]
  have o2 : ∀ q : Nat, q < H.size → H1[q]? = H[q]? := fun q hq => o1 q (by rw [← hH.1]; exact hq)
  refine kk p l e R s m args below meth c H1 locs (cells + 1) (slots + a.toNat) Q ls X hL (hH.push z2 o2 ?_) (kSz hH X.2.2.2.2.2.2.1.2.2.2.2.2 hS (by omega) o2) (by omega) (by omega) hr
  show H1[gB G + n]? = some (vp_cell (gC G 0) _)
  rw [e1]
  rfl
theorem e_newal {a : Int} (hd : decode M.2.1 pc = .ok (.newarray .long, 2)) (h0 : 0 ≤ a) (h1 : a ≤ 100000) (kk : kE G M d c0 s0 (pc + 2) L (.ref (gB G + n) :: st) (kup h n (kla a.toNat (fun _ => 0))) (n + 1) Post) : kE G M d (c0 + 1) (s0 + a.toNat) pc L (.int (jI a) :: st) h n Post := by
  intro p l e R s m args below meth c H locs cells slots Q ls X hL hH hS hc hs hr
  have hK := X.2.2.2.2.2.2.1.2.1
  have hcl := jI_cl h0 (show a ≤ 2147483647 by omega)
  refine va_newaK (atype := .long) X.1 X.2.1 (X.2.2.2.2.2.1 _ (kWl_in ka_long)) rfl hd rfl (fun q => by rw [← jI_0] at q; have := (jI_lt ⟨by omega, by omega⟩ ⟨by decide, by decide⟩).mp q; omega) hcl (by show a.toNat * 8 ≤ _; omega) (by omega) (by omega) hH.1 fun H1 cA e1 z1 o1 hAr hNm => ?_
  have hcA : cA = gC G 1 := kA_int hK (t := 1) rfl (fun ⟨C, h⟩ => by cases h) hNm
  subst hcA
  have z2 : H1.size = H.size + 1 := by rw [z1, hH.1]
  have o2 : ∀ q : Nat, q < H.size → H1[q]? = H[q]? := fun q hq => o1 q (by rw [← hH.1]; exact hq)
  refine kk p l e R s m args below meth c H1 locs (cells + 1) (slots + a.toNat) Q ls X hL (hH.push z2 o2 ?_) (kSz hH X.2.2.2.2.2.2.1.2.2.2.2.2 hS (by omega) o2) (by omega) (by omega) hr
  show H1[gB G + n]? = some (vp_cell (gC G 1) _)
  rw [e1]
  rfl
theorem e_newaz {a : Int} (hd : decode M.2.1 pc = .ok (.newarray .boolean, 2)) (h0 : 0 ≤ a) (h1 : a ≤ 100000) (kk : kE G M d c0 s0 (pc + 2) L (.ref (gB G + n) :: st) (kup h n (kza a.toNat (fun _ => 0))) (n + 1) Post) : kE G M d (c0 + 1) (s0 + a.toNat) pc L (.int (jI a) :: st) h n Post := by
  intro p l e R s m args below meth c H locs cells slots Q ls X hL hH hS hc hs hr
  have hK := X.2.2.2.2.2.2.1.2.1
  have hcl := jI_cl h0 (show a ≤ 2147483647 by omega)
  refine va_newaK (atype := .boolean) X.1 X.2.1 (X.2.2.2.2.2.1 _ (kWl_in ka_boolean)) rfl hd rfl (fun q => by rw [← jI_0] at q; have := (jI_lt ⟨by omega, by omega⟩ ⟨by decide, by decide⟩).mp q; omega) hcl (by show a.toNat * 1 ≤ _; omega) (by omega) (by omega) hH.1 fun H1 cA e1 z1 o1 hAr hNm => ?_
  have hcA : cA = gC G 2 := kA_int hK (t := 2) rfl (fun ⟨C, h⟩ => by cases h) hNm
  subst hcA
  have z2 : H1.size = H.size + 1 := by rw [z1, hH.1]
  have o2 : ∀ q : Nat, q < H.size → H1[q]? = H[q]? := fun q hq => o1 q (by rw [← hH.1]; exact hq)
  refine kk p l e R s m args below meth c H1 locs (cells + 1) (slots + a.toNat) Q ls X hL (hH.push z2 o2 ?_) (kSz hH X.2.2.2.2.2.2.1.2.2.2.2.2 hS (by omega) o2) (by omega) (by omega) hr
  show H1[gB G + n]? = some (vp_cell (gC G 2) _)
  rw [e1]
  rfl
end KH
