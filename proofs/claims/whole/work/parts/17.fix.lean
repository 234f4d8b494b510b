/-! an array is what it holds within its length -/
section KF
variable {G : kG} {M : kM} {d c0 s0 pc : Nat} {L : List (Option Value)} {st : List Value} {h : Nat → Option kC} {n : Nat} {Post : kPo}
theorem kHV.fix {H : Heap} {i N : Nat} {F F' : Nat → Int} (hH : kHV G h n H) (hi : h i = some (kia N F)) (hF : ∀ j, j < N → F j = F' j) : kHV G (kup h i (kia N F')) n H := by
  refine ⟨hH.1, fun j x hx => ?_⟩
  by_cases hj : j = i
  · subst hj
    rw [kup_s] at hx
    cases hx
    refine ⟨(hH.2 _ _ hi).1, ?_⟩
    have h1 : H[gB G + j]? = some (vp_cell (gC G 0) (N, .inl (fun q => jI (F q)))) := hH.at hi
    show H[gB G + j]? = some (vp_cell (gC G 0) (N, .inl (fun q => jI (F' q))))
    rw [h1, vp_cell_i, vp_cell_i]
    exact congrArg some (arrV_cong (fun q hq => by rw [hF q hq]))
  · rw [kup, if_neg hj] at hx
    exact hH.2 _ _ hx
theorem e_fix {i N : Nat} {F : Nat → Int} (F' : Nat → Int) (hi : h i = some (kia N F)) (hF : ∀ j, j < N → F j = F' j) (kk : kE G M d c0 s0 pc L st (kup h i (kia N F')) n Post) : kE G M d c0 s0 pc L st h n Post := by
  intro p l e R s m args below meth c H locs cells slots Q ls X hL hH hS hc hs hr
  exact kk p l e R s m args below meth c H locs cells slots Q ls X hL (hH.fix hi hF) hS hc hs hr
theorem kup_kup {i : Nat} {e e' : kC} : kup (kup h i e) i e' = kup h i e' := by
  funext j
  unfold kup
  split <;> rfl
theorem kup_same {i : Nat} {e : kC} (hi : h i = some e) : kup h i e = h := by
  funext j
  unfold kup
  split
  · rename_i q
    rw [q, hi]
  · rfl
theorem kup_swap {i j : Nat} {e e' : kC} (hne : i ≠ j) : kup (kup h i e) j e' = kup (kup h j e') i e := by
  funext q
  unfold kup
  by_cases h1 : q = j
  · rw [if_pos h1, if_neg (by omega), if_pos h1]
  · rw [if_neg h1]
    by_cases h2 : q = i
    · rw [if_pos h2, if_pos h2]
    · rw [if_neg h2, if_neg h2, if_neg h1]
/-- a call's post, the heap as told being another way to say it -/
theorem kE.eqh {h' : Nat → Option kC} {r0 : Option Value} {h1 h2 : Nat → Option kC} {n1 : Nat} (e : h1 = h2) (hE : kE G M d c0 s0 pc L st h n (kre r0 h1 n1)) : kE G M d c0 s0 pc L st h n (kre r0 h2 n1) := e ▸ hE
end KF
