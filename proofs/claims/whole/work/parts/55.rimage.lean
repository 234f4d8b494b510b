/-! THE REFERENCE: IMAGE, RESTORE -/
theorem kft_cg {F F' : Nat → Nat → Int} {y a : Int} {t : Nat} (h : ∀ j, 106 ≤ j → j ≤ 108 → F' j t = F j t) : kft F' y a t = kft F y a t := by
  unfold kft
  rw [h 106 (by omega) (by omega), h 107 (by omega) (by omega), h 108 (by omega) (by omega)]
theorem kfa_cg {F F' : Nat → Nat → Int} {y a : Int} {s : Nat} : ∀ {k : Nat}, (∀ j t, 106 ≤ j → j ≤ 108 → s ≤ t → t < s + k → F' j t = F j t) → kfa F' y a s k = kfa F y a s k
  | 0, _ => rfl
  | k + 1, h => by
    unfold kfa
    rw [kfa_cg (k := k) (fun j t h1 h2 h3 h4 => h j t h1 h2 h3 (by omega)), kft_cg (fun j h1 h2 => h j _ h1 h2 (by omega) (by omega))]
theorem kcs_cg {F F' : Nat → Nat → Int} {y a : Int} {k : Nat} (h1 : F' 104 k = F 104 k) (h2 : F' 104 (k + 1) = F 104 (k + 1)) (h : ∀ j t, 106 ≤ j → j ≤ 108 → t < (F 104 (k + 1)).toNat → F' j t = F j t) : kcs F' y a k = kcs F y a k := by
  unfold kcs
  rw [h1, h2]
  exact kfa_cg (fun j t a1 a2 a3 a4 => h j t a1 a2 (by omega))
theorem klD_cg {F F' : Nat → Nat → Int} {y a : Int} : ∀ {f k : Nat}, (∀ i, k ≤ i → i ≤ k + f → F' 104 i = F 104 i) → (∀ i, k ≤ i → i < k + f → F' 105 i = F 105 i) → (∀ i j t, k ≤ i → i < k + f → 106 ≤ j → j ≤ 108 → t < (F 104 (i + 1)).toNat → F' j t = F j t) → klD F' y a f k = klD F y a f k
  | 0, _, _, _, _ => rfl
  | f + 1, k, h1, h2, h3 => by
    unfold klD
    rw [kcs_cg (h1 k (by omega) (by omega)) (h1 (k + 1) (by omega) (by omega)) (fun j t a1 a2 a3 => h3 k j t (by omega) (by omega) a1 a2 a3), h2 k (by omega) (by omega), klD_cg (f := f) (k := k + 1) (fun i a1 a2 => h1 i (by omega) (by omega)) (fun i a1 a2 => h2 i (by omega) (by omega)) (fun i j t a1 a2 a3 a4 a5 => h3 i j t (by omega) (by omega) a3 a4 a5)]
theorem kgD_cg {F F' : Nat → Nat → Int} {a : Int} : ∀ {f k : Nat}, (∀ i, k ≤ i → i < k + f → F' 109 i = F 109 i ∧ F' 110 i = F 110 i) → kgD F' a f k = kgD F a f k
  | 0, _, _ => rfl
  | f + 1, k, h => by
    unfold kgD
    rw [(h k (by omega) (by omega)).1, (h k (by omega) (by omega)).2, kgD_cg (f := f) (k := k + 1) (fun i a1 a2 => h i (by omega) (by omega))]
theorem rHD_cg {q q' : Nat → Int} {F F' : Nat → Nat → Int} {S : kHd} (r : rHD q F S) (h1 : q' 9 = q 9) (h2 : q' 13 = q 13) (h3 : q' 16 = q 16) (h4 : F' 104 0 = F 104 0) (hF : ∀ j k : Nat, kps j k → F' j k = F j k) : rHD q' F' S := by
  obtain ⟨r1, r2, r3, ⟨a1, a2, a3, a4, a5, a6, a7, a8⟩, b1, b2, b3, b4⟩ := r
  have e4 : ∀ k : Nat, k ≤ 20 → F' 104 k = F 104 k := fun k hk => by
    by_cases e : k = 0
    · rw [e, h4]
    · exact hF 104 k (by unfold kps; omega)
  have e5 : ∀ j k : Nat, 105 ≤ j → j ≤ 110 → k < 20 → F' j k = F j k := fun j k g1 g2 g3 => hF j k (by unfold kps; omega)
  refine ⟨fun b x hb hx => ?_, fun b hb => ?_, fun k hk => ?_, ⟨?_, ?_, ?_, ?_, fun k hk => ?_, fun k hk => ?_, fun k hk => ?_, fun y a => ?_⟩, ?_, ?_, fun k hk => ?_, fun a ha => ?_⟩
  · rw [hF 98 _ (by unfold kps; omega)]
    exact r1 b x hb hx
  · rw [hF 99 _ (by unfold kps; omega), hF 100 _ (by unfold kps; omega), hF 101 _ (by unfold kps; omega)]
    exact r2 b hb
  · rw [hF 102 _ (by unfold kps; omega)]
    exact r3 k hk
  · rw [h1]; exact a1
  · rw [h1]; exact a2
  · rw [h2]; exact a3
  · rw [h4]; exact a4
  · rw [h1] at hk
    rw [h2, e4 k (by omega)]
    exact a5 k hk
  · rw [h1] at hk
    rw [e5 105 k (by omega) (by omega) (by omega)]
    exact a6 k hk
  · rw [h2] at hk
    rw [e5 106 k (by omega) (by omega) (by omega), e5 107 k (by omega) (by omega) (by omega), e5 108 k (by omega) (by omega) (by omega)]
    exact a7 k hk
  · rw [h1, ← a8 y a]
    refine klD_cg (fun i g1 g2 => e4 i (by omega)) (fun i g1 g2 => e5 105 i (by omega) (by omega) (by omega)) (fun i j t g1 g2 g3 g4 g5 => e5 j t (by omega) (by omega) ?_)
    have := a5 (i + 1) (by omega)
    omega
  · rw [h3]; exact b1
  · rw [h3]; exact b2
  · rw [h3] at hk
    rw [e5 109 k (by omega) (by omega) (by omega), e5 110 k (by omega) (by omega) (by omega)]
    exact b3 k hk
  · rw [h3, ← b4 a ha]
    exact kgD_cg (fun i g1 g2 => ⟨e5 109 i (by omega) (by omega) (by omega), e5 110 i (by omega) (by omega) (by omega)⟩)
theorem kxF_off {X : Nat → Int} {j k : Nat} (h : kps j k) : kxF X j k = X (koff j k) := by
  unfold kps at h
  rcases h with ⟨e, h⟩ | ⟨e, h⟩ | ⟨e, h⟩ | ⟨e, h⟩ | ⟨e, h⟩
  · subst e; rfl
  · rcases (show j = 99 ∨ j = 100 ∨ j = 101 by omega) with e | e | e <;> subst e
    · rfl
    · show X (388 + 3 * k) = X (387 + 3 * k + 1)
      congr 1; omega
    · show X (389 + 3 * k) = X (387 + 3 * k + 2)
      congr 1; omega
  · subst e; rfl
  · subst e
    show (if k = 0 then 0 else X (408 + 2 * k)) = X (408 + 2 * k)
    rw [if_neg (by omega)]
  · rcases (show j = 105 ∨ j = 106 ∨ j = 107 ∨ j = 108 ∨ j = 109 ∨ j = 110 by omega) with e | e | e | e | e | e <;> subst e
    · rfl
    · rfl
    · show X (451 + 3 * k) = X (450 + 3 * k + 1)
      congr 1; omega
    · show X (452 + 3 * k) = X (450 + 3 * k + 2)
      congr 1; omega
    · rfl
    · show X (511 + 2 * k) = X (510 + 2 * k + 1)
      congr 1; omega
noncomputable def kVi (q : Nat → Int) (F : Nat → Nat → Int) : Nat → Int := fun o => if o = 0 then q 9 else if o = 1 then q 13 else if o = 2 then q 16 else @dite _ (∃ p : Nat × Nat, kps p.1 p.2 ∧ koff p.1 p.2 = o) (Classical.propDecidable _) (fun h => F (Classical.choose h).1 (Classical.choose h).2) (fun _ => 0)
theorem kVi_off {q : Nat → Int} {F : Nat → Nat → Int} {j k : Nat} (h : kps j k) : kVi q F (koff j k) = F j k := by
  have h1 := koff_in h
  have h2 : ∃ p : Nat × Nat, kps p.1 p.2 ∧ koff p.1 p.2 = koff j k := ⟨(j, k), h, rfl⟩
  unfold kVi
  rw [if_neg (by omega), if_neg (by omega), if_neg (by omega), dif_pos h2]
  have h3 := Classical.choose_spec h2
  have h4 := koff_inj h3.1 h h3.2
  rw [h4.1, h4.2]
theorem kFS_p {bs : Nat} {F : Nat → Nat → Int} {T : Nat → Int} {j k : Nat} (h : kps j k) : kFS bs F T 550 j k = T (koff j k) := by
  unfold kFS
  rw [if_pos ⟨h, (koff_in h).2.1⟩]
theorem kFS_r {bs : Nat} {F : Nat → Nat → Int} {T : Nat → Int} {k : Nat} : kFS bs F T 550 113 k = if bs ≤ k ∧ k < bs + 550 then T (k - bs) else F 113 k := by
  unfold kFS
  rw [if_neg (fun z => (koff_in z.1).2.2 rfl)]
  by_cases c : bs ≤ k ∧ k < bs + 550
  · rw [if_pos ⟨rfl, c⟩, if_pos c]
  · rw [if_neg (fun z => c z.2), if_neg c]
theorem kFS_n {bs : Nat} {F : Nat → Nat → Int} {T : Nat → Int} {j k : Nat} (h : ¬ kps j k) (hj : j ≠ 113) : kFS bs F T 550 j k = F j k := by
  unfold kFS
  rw [if_neg (fun z => h z.1), if_neg (fun z => hj z.1)]
theorem kqS_e {bs : Nat} {q : Nat → Int} {T : Nat → Int} : kqS bs q T 550 9 = T 0 ∧ kqS bs q T 550 13 = T 1 ∧ kqS bs q T 550 16 = T 2 ∧ kqS bs q T 550 6 = q 6 := by
  unfold kqS
  refine ⟨?_, ?_, ?_, ?_⟩ <;> simp
theorem rMD_im {q : Nat → Int} {F : Nat → Nat → Int} {Z : kCs} (r : rMD q F Z) {x : Nat} (hx : x < 2) {q1 : Nat → Int} (h6 : q1 6 = q 6) : rMD (kqS (700 * x) q1 (kVi q F) 550) (up2 (kFS (700 * x) F (kVi q F) 550) 114 (up (kFS (700 * x) F (kVi q F) 550 114) x 1)) (cN Z, cP Z, upH (cI Z) x (cN Z), up (cK Z) x 1) := by
  obtain ⟨e9, e13, e16, e6⟩ := kqS_e (bs := 700 * x) (q := q1) (T := kVi q F)
  have hF : ∀ j k : Nat, kps j k → kFS (700 * x) F (kVi q F) 550 j k = F j k := fun j k h => (kFS_p h).trans (kVi_off h)
  have h40 : F 104 0 = 0 := r.1.2.2.2.1.2.2.2.1
  refine ⟨?_, ?_, fun j hj => ?_, fun i hi => ?_, fun i hi hk => ?_⟩
  · refine rHD_cg r.1 e9 e13 e16 ?_ (fun j k h => ?_)
    · rw [up2_n (by decide)]
      exact kFS_n (by unfold kps; omega) (by decide)
    · rw [up2_n (by unfold kps at h; omega)]
      exact hF j k h
  · rw [e6, h6]
    exact r.2.1
  · rw [up2_n (by decide), kFS_n (by unfold kps; omega) (by decide)]
    exact r.2.2.1 j hj
  · rw [up2_s]
    show up (kFS (700 * x) F (kVi q F) 550 114) x 1 i = up (cK Z) x 1 i
    unfold up
    split
    · rfl
    · rw [kFS_n (by unfold kps; omega) (by decide)]
      exact r.2.2.2.1 i hi
  · rw [up2_n (by decide)]
    show rHD _ _ (upH (cI Z) x (cN Z) i)
    by_cases e : i = x
    · subst e
      have hX : ∀ j, j < 550 → kFS (700 * i) F (kVi q F) 550 113 (700 * i + j) = kVi q F j := fun j hj => by
        rw [kFS_r, if_pos (by omega), show 700 * i + j - 700 * i = j by omega]
      rw [show upH (cI Z) i (cN Z) i = cN Z from if_pos rfl]
      refine rHD_cg r.1 (hX 0 (by omega)) (hX 1 (by omega)) (hX 2 (by omega)) ?_ (fun j k h => ?_)
      · rw [h40]
        rfl
      · rw [kxF_off h, hX _ (koff_in h).2.1, kVi_off h]
    · have hX : ∀ j, j < 550 → kFS (700 * x) F (kVi q F) 550 113 (700 * i + j) = F 113 (700 * i + j) := fun j hj => by
        rw [kFS_r, if_neg (by omega)]
      rw [show upH (cI Z) x (cN Z) i = cI Z i from if_neg e]
      have hk2 : cK Z i ≠ 0 := by
        intro z
        apply hk
        show up (cK Z) x 1 i = 0
        rw [up_n e]
        exact z
      refine rHD_cg (r.2.2.2.2 i hi hk2) (hX 0 (by omega)) (hX 1 (by omega)) (hX 2 (by omega)) rfl (fun j k h => ?_)
      rw [kxF_off h, kxF_off h, hX _ (koff_in h).2.1]
theorem rMD_re {q : Nat → Int} {F : Nat → Nat → Int} {Z : kCs} (r : rMD q F Z) {x : Nat} (hx : x < 2) (hk : cK Z x ≠ 0) {q1 : Nat → Int} (h6 : q1 6 = q 6) : rMD (kqS (700 * x) q1 (fun o => F 113 (700 * x + o)) 550) (kFS (700 * x) F (fun o => F 113 (700 * x + o)) 550) (cI Z x, Z.2) := by
  obtain ⟨e9, e13, e16, e6⟩ := kqS_e (bs := 700 * x) (q := q1) (T := fun o => F 113 (700 * x + o))
  have h40 : F 104 0 = 0 := r.1.2.2.2.1.2.2.2.1
  have e113 : kFS (700 * x) F (fun o => F 113 (700 * x + o)) 550 113 = F 113 := by
    funext k
    rw [kFS_r]
    split
    · rename_i c
      try dsimp only
      rw [show 700 * x + (k - 700 * x) = k by omega]
    · rfl
  refine ⟨?_, ?_, fun j hj => ?_, fun i hi => ?_, fun i hi hk => ?_⟩
  · refine rHD_cg (r.2.2.2.2 x hx hk) e9 e13 e16 ?_ (fun j k h => ?_)
    · rw [kFS_n (by unfold kps; omega) (by decide), h40]
      rfl
    · rw [kFS_p h, kxF_off h]
  · rw [e6, h6]
    exact r.2.1
  · rw [kFS_n (by unfold kps; omega) (by decide)]
    exact r.2.2.1 j hj
  · rw [kFS_n (by unfold kps; omega) (by decide)]
    exact r.2.2.2.1 i hi
  · rw [e113]
    exact r.2.2.2.2 i hi hk
set_option maxHeartbeats 4000000 in
set_option maxRecDepth 100000 in
theorem j_image {G : kG} {d : Nat} {h : Nat → Option kC} {n : Nat} {q : Nat → Int} {F : Nat → Nat → Int} {Z : kCs} (md : rMD q F Z) (ok : kCok Z)  {x : Int} (hx : inI x) : kCall G mX10_image (d + 3) 0 0 [.ref (gB G + 97), .int (jI x)] (kmh G h q F) n (kQm G h n (.int (jI (a_image Z x))) (s_image Z x)) := by
  show kE G mX10_image (d + 3) 0 0 0 [some (.ref (gB G + 97)), some (.int (jI x))] [] (kmh G h q F) n _
  refine e_iload_n rfl dX10_image_0 ?_
  refine eS1 mtX10_isEnd msX10_isEnd lkX10_124 dX10_image_1 rfl rfl (j_isEnd (by first | assumption | (unfold inI at *; omega))) ?_
  dsimp only [Option.toList, List.cons_append, List.nil_append]
  refine e_ifneP (tgt := 10) dX10_image_4 (by decide) (fun c4 => ?_) (fun c4 => ?_)
  · refine e_aload_n rfl dX10_image_10 ?_
    refine e_sipush (by decide) dX10_image_11 ?_
    refine e_iload_n rfl dX10_image_14 ?_
    refine e_imul dX10_image_15 ?_
    refine e_mput pfX10_309 dX10_image_16 kml_31 rfl rfl rfl ?_
    refine e_aload_n rfl dX10_image_19 ?_
    refine e_iconst dX10_image_20 ?_
    refine e_mput pfX10_305 dX10_image_21 kml_32 rfl rfl rfl ?_
    refine e_aload_n rfl dX10_image_24 ?_
    refine eV0 mtX10_passAll miX10_passAll lkX10_315 dX10_image_25 kmh_97 rfl rfl rfl (j_passAll (bs := 700 * x.toNat) (T := kVi q F) (by omega) (Or.inl ⟨rfl, ⟨rfl, rfl, rfl⟩, fun j k h => (kVi_off h).symm⟩) (by show 700 * x = ((700 * x.toNat : Nat) : Int); omega)) ?_
    dsimp only [Option.toList, List.cons_append, List.nil_append]
    refine e_aload_n rfl dX10_image_28 ?_
    refine e_getf fdX10_58 dX10_image_29 kmh_97 rfl ?_
    refine e_iload_n rfl dX10_image_32 ?_
    refine e_iconst dX10_image_33 ?_
    refine e_mzst (by decide) dX10_image_34 (by omega) (by omega) ?_
    refine e_iconst dX10_image_35 ?_
    refine e_ireturn dX10_image_36 rfl rfl ?_
    have e9 : s_image Z x = (cN Z, cP Z, upH (cI Z) x.toNat (cN Z), up (cK Z) x.toNat 1) := if_pos (by omega)
    rw [e9]
    exact ⟨by unfold a_image; rw [if_pos (by omega)], rfl, _, _, rfl, rMD_im md (by omega) rfl⟩
  · refine e_bipush (by decide) dX10_image_7 ?_
    refine e_ireturn dX10_image_9 rfl rfl ?_
    rw [s_imageN (by omega)]
    exact kQm_0 (by unfold a_image; rw [if_neg (by omega)]) md
set_option maxHeartbeats 4000000 in
set_option maxRecDepth 100000 in
theorem j_restore {G : kG} {d : Nat} {h : Nat → Option kC} {n : Nat} {q : Nat → Int} {F : Nat → Nat → Int} {Z : kCs} (md : rMD q F Z) (ok : kCok Z)  {x : Int} (hx : inI x) : kCall G mX10_restore (d + 3) 0 0 [.ref (gB G + 97), .int (jI x)] (kmh G h q F) n (kQm G h n (.int (jI (a_restore Z x))) (s_restore Z x)) := by
  show kE G mX10_restore (d + 3) 0 0 0 [some (.ref (gB G + 97)), some (.int (jI x))] [] (kmh G h q F) n _
  refine e_iload_n rfl dX10_restore_0 ?_
  refine eS1 mtX10_isEnd msX10_isEnd lkX10_124 dX10_restore_1 rfl rfl (j_isEnd (by first | assumption | (unfold inI at *; omega))) ?_
  dsimp only [Option.toList, List.cons_append, List.nil_append]
  refine e_ifneP (tgt := 10) dX10_restore_4 (by decide) (fun c4 => ?_) (fun c4 => ?_)
  · refine e_aload_n rfl dX10_restore_10 ?_
    refine e_getf fdX10_58 dX10_restore_11 kmh_97 rfl ?_
    refine e_iload_n rfl dX10_restore_14 ?_
    refine e_mzld  dX10_restore_15 (by omega) (by omega) ?_
    rw [md.2.2.2.1 x.toNat (by omega)]
    have kk9 := ok.2.2.2 x.toNat (by omega)
    refine e_if_ne (tgt := 22) dX10_restore_16 (by decide) (by unfold inI; omega) (fun c16 => ?_) (fun c16 => ?_)
    · refine e_aload_n rfl dX10_restore_22 ?_
      refine e_sipush (by decide) dX10_restore_23 ?_
      refine e_iload_n rfl dX10_restore_26 ?_
      refine e_imul dX10_restore_27 ?_
      refine e_mput pfX10_309 dX10_restore_28 kml_31 rfl rfl rfl ?_
      refine e_aload_n rfl dX10_restore_31 ?_
      refine e_iconst dX10_restore_32 ?_
      refine e_mput pfX10_305 dX10_restore_33 kml_32 rfl rfl rfl ?_
      refine e_aload_n rfl dX10_restore_36 ?_
      refine eV0 mtX10_passAll miX10_passAll lkX10_315 dX10_restore_37 kmh_97 rfl rfl rfl (j_passAll (bs := 700 * x.toNat) (T := fun o => F 113 (700 * x.toNat + o)) (by omega) (Or.inr ⟨rfl, fun o _ => rfl⟩) (by show 700 * x = ((700 * x.toNat : Nat) : Int); omega)) ?_
      dsimp only [Option.toList, List.cons_append, List.nil_append]
      refine e_iconst dX10_restore_40 ?_
      refine e_ireturn dX10_restore_41 rfl rfl ?_
      have e9 : s_restore Z x = (cI Z x.toNat, Z.2) := if_pos ⟨by omega, by assumption⟩
      rw [e9]
      exact ⟨by unfold a_restore; rw [if_pos (by omega), if_neg (by assumption)], rfl, _, _, rfl, rMD_re md (by omega) (by assumption) rfl⟩
    · refine e_bipush (by decide) dX10_restore_19 ?_
      refine e_ireturn dX10_restore_21 rfl rfl ?_
      rw [s_restoreN (by omega)]
      exact kQm_0 (by unfold a_restore; first | (rw [if_neg (by omega)]; done) | (rw [if_pos (by omega), if_pos (by assumption)]; done)) md
  · refine e_bipush (by decide) dX10_restore_7 ?_
    refine e_ireturn dX10_restore_9 rfl rfl ?_
    rw [s_restoreN (by omega)]
    exact kQm_0 (by unfold a_restore; first | (rw [if_neg (by omega)]; done) | (rw [if_pos (by omega), if_pos (by assumption)]; done)) md
