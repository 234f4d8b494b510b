theorem kbn {P : Prop} [Decidable P] : narrow .boolean (.int (jI (if P then 1 else 0))) = .int (jI (if P then 1 else 0)) := by
  split <;> decide
set_option maxHeartbeats 4000000 in
set_option maxRecDepth 100000 in
theorem k_within {G : kG} {d : Nat} {h : Nat → Option kC} {n : Nat} {v a b : Int} (hv : inI v) (ha : inI a) (hb : inI b) : kCall G mX9_within d 0 0 [.int (jI v), .int (jI a), .int (jI b)] h n (kre (some (.int (jI (if a ≤ v ∧ v ≤ b then 1 else 0)))) h n) := by
  show kE G mX9_within d 0 0 0 [some (.int (jI v)), some (.int (jI a)), some (.int (jI b))] [] h n _
  refine e_iload_n rfl dX9_within_0 ?_
  refine e_iload_n rfl dX9_within_1 ?_
  refine e_icmp_lt (tgt := 14) dX9_within_2 (by decide) (by first | assumption | (unfold inI at *; omega)) (by first | assumption | (unfold inI at *; omega)) (fun c2 => ?_) (fun c2 => ?_)
  · refine e_iconst dX9_within_14 ?_
    refine e_ireturn dX9_within_15 rfl (by decide) ?_
    exact ⟨by (repeat' split) <;> first | rfl | (exfalso; omega), rfl, rfl⟩
  · refine e_iload_n rfl dX9_within_5 ?_
    refine e_iload_n rfl dX9_within_6 ?_
    refine e_icmp_gt (tgt := 14) dX9_within_7 (by decide) (by first | assumption | (unfold inI at *; omega)) (by first | assumption | (unfold inI at *; omega)) (fun c7 => ?_) (fun c7 => ?_)
    · refine e_iconst dX9_within_14 ?_
      refine e_ireturn dX9_within_15 rfl (by decide) ?_
      exact ⟨by (repeat' split) <;> first | rfl | (exfalso; omega), rfl, rfl⟩
    · refine e_iconst dX9_within_10 ?_
      refine e_goto (tgt := 15) dX9_within_11 (by decide) ?_
      refine e_ireturn dX9_within_15 rfl (by decide) ?_
      exact ⟨by (repeat' split) <;> first | rfl | (exfalso; omega), rfl, rfl⟩
set_option maxHeartbeats 4000000 in
set_option maxRecDepth 100000 in
theorem k_isHeight {G : kG} {d : Nat} {h : Nat → Option kC} {n : Nat} {v : Int} (hv : inI v) : kCall G mX9_isHeight (d + 1) 0 0 [.int (jI v)] h n (kre (some (.int (jI (if 0 ≤ v ∧ v ≤ 63 then 1 else 0)))) h n) := by
  show kE G mX9_isHeight (d + 1) 0 0 0 [some (.int (jI v))] [] h n _
  refine e_iload_n rfl dX9_isHeight_0 ?_
  refine e_iconst dX9_isHeight_1 ?_
  refine e_bipush (by decide) dX9_isHeight_2 ?_
  refine eS3 mtX9_within msX9_within lkX9_69 dX9_isHeight_4 rfl rfl (k_within (by first | assumption | (unfold inI at *; omega)) (by first | assumption | (unfold inI at *; omega)) (by first | assumption | (unfold inI at *; omega))) ?_
  dsimp only [Option.toList, List.cons_append, List.nil_append]
  refine e_ireturn dX9_isHeight_7 rfl kbn ?_
  exact ⟨rfl, rfl, rfl⟩
set_option maxHeartbeats 4000000 in
set_option maxRecDepth 100000 in
theorem k_isWidth {G : kG} {d : Nat} {h : Nat → Option kC} {n : Nat} {v : Int} (hv : inI v) : kCall G mX9_isWidth (d + 1) 0 0 [.int (jI v)] h n (kre (some (.int (jI (if 1 ≤ v ∧ v ≤ 8 then 1 else 0)))) h n) := by
  show kE G mX9_isWidth (d + 1) 0 0 0 [some (.int (jI v))] [] h n _
  refine e_iload_n rfl dX9_isWidth_0 ?_
  refine e_iconst dX9_isWidth_1 ?_
  refine e_bipush (by decide) dX9_isWidth_2 ?_
  refine eS3 mtX9_within msX9_within lkX9_69 dX9_isWidth_4 rfl rfl (k_within (by first | assumption | (unfold inI at *; omega)) (by first | assumption | (unfold inI at *; omega)) (by first | assumption | (unfold inI at *; omega))) ?_
  dsimp only [Option.toList, List.cons_append, List.nil_append]
  refine e_ireturn dX9_isWidth_7 rfl kbn ?_
  exact ⟨rfl, rfl, rfl⟩
set_option maxHeartbeats 4000000 in
set_option maxRecDepth 100000 in
theorem k_isPart {G : kG} {d : Nat} {h : Nat → Option kC} {n : Nat} {v : Int} (hv : inI v) : kCall G mX9_isPart (d + 1) 0 0 [.int (jI v)] h n (kre (some (.int (jI (if 0 ≤ v ∧ v ≤ 1 then 1 else 0)))) h n) := by
  show kE G mX9_isPart (d + 1) 0 0 0 [some (.int (jI v))] [] h n _
  refine e_iload_n rfl dX9_isPart_0 ?_
  refine e_iconst dX9_isPart_1 ?_
  refine e_iconst dX9_isPart_2 ?_
  refine eS3 mtX9_within msX9_within lkX9_69 dX9_isPart_3 rfl rfl (k_within (by first | assumption | (unfold inI at *; omega)) (by first | assumption | (unfold inI at *; omega)) (by first | assumption | (unfold inI at *; omega))) ?_
  dsimp only [Option.toList, List.cons_append, List.nil_append]
  refine e_ireturn dX9_isPart_6 rfl kbn ?_
  exact ⟨rfl, rfl, rfl⟩
set_option maxHeartbeats 4000000 in
set_option maxRecDepth 100000 in
theorem k_isShare {G : kG} {d : Nat} {h : Nat → Option kC} {n : Nat} {v : Int} (hv : inI v) : kCall G mX9_isShare (d + 1) 0 0 [.int (jI v)] h n (kre (some (.int (jI (if 0 ≤ v ∧ v ≤ 100 then 1 else 0)))) h n) := by
  show kE G mX9_isShare (d + 1) 0 0 0 [some (.int (jI v))] [] h n _
  refine e_iload_n rfl dX9_isShare_0 ?_
  refine e_iconst dX9_isShare_1 ?_
  refine e_bipush (by decide) dX9_isShare_2 ?_
  refine eS3 mtX9_within msX9_within lkX9_69 dX9_isShare_4 rfl rfl (k_within (by first | assumption | (unfold inI at *; omega)) (by first | assumption | (unfold inI at *; omega)) (by first | assumption | (unfold inI at *; omega))) ?_
  dsimp only [Option.toList, List.cons_append, List.nil_append]
  refine e_ireturn dX9_isShare_7 rfl kbn ?_
  exact ⟨rfl, rfl, rfl⟩
set_option maxHeartbeats 4000000 in
set_option maxRecDepth 100000 in
theorem k_isImage {G : kG} {d : Nat} {h : Nat → Option kC} {n : Nat} {v : Int} (hv : inI v) : kCall G mX9_isImage (d + 1) 0 0 [.int (jI v)] h n (kre (some (.int (jI (if 0 ≤ v ∧ v ≤ 1 then 1 else 0)))) h n) := by
  show kE G mX9_isImage (d + 1) 0 0 0 [some (.int (jI v))] [] h n _
  refine e_iload_n rfl dX9_isImage_0 ?_
  refine e_iconst dX9_isImage_1 ?_
  refine e_iconst dX9_isImage_2 ?_
  refine eS3 mtX9_within msX9_within lkX9_69 dX9_isImage_3 rfl rfl (k_within (by first | assumption | (unfold inI at *; omega)) (by first | assumption | (unfold inI at *; omega)) (by first | assumption | (unfold inI at *; omega))) ?_
  dsimp only [Option.toList, List.cons_append, List.nil_append]
  refine e_ireturn dX9_isImage_6 rfl kbn ?_
  exact ⟨rfl, rfl, rfl⟩
set_option maxHeartbeats 4000000 in
set_option maxRecDepth 100000 in
theorem k_isHump {G : kG} {d : Nat} {h : Nat → Option kC} {n : Nat} {m w : Int} (hm : inI m) (hw : inI w) : kCall G mX9_isHump (d + 2) 0 0 [.int (jI m), .int (jI w)] h n (kre (some (.int (jI (if (0 ≤ m ∧ m ≤ 63) ∧ 1 ≤ w ∧ w ≤ 8 then 1 else 0)))) h n) := by
  show kE G mX9_isHump (d + 2) 0 0 0 [some (.int (jI m)), some (.int (jI w))] [] h n _
  refine e_iload_n rfl dX9_isHump_0 ?_
  refine eS1 mtX9_isHeight msX9_isHeight lkX9_65 dX9_isHump_1 rfl rfl (k_isHeight (by first | assumption | (unfold inI at *; omega))) ?_
  dsimp only [Option.toList, List.cons_append, List.nil_append]
  refine e_ifeqP (tgt := 18) dX9_isHump_4 (by decide) (fun c4 => ?_) (fun c4 => ?_)
  · refine e_iconst dX9_isHump_18 ?_
    refine e_ireturn dX9_isHump_19 rfl (by decide) ?_
    exact ⟨by (repeat' split) <;> first | rfl | (exfalso; omega), rfl, rfl⟩
  · refine e_iload_n rfl dX9_isHump_7 ?_
    refine eS1 mtX9_isWidth msX9_isWidth lkX9_164 dX9_isHump_8 rfl rfl (k_isWidth (by first | assumption | (unfold inI at *; omega))) ?_
    dsimp only [Option.toList, List.cons_append, List.nil_append]
    refine e_ifeqP (tgt := 18) dX9_isHump_11 (by decide) (fun c11 => ?_) (fun c11 => ?_)
    · refine e_iconst dX9_isHump_18 ?_
      refine e_ireturn dX9_isHump_19 rfl (by decide) ?_
      exact ⟨by (repeat' split) <;> first | rfl | (exfalso; omega), rfl, rfl⟩
    · refine e_iconst dX9_isHump_14 ?_
      refine e_goto (tgt := 19) dX9_isHump_15 (by decide) ?_
      refine e_ireturn dX9_isHump_19 rfl (by decide) ?_
      exact ⟨by (repeat' split) <;> first | rfl | (exfalso; omega), rfl, rfl⟩
set_option maxHeartbeats 4000000 in
set_option maxRecDepth 100000 in
theorem k_nearestInch {G : kG} {d : Nat} {h : Nat → Option kC} {n : Nat} {v : Int} (h0 : 0 ≤ v) (h1 : v ≤ 63) : kCall G mX9_nearestInch (d + 1) 0 0 [.int (jI v)] h n (kre (some (.int (jI (if v % 4 ≤ 2 then v - v % 4 else kmini 63 (v - v % 4 + 4))))) h n) := by
  show kE G mX9_nearestInch (d + 1) 0 0 0 [some (.int (jI v)), none] [] h n _
  refine e_iload_n rfl dX9_nearestInch_0 ?_
  refine e_iconst dX9_nearestInch_1 ?_
  refine e_iremN (by first | assumption | (unfold inI at *; omega)) (by first | assumption | (unfold inI at *; omega)) (by omega) (by omega) dX9_nearestInch_2 ?_
  refine e_istore_n dX9_nearestInch_3 rfl rfl ?_
  dsimp only [List.set]
  refine e_iload_n rfl dX9_nearestInch_4 ?_
  refine e_iconst dX9_nearestInch_5 ?_
  refine e_icmp_gt (tgt := 15) dX9_nearestInch_6 (by decide) (by first | assumption | (unfold inI at *; omega)) (by first | assumption | (unfold inI at *; omega)) (fun c6 => ?_) (fun c6 => ?_)
  · refine e_bipush (by decide) dX9_nearestInch_15 ?_
    refine e_iload_n rfl dX9_nearestInch_17 ?_
    refine e_iload_n rfl dX9_nearestInch_18 ?_
    refine e_isub dX9_nearestInch_19 ?_
    refine e_iconst dX9_nearestInch_20 ?_
    refine e_iadd dX9_nearestInch_21 ?_
    refine e_mmin (by first | assumption | (unfold inI at *; omega)) (by first | assumption | (unfold inI at *; omega)) lkX9_297 dX9_nearestInch_22 rfl ?_
    refine e_ireturn dX9_nearestInch_25 rfl rfl ?_
    exact ⟨by (repeat' split) <;> first | rfl | (exfalso; omega), rfl, rfl⟩
  · refine e_iload_n rfl dX9_nearestInch_9 ?_
    refine e_iload_n rfl dX9_nearestInch_10 ?_
    refine e_isub dX9_nearestInch_11 ?_
    refine e_goto (tgt := 25) dX9_nearestInch_12 (by decide) ?_
    refine e_ireturn dX9_nearestInch_25 rfl rfl ?_
    exact ⟨by (repeat' split) <;> first | rfl | (exfalso; omega), rfl, rfl⟩
