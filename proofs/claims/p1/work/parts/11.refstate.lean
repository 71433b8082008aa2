/-- the reference, fresh: thrown, and where its arrays lie -/
abbrev zM (v : Int32) (r : Nat → Nat) : List Value := [.int v, .ref (r 1), .int 0, .int 0, .ref (r 4), .ref (r 5), .ref (r 6), .ref (r 7), .ref (r 8), .ref (r 9), .ref (r 10), .ref (r 11), .ref (r 12), .ref (r 13), .ref (r 14), .ref (r 15), .ref (r 16), .ref (r 17), .ref (r 18), .ref (r 19), .ref (r 20), .int 0, .int 0, .int 0, .long 0, .int 0, .int 0, .int 0, .ref (r 28), .int 0, .ref (r 30), .ref (r 31), .ref (r 32), .ref (r 33), .ref (r 34), .ref (r 35), .ref (r 36), .ref (r 37), .ref (r 38), .ref (r 39), .int 0, .int 0, .int 0, .int 0, .int 0, .int 0]
theorem z_lt {x y : Int64} : lg_cmp x y < 0 ↔ x < y := by
  unfold lg_cmp
  by_cases h1 : y < x
  · rw [if_pos h1]
    exact ⟨fun h => absurd h (by decide), fun h => (Int64.lt_irrefl (Int64.lt_trans h h1)).elim⟩
  · rw [if_neg h1]
    by_cases h2 : x = y
    · rw [if_pos h2]
      exact ⟨fun h => absurd h (by decide), fun h => (Int64.lt_irrefl (h2 ▸ h)).elim⟩
    · rw [if_neg h2]
      refine ⟨fun _ => ?_, fun _ => by decide⟩
      rw [Int64.lt_iff_toInt_lt] at h1 ⊢
      have h3 := mt Int64.toInt_inj.mp h2
      omega
theorem z_gt {x y : Int64} : 0 < lg_cmp x y ↔ y < x := by
  unfold lg_cmp
  by_cases h1 : y < x
  · rw [if_pos h1]
    exact ⟨fun _ => h1, fun _ => by decide⟩
  · rw [if_neg h1]
    by_cases h2 : x = y
    · rw [if_pos h2]
      exact ⟨fun h => absurd h (by decide), fun h => absurd h h1⟩
    · rw [if_neg h2]
      exact ⟨fun h => absurd h (by decide), fun h => absurd h h1⟩
/-- none lies between 0 and what stands below it -/
theorem z_no {a b : Int64} (hb : b = -1) : ¬ (0 ≤ a ∧ a ≤ b) := fun h => absurd (Int64.le_trans h.1 (hb ▸ h.2)) (by decide)

