theorem fMax_19 (x : Int32) : ∃ v, v < 10 ∧ fMax 1 (fMin 9 x) = nI v := by
  unfold fMax fMin
  by_cases h9 : x < 9
  · rw [if_pos h9]
    by_cases h1 : 1 < x
    · rw [if_pos h1]
      obtain ⟨a, ha, rfl⟩ := nI_of (x := x) (fun z => absurd (Int32.lt_trans h1 z) (by decide))
      exact ⟨a, by have := (nI_ltI (a := a) (b := 9) ha (by decide)).mp h9; omega, rfl⟩
    · rw [if_neg h1]
      exact ⟨1, by decide, rfl⟩
  · rw [if_neg h9, if_pos (by decide)]
    exact ⟨9, by decide, rfl⟩
theorem fMax_01 : ∀ v, v < 10 → ∃ u, u < 10 ∧ fMax 0 (nI v - 1) = nI u := by decide +kernel
theorem fMin_sf : ∀ s, s < 10 → ∀ f, f < 4 → ∃ v, v < 10 ∧ fMin 9 (nI s * nI f) = nI v := by decide +kernel
theorem fNoise_le {Y : zM} {j : Nat} (hf : ∀ c, c < zN Y 2 → ∃ f, f < 4 ∧ Y 21 c = nI f) (hs : ∃ s, s < 10 ∧ Y 11 j = nI s) : ∃ v, v < 10 ∧ fNoise Y j = nI v := by
  unfold fNoise
  split
  · obtain ⟨s, h1, h2⟩ := hs
    obtain ⟨f, h3, h4⟩ := fForce_le (j := j) hf (zN Y 2) (Nat.le_refl _)
    rw [h2, h4]
    exact fMin_sf s h1 f h3
  · exact ⟨0, by decide, rfl⟩
theorem fSits_3 {W : zM} {a b : Nat} (h3 : ∃ v, v < 10 ∧ W 3 (a * 10 + b) = nI v) (h5 : ∃ v, v < 10 ∧ W 5 (a * 10 + b) = nI v) (hf : ∀ c, c < zN W 2 → ∃ f, f < 4 ∧ W 21 c = nI f) (hs : ∀ j, zh (W 2 (a * 10 + b)) = some j → ∃ s, s < 10 ∧ W 11 j = nI s) : ∃ v, v < 10 ∧ fSits W a b 3 (a * 10 + b) = nI v := by
  unfold fSits
  split
  · unfold fPay
    split
    · rw [zu_s]
      obtain ⟨v, h1, h2⟩ := h5
      rw [h2]
      exact fMax_01 v h1
    · rw [zu_s]
      exact fMax_19 _
  · split
    · split
      · rw [zu_f (by decide), zu_f (by decide)]; exact h3
      · rw [zu_f (by decide), zu_f (by decide)]; exact h3
    · cases hz : zh (W 2 (a * 10 + b)) with
      | none => exact h3
      | some j =>
        show ∃ v, v < 10 ∧ zu W 3 (a * 10 + b) (fNoise W j) 3 (a * 10 + b) = nI v
        rw [zu_s]
        exact fNoise_le hf (hs j hz)
