theorem zSb.build {Z : zM} {sb : Nat → Option Nat} (h : zSb Z sb) : ∀ i, i ≤ 80 → zSb (fBuild Z sb i).1 (fBuild Z sb i).2
  | 0, _ => h
  | i + 1, hi => (zSb.build h i (by omega)).take (by omega)
theorem zSb.of {Z Z' : zM} {sb : Nat → Option Nat} (h : zSb Z sb) (e0 : zN Z' 0 = zN Z 0) (e2 : Z' 2 = Z 2) : zSb Z' sb := by
  unfold zSb
  rw [e0, e2]
  exact h
theorem zSb.mv1 {Z : zM} {sb : Nat → Option Nat} {j : Nat} (h : zSb Z sb) (hj : j < zN Z 0) : zSb (fMv1 Z sb j) (fMvS Z sb j) ∧ zN (fMv1 Z sb j) 0 = zN Z 0 ∧ fMvS Z sb j j = none := by
  unfold fMv1 fMvS
  cases hs : sb j with
  | none => exact ⟨h, rfl, hs⟩
  | some k0 =>
    obtain ⟨h1, h2⟩ := h.1 j k0 hj hs
    refine ⟨h.take h1, zN_take, ?_⟩
    show fUn Z sb k0 j = none
    unfold fUn
    rw [h2]
    exact zup_s _ _ _
theorem zSb.move {Z : zM} {sb : Nat → Option Nat} {j k0 : Nat} (h : zSb Z sb) (hj : j < zN Z 0) (hj2 : j < 2 ^ 31) (hk0 : k0 < 80) : zSb (fMove Z sb j k0) (fMoveS Z sb j k0) := by
  obtain ⟨h1, e1, n1⟩ := h.mv1 hj
  obtain ⟨W, hW⟩ : ∃ W, W = fMv1 Z sb j := ⟨_, rfl⟩
  obtain ⟨S, hS⟩ : ∃ S, S = fMvS Z sb j := ⟨_, rfl⟩
  rw [← hW] at h1 e1
  rw [← hS] at h1 n1
  have h2 := h1.take (c := 104) hk0
  have n2 : fUn W S k0 j = none := by
    unfold fUn
    cases hq : zh (W 2 k0) with
    | none => exact n1
    | some m =>
      show va_up S m none j = none
      by_cases e : j = m
      · rw [e, zup_s]
      · rw [zup_n e]; exact n1
  unfold fMove fMoveS
  rw [← hW, ← hS]
  have hz0 : zh (fTake W k0 104 2 k0) = none := by
    rw [show fTake W k0 104 2 k0 = -1 by rw [fTake_at]; simp]
    exact zh_m1
  refine ⟨fun i k hi hs => ?_, fun k hk i hi => ?_⟩
  · rw [zN_zu2] at hi
    by_cases e : i = j
    · subst e
      rw [zup_s] at hs
      cases hs
      exact ⟨hk0, by rw [zu_s]; exact zh_nI hj2⟩
    · rw [zup_n e] at hs
      obtain ⟨a1, a2⟩ := h2.1 i k hi hs
      refine ⟨a1, ?_⟩
      rw [zu_k (fun z => by rw [z, hz0] at a2; cases a2)]
      exact a2
  · by_cases e : k = k0
    · subst e
      rw [zu_s, zh_nI hj2] at hi
      cases hi
      exact zup_s _ _ _
    · rw [zu_k e] at hi
      have a1 := h2.2 k hk i hi
      rw [zup_n (fun z => by rw [z, n2] at a1; cases a1)]
      exact a1
/-- hands' ranks: the parts are some -/
theorem fPt_pos {Z : zM} (hr : ∀ j, j < zN Z 0 → ∃ r, r < 4 ∧ Z 12 j = nI r) : ∀ n, n ≤ zN Z 0 → n ≤ 12 → ∃ p, 5 ≤ p ∧ p ≤ 5 + 4 * n ∧ fPt Z n = nI p
  | 0, _, _ => ⟨5, by decide, by decide, rfl⟩
  | n + 1, h1, h2 => by
    obtain ⟨p, a1, a2, a3⟩ := fPt_pos hr n (by omega) (by omega)
    obtain ⟨r, b1, b2⟩ := hr n (by omega)
    refine ⟨p + (r + 1), by omega, by omega, ?_⟩
    show fPt Z n + (Z 12 n + 1) = _
    rw [a3, b2, nI_1]
    have hd : ∀ p, p < 60 → ∀ r, r < 5 → nI p + nI r = nI (p + r) := by decide +kernel
    exact hd p (by omega) (r + 1) (by omega)
