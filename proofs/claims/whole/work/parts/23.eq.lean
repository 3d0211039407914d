/-- two worlds alike at a cell -/
theorem zeq_gen {Z Z' : zM} {sb sb' : Nat → Option Nat} {mcn mcn' : Nat → Int32} {cp cp' : Nat → Nat} {e0 : Nat} {Y Y' : zM} {th th' : Int32} {o o' : Nat → Int64} {od od' : Nat → UInt64} {ad ad' : Nat → Nat} (j : Nat)
    (hX : j = 0 → eX Z' ad' = eX Z ad) (hH : j = 1 → eHouse Z' ad' = eHouse Z ad) (hA : j = 2 → eArr ad' = eArr ad) (hT : j = 3 → eTr ad' = eTr ad) (hE : j = 4 → eEv Z' ad' = eEv Z ad)
    (hLs : ∀ i, i < 3 → j = 5 + i → eList Z' mcn' cp' e0 ad' i = eList Z mcn cp e0 ad i) (hLa : ∀ i, i < 3 → j = 8 + i → (cp' i = 0 ↔ cp i = 0) ∧ (cp i ≠ 0 → eLArr Z' cp' ad' i = eLArr Z cp ad i))
    (hS : ∀ b, b < 80 → j = 100 + b → sSeat Z' ad' b = sSeat Z ad b)
    (hHd : ∀ b, b < 20 → j = 200 + b → (b < zN Z' 0 ↔ b < zN Z 0) ∧ (b < zN Z 0 → sHand Z' sb' ad' b = sHand Z sb ad b)) (hSg : ∀ b, b < 20 → j = 220 + b → (b < zN Z' 1 ↔ b < zN Z 1) ∧ (b < zN Z 1 → sSinger Z' b = sSinger Z b)) (hCu : ∀ b, b < 20 → j = 240 + b → (b < zN Z' 2 ↔ b < zN Z 2) ∧ (b < zN Z 2 → sCue Z' ad' b = sCue Z ad b))
    (hD : 300 ≤ j → zD Y' th' o' od' ad' j = zD Y th o od ad j) : zent Z' sb' mcn' cp' e0 Y' th' o' od' ad' j = zent Z sb mcn cp e0 Y th o od ad j := by
  by_cases h : j < 300
  · simp only [zent, if_pos h, zC]
    by_cases h1 : j < 100
    · rw [if_pos h1, if_pos h1]
      by_cases j0 : j = 0
      · rw [if_pos j0, if_pos j0, hX j0]
      rw [if_neg j0, if_neg j0]
      by_cases j1 : j = 1
      · rw [if_pos j1, if_pos j1, hH j1]
      rw [if_neg j1, if_neg j1]
      by_cases j2 : j = 2
      · rw [if_pos j2, if_pos j2, hA j2]
      rw [if_neg j2, if_neg j2]
      by_cases j3 : j = 3
      · rw [if_pos j3, if_pos j3, hT j3]
      rw [if_neg j3, if_neg j3]
      by_cases j4 : j = 4
      · rw [if_pos j4, if_pos j4, hE j4]
      rw [if_neg j4, if_neg j4]
      by_cases j8 : j < 8
      · rw [if_pos j8, if_pos j8, hLs (j - 5) (by omega) (by omega)]
      rw [if_neg j8, if_neg j8]
      by_cases j11 : j < 11
      · rw [if_pos j11, if_pos j11]
        obtain ⟨a1, a2⟩ := hLa (j - 8) (by omega) (by omega)
        by_cases c0 : cp (j - 8) = 0
        · rw [if_pos c0, if_pos (a1.mpr c0)]
        · rw [if_neg c0, if_neg (fun q => c0 (a1.mp q)), a2 c0]
      rw [if_neg j11, if_neg j11]
    · rw [if_neg h1, if_neg h1]
      by_cases h2 : j < 180
      · rw [if_pos h2, if_pos h2, hS (j - 100) (by omega) (by omega)]
      rw [if_neg h2, if_neg h2]
      by_cases h3 : j < 200
      · rw [if_pos h3, if_pos h3]
      rw [if_neg h3, if_neg h3]
      by_cases h4 : j < 220
      · rw [if_pos h4, if_pos h4]
        obtain ⟨a1, a2⟩ := hHd (j - 200) (by omega) (by omega)
        by_cases c0 : j - 200 < zN Z 0
        · rw [if_pos c0, if_pos (a1.mpr c0), a2 c0]
        · rw [if_neg c0, if_neg (fun q => c0 (a1.mp q))]
      rw [if_neg h4, if_neg h4]
      by_cases h5 : j < 240
      · rw [if_pos h5, if_pos h5]
        obtain ⟨a1, a2⟩ := hSg (j - 220) (by omega) (by omega)
        by_cases c0 : j - 220 < zN Z 1
        · rw [if_pos c0, if_pos (a1.mpr c0), a2 c0]
        · rw [if_neg c0, if_neg (fun q => c0 (a1.mp q))]
      rw [if_neg h5, if_neg h5]
      by_cases h6 : j < 260
      · rw [if_pos h6, if_pos h6]
        obtain ⟨a1, a2⟩ := hCu (j - 240) (by omega) (by omega)
        by_cases c0 : j - 240 < zN Z 2
        · rw [if_pos c0, if_pos (a1.mpr c0), a2 c0]
        · rw [if_neg c0, if_neg (fun q => c0 (a1.mp q))]
      rw [if_neg h6, if_neg h6]
  · simp only [zent, if_neg h]
    exact hD (by omega)
/-- the list of cues is cleared: what is seen of the world behind it -/
theorem zw_clear {Z : zM} {sb : Nat → Option Nat} {mcn : Nat → Int32} {cp : Nat → Nat} {e0 : Nat} {Y : zM} {th : Int32} {o : Nat → Int64} {od : Nat → UInt64} {ad : Nat → Nat} {w : zH}
    (h7 : w 7 = some (zLs (mcn 2 + 1) (.ref (if cp 2 = 0 then e0 else ad 10)) 0)) (h10 : cp 2 ≠ 0 → w 10 = some (zAr (cp 2) (fun _ => none))) (hw : ∀ j, j ≠ 7 → j ≠ 10 → w j = zent Z sb mcn cp e0 Y th o od ad j) :
    ∀ j e, zent (zu Z 27 0 0) sb (va_up mcn 2 (mcn 2 + 1)) cp e0 Y th o od ad j = some e → w j = some e := by
  intro j e he
  have hN2 : zN (zu Z 27 0 0) 2 = 0 := by simp [zN, zu]
  by_cases j7 : j = 7
  · subst j7
    rw [h7, ← he]
    show _ = some (eList (zu Z 27 0 0) (va_up mcn 2 (mcn 2 + 1)) cp e0 ad 2)
    unfold eList zLs
    rw [zup_s, show zu Z 27 0 0 (25 + 2) 0 = 0 by simp [zu]]
  by_cases j10 : j = 10
  · subst j10
    by_cases c0 : cp 2 = 0
    · exfalso
      have hz : zent (zu Z 27 0 0) sb (va_up mcn 2 (mcn 2 + 1)) cp e0 Y th o od ad 10 = none := by simp [zent, zC, c0]
      rw [hz] at he; cases he
    · rw [h10 c0, ← he]
      show _ = zent _ _ _ _ _ _ _ _ _ _ (8 + 2)
      rw [zg_larr (by decide) c0]
      unfold eLArr zAr
      rw [hN2]
      simp
  rw [hw j j7 j10, ← he]
  by_cases hc : 240 ≤ j ∧ j < 260
  · exfalso
    have hz : zent (zu Z 27 0 0) sb (va_up mcn 2 (mcn 2 + 1)) cp e0 Y th o od ad j = none := by
      simp only [zent, zC]
      rw [if_pos (by omega), if_neg (by omega), if_neg (by omega), if_neg (by omega), if_neg (by omega), if_neg (by omega), if_pos (by omega), hN2, if_neg (by omega)]
    rw [hz] at he; cases he
  · have hN : ∀ a, a < 2 → zN (zu Z 27 0 0) a = zN Z a := fun a ha => by
      have : 25 + a ≠ 27 := by omega
      simp [zN, zu, this]
    refine (zeq_gen j (fun _ => by simp [eX, zu]) (fun _ => by simp [eHouse, zu]) (fun _ => rfl) (fun _ => rfl) (fun _ => by simp [eEv, zu]) (fun i hi e9 => ?_) (fun i hi e9 => ?_) (fun b hb e9 => by simp [sSeat, zu]) (fun b hb e9 => ⟨by rw [hN 0 (by decide)], fun _ => by simp [sHand, zu]⟩) (fun b hb e9 => ⟨by rw [hN 1 (by decide)], fun _ => by simp [sSinger, zu]⟩) (fun b hb e9 => absurd e9 (by omega)) (fun _ => rfl)).symm
    · have hi2 : i ≠ 2 := by omega
      have : 25 + i ≠ 27 := by omega
      unfold eList
      rw [zup_n hi2, zu_f this]
    · have hi2 : i < 2 := by omega
      refine ⟨Iff.rfl, fun _ => ?_⟩
      unfold eLArr
      rw [hN i hi2]
