/-- the premise of mTick_eq out of the seats' invariant -/
theorem jSeats.mInv {Z : zM} {nr nc : Nat} (h : jSeats nr nc Z) (hf : ∀ c, c < zN Z 2 → ∃ f, f < 4 ∧ Z 21 c = nI f) (hs : ∀ k, k < 80 → ∀ j, zh (Z 2 k) = some j → ∃ s, s < 10 ∧ Z 11 j = nI s) : mInv nr nc 0 (fIter fKeep Z 80) := by
  have hk : ∀ f, f ≠ 5 ∧ f ≠ 8 → fIter fKeep Z 80 f = Z f := fun f hf => funext fun k => fKeep_n hf 80 k
  refine ⟨fun k hk8 => ?_, fun c hc => ?_⟩
  · obtain ⟨a1, a2, a3, a4, a5, a6⟩ := h.1 k hk8
    unfold mAt1
    rw [hk 0 (by decide), hk 2 (by decide), hk 11 (by decide), hk 6 (by decide), hk 7 (by decide), hk 3 (by decide), fKeep_5 Z 80 k hk8]
    exact ⟨a1, fun j hj => ⟨a2 j hj, hs k hk8 j hj⟩, a3, a4, a5, fun _ => rfl⟩
  · rw [hk 21 (by decide)]
    exact hf c (by unfold zN at hc ⊢; rw [hk (25 + 2) (by decide)] at hc; exact hc)
/-- loud stays below five -/
def jLoud (Z : zM) : Prop := ∃ l, l < 5 ∧ Z 30 0 = nI l
theorem jLoud.hear {Z : zM} {s : Int32} (h : jLoud Z) : jLoud (fHear Z s) := by
  obtain ⟨l, h1, h2⟩ := h
  unfold fHear
  split
  · exact ⟨0, by decide, zu_s _ _ _ _⟩
  · split
    · next q =>
      rw [h2] at q ⊢
      have hd : ∀ l, l < 5 → nI l + 1 < 5 → ∃ m, m < 5 ∧ nI l + 1 = nI m := by decide +kernel
      obtain ⟨m, h3, h4⟩ := hd l h1 q
      exact ⟨m, h3, by rw [zu_s]; exact h4⟩
    · unfold fCalled
      generalize fLast _ _ = q
      cases q with
      | none => exact ⟨0, by decide, by dsimp only; rw [zu_f (by decide), zu_s]; rfl⟩
      | some c => exact ⟨0, by decide, by dsimp only; rw [zu_f (by decide), zu_f (by decide), zu_s]; rfl⟩
theorem fSits_30 {W : zM} {a b : Nat} : fSits W a b 30 0 = W 30 0 := by
  unfold fSits
  split
  · unfold fPay
    split
    · rw [zu_f (by decide), zu_f (by decide)]
    · rw [zu_f (by decide), zu_f (by decide), zu_f (by decide)]
  · split
    · split
      · rw [zu_f (by decide), zu_f (by decide)]
      · rw [zu_f (by decide), zu_f (by decide)]
    · cases zh (W 2 (a * 10 + b)) with
      | none => rfl
      | some j => exact zu_f (by decide)
theorem fTickRow_30 {W : zM} {a : Nat} : ∀ b, fTickRow W a b 30 0 = W 30 0
  | 0 => rfl
  | b + 1 => fSits_30.trans (fTickRow_30 b)
theorem fTickRows_30 {W : zM} {nc : Nat} : ∀ a, fTickRows W nc a 30 0 = W 30 0
  | 0 => rfl
  | a + 1 => (fTickRow_30 nc).trans (fTickRows_30 a)
theorem jLoud.tick {Z : zM} (h : jLoud Z) : jLoud (fT Z) := by
  have h1 : jLoud (fTickRows (fIter fKeep Z 80) (Z 24 0).toNatClampNeg (Z 23 0).toNatClampNeg) := by
    obtain ⟨l, h1, h2⟩ := h
    exact ⟨l, h1, by rw [fTickRows_30, fKeep_n (by decide)]; exact h2⟩
  obtain ⟨l, h3, h4⟩ := h1.hear (s := fSum (fTickRows (fIter fKeep Z 80) (Z 24 0).toNatClampNeg (Z 23 0).toNatClampNeg 3) 80)
  refine ⟨l, h3, ?_⟩
  unfold fT fTick fTickEnd
  rw [zu_f (by decide)]
  unfold fJudge
  split
  · rw [zu_f (by decide)]; exact h4
  · exact h4
/-- the model's runs are the class's -/
theorem mRun_eq {Z : zM} (hh : zHouse Z) (h : jSeats (Z 23 0).toNatClampNeg (Z 24 0).toNatClampNeg Z) (hl : jLoud Z) (hf : ∀ c, c < zN Z 2 → ∃ f, f < 4 ∧ Z 21 c = nI f) (hs : ∀ k, k < 80 → ∀ j, zh (Z 2 k) = some j → ∃ s, s < 10 ∧ Z 11 j = nI s) : ∀ n, mRun Z n = fRun Z n ∧ jSeats (Z 23 0).toNatClampNeg (Z 24 0).toNatClampNeg (fRun Z n) ∧ jLoud (fRun Z n)
  | 0 => ⟨rfl, h, hl⟩
  | n + 1 => by
    obtain ⟨e1, i1, l1⟩ := mRun_eq hh h hl hf hs n
    have fr := zFr_run Z n
    have hh' : zHouse (fRun Z n) := by
      obtain ⟨nr, nc, a1, a2, a3, a4⟩ := hh
      exact ⟨nr, nc, by rw [fr 23 (by omega)]; exact a1, by rw [fr 24 (by omega)]; exact a2, a3, a4⟩
    have hf' : ∀ c, c < zN (fRun Z n) 2 → ∃ f, f < 4 ∧ fRun Z n 21 c = nI f := fun c hc => by
      rw [fr 21 (by omega)]
      exact hf c (by unfold zN at hc ⊢; rw [fr (25 + 2) (by omega)] at hc; exact hc)
    have hs' : ∀ k, k < 80 → ∀ j, zh (fRun Z n 2 k) = some j → ∃ s, s < 10 ∧ fRun Z n 11 j = nI s := fun k hk j hj => by
      rw [fr 11 (by omega)]
      rw [fr 2 (by omega)] at hj
      exact hs k hk j hj
    refine ⟨?_, i1.tick hh' hf' hs', l1.tick⟩
    show mTick (mRun Z n) = fT (fRun Z n)
    rw [e1]
    refine mTick_eq hh' ?_ l1
    rw [fr 23 (by omega), fr 24 (by omega)]
    exact i1.mInv hf' hs'
