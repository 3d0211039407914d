/-- what holds in the midst of a tick -/
def jMid (nr nc : Nat) (Z : zM) : Prop := jSeats nr nc Z ∧ (∀ k, k < 80 → ∃ v, v < 10 ∧ Z 5 k = nI v) ∧ (∀ c, c < zN Z 2 → ∃ f, f < 4 ∧ Z 21 c = nI f) ∧ ∀ k, k < 80 → ∀ j, zh (Z 2 k) = some j → ∃ s, s < 10 ∧ Z 11 j = nI s
theorem jMid.sits {nr nc : Nat} {W : zM} {a b : Nat} (h : jMid nr nc W) (hb : b < 10) (hk : a * 10 + b < 80) : jMid nr nc (fSits W a b) := by
  obtain ⟨h1, h2, h3, h4⟩ := h
  have fr := zFr_sits W a b
  have e0 := fr 0 (by omega)
  have e2 := fr 2 (by omega)
  have e11 := fr 11 (by omega)
  have e21 := fr 21 (by omega)
  have e27 : zN (fSits W a b) 2 = zN W 2 := by unfold zN; rw [fr (25 + 2) (by omega)]
  refine ⟨⟨fun k hk8 => ?_, fun k => fSits_7 h1.2 k⟩, fun k hk8 => by rw [fSits_5]; exact h2 k hk8, fun c hc => by rw [e21]; exact h3 c (by rw [← e27]; exact hc), fun k hk8 j hj => by rw [e11]; rw [e2] at hj; exact h4 k hk8 j hj⟩
  obtain ⟨a1, a2, a3, a4, a5, a6⟩ := h1.1 k hk8
  unfold jSeat
  rw [e0, e2]
  refine ⟨a1, a2, fun q => ?_, fun q => ?_, a5, ?_⟩
  · by_cases e : k = a * 10 + b
    · rw [fSits_6 (by rw [← e]; exact q)]; exact a3 q
    · rw [fSits_k (by decide) e]; exact a3 q
  · by_cases e : k = a * 10 + b
    · rw [fSits_7k (by rw [← e]; exact q)]; exact a4 q
    · rw [fSits_k (by decide) e]; exact a4 q
  · by_cases e : k = a * 10 + b
    · rw [e]
      rw [e] at a6
      exact fSits_3 a6 (h2 _ hk) h3 (h4 _ hk)
    · rw [fSits_k (by decide) e]; exact a6
theorem jMid.row {nr nc : Nat} {W : zM} {a : Nat} (h : jMid nr nc W) (ha : a < 8) : ∀ b, b ≤ 10 → jMid nr nc (fTickRow W a b)
  | 0, _ => h
  | b + 1, hb => (h.row ha b (by omega)).sits (by omega) (by omega)
theorem jMid.rows {nr nc mc : Nat} {W : zM} (h : jMid nr nc W) (hm : mc ≤ 10) : ∀ a, a ≤ 8 → jMid nr nc (fTickRows W mc a)
  | 0, _ => h
  | a + 1, ha => (h.rows hm a (by omega)).row (by omega) mc hm
theorem fHear_n {Z : zM} {s : Int32} {f k : Nat} (hf : f ≠ 18 ∧ f ≠ 30 ∧ f ≠ 31) : fHear Z s f k = Z f k := by
  unfold fHear
  split
  · exact zu_f hf.2.1
  · split
    · exact zu_f hf.2.1
    · unfold fCalled
      generalize fLast _ _ = q
      cases q with
      | none => dsimp only; rw [zu_f hf.2.2, zu_f hf.2.1, zu_f hf.2.1]
      | some c => dsimp only; rw [zu_f hf.1, zu_f hf.2.2, zu_f hf.2.1, zu_f hf.2.1]
theorem fTickEnd_n {Z : zM} {f k : Nat} (hf : f ≠ 18 ∧ f ≠ 29 ∧ f ≠ 30 ∧ f ≠ 31 ∧ f ≠ 33) : fTickEnd Z f k = Z f k := by
  unfold fTickEnd
  rw [zu_f hf.2.1]
  unfold fJudge
  split
  · rw [zu_f hf.2.2.2.2, fHear_n ⟨hf.1, hf.2.2.1, hf.2.2.2.1⟩]
  · rw [fHear_n ⟨hf.1, hf.2.2.1, hf.2.2.2.1⟩]
theorem fKeep_5 (Y : zM) : ∀ i k, k < i → fIter fKeep Y i 5 k = Y 3 k
  | 0, _, h => absurd h (by omega)
  | i + 1, k, h => by
    show zu (zu (fIter fKeep Y i) 5 i (fIter fKeep Y i 3 i)) 8 i (fIter fKeep Y i 7 i) 5 k = _
    rw [zu_f (by decide)]
    by_cases e : k = i
    · subst e; rw [zu_s, fKeep_n (by decide)]
    · rw [zu_k e]; exact fKeep_5 Y i k (by omega)
/-- a tick keeps the seats' invariant -/
theorem jSeats.tick {Z : zM} (hh : zHouse Z) {nr nc : Nat} (h : jSeats nr nc Z) (hf : ∀ c, c < zN Z 2 → ∃ f, f < 4 ∧ Z 21 c = nI f) (hs : ∀ k, k < 80 → ∀ j, zh (Z 2 k) = some j → ∃ s, s < 10 ∧ Z 11 j = nI s) : jSeats nr nc (fT Z) := by
  obtain ⟨-, -, d3, d4⟩ := zHouse_dim hh
  have hk : ∀ f, f ≠ 5 ∧ f ≠ 8 → fIter fKeep Z 80 f = Z f := fun f hf => funext fun k => fKeep_n hf 80 k
  have h0 : jMid nr nc (fIter fKeep Z 80) := by
    refine ⟨h.of (hk 0 (by decide)) (hk 2 (by decide)) (hk 3 (by decide)) (hk 6 (by decide)) (hk 7 (by decide)), fun k hk8 => ?_, fun c hc => ?_, fun k hk8 j hj => ?_⟩
    · rw [fKeep_5 Z 80 k hk8]
      exact (h.1 k hk8).2.2.2.2.2
    · rw [hk 21 (by decide)]
      exact hf c (by unfold zN at hc ⊢; rw [hk (25 + 2) (by decide)] at hc; exact hc)
    · rw [hk 11 (by decide)]
      rw [hk 2 (by decide)] at hj
      exact hs k hk8 j hj
  have h8 := (h0.rows d4 _ d3).1
  unfold fT fTick
  exact h8.of (funext fun _ => fTickEnd_n (by decide)) (funext fun _ => fTickEnd_n (by decide)) (funext fun _ => fTickEnd_n (by decide)) (funext fun _ => fTickEnd_n (by decide)) (funext fun _ => fTickEnd_n (by decide))
