theorem zh_m1 : zh (-1) = none := rfl
/-- what holds of a seat at all times: nr rows of nc places -/
def jSeat (nr nc : Nat) (Z : zM) (k : Nat) : Prop := (Z 0 k = 104 → ∃ j, zh (Z 2 k) = some j) ∧ (∀ j, zh (Z 2 k) = some j → Z 0 k = 104) ∧ (Z 0 k ≠ 112 → Z 6 k = 0) ∧ (Z 0 k ≠ 114 → Z 7 k = 0) ∧ (¬ (k / 10 < nr ∧ k % 10 < nc) → Z 0 k ≠ 104 ∧ Z 0 k ≠ 112 ∧ Z 0 k ≠ 114) ∧ ∃ v, v < 10 ∧ Z 3 k = nI v
def jSeats (nr nc : Nat) (Z : zM) : Prop := (∀ k, k < 80 → jSeat nr nc Z k) ∧ ∀ k, zBol (Z 7 k)
theorem jSeat.of {nr nc : Nat} {Z Z' : zM} {k : Nat} (h : jSeat nr nc Z k) (e0 : Z' 0 k = Z 0 k) (e2 : Z' 2 k = Z 2 k) (e3 : Z' 3 k = Z 3 k) (e6 : Z' 6 k = Z 6 k) (e7 : Z' 7 k = Z 7 k) : jSeat nr nc Z' k := by
  unfold jSeat
  rw [e0, e2, e3, e6, e7]
  exact h
theorem jSeats.of {nr nc : Nat} {Z Z' : zM} (h : jSeats nr nc Z) (e0 : Z' 0 = Z 0) (e2 : Z' 2 = Z 2) (e3 : Z' 3 = Z 3) (e6 : Z' 6 = Z 6) (e7 : Z' 7 = Z 7) : jSeats nr nc Z' :=
  ⟨fun k hk => (h.1 k hk).of (by rw [e0]) (by rw [e2]) (by rw [e3]) (by rw [e6]) (by rw [e7]), fun k => by rw [e7]; exact h.2 k⟩
/-- an empty place, a payer's, a rival's -/
theorem jSeats.take {nr nc : Nat} {Z : zM} {k0 : Nat} {c : Int32} (h : jSeats nr nc Z) (hc : c = 46 ∨ ((c = 112 ∨ c = 114) ∧ k0 / 10 < nr ∧ k0 % 10 < nc)) : jSeats nr nc (fTake Z k0 c) := by
  refine ⟨fun k hk => ?_, fun k => ?_⟩
  · by_cases e : k = k0
    · subst e
      have h0 : fTake Z k c 0 k = c := by rw [fTake_at]; simp
      have h2 : fTake Z k c 2 k = -1 := by rw [fTake_at]; simp
      have h3 : fTake Z k c 3 k = 0 := by rw [fTake_at]; simp
      have h6 : fTake Z k c 6 k = 0 := by rw [fTake_at]; simp
      have h7 : fTake Z k c 7 k = 0 := by rw [fTake_at]; simp
      unfold jSeat
      rw [h0, h2, h3, h6, h7]
      refine ⟨fun q => ?_, fun j q => ?_, fun _ => rfl, fun _ => rfl, fun q => ?_, 0, by decide, rfl⟩
      · exfalso
        rcases hc with rfl | ⟨rfl | rfl, _⟩
        · exact absurd q (by decide)
        · exact absurd q (by decide)
        · exact absurd q (by decide)
      · rw [zh_m1] at q; cases q
      · rcases hc with rfl | ⟨_, hin⟩
        · exact ⟨by decide, by decide, by decide⟩
        · exact absurd hin q
    · exact (h.1 k hk).of (by rw [fTake_at, if_neg e]) (by rw [fTake_at, if_neg e]) (by rw [fTake_at, if_neg e]) (by rw [fTake_at, if_neg e]) (by rw [fTake_at, if_neg e])
  · rw [fTake_at]
    by_cases e : k = k0
    · rw [if_pos e]
      simpa using zBol_0
    · rw [if_neg e]
      exact h.2 k
theorem jSeats.build {nr nc : Nat} {Z : zM} {sb : Nat → Option Nat} (h7 : ∀ k, zBol (Z 7 k)) : jSeats nr nc (fBuild Z sb 80).1 := by
  refine ⟨fun k hk => ?_, fun k => ?_⟩
  · have h0 : (fBuild Z sb 80).1 0 k = 46 := by rw [fBuild_at, if_pos hk]; rfl
    have h2 : (fBuild Z sb 80).1 2 k = -1 := by rw [fBuild_at, if_pos hk]; rfl
    have h3 : (fBuild Z sb 80).1 3 k = 0 := by rw [fBuild_at, if_pos hk]; rfl
    have h6 : (fBuild Z sb 80).1 6 k = 0 := by rw [fBuild_at, if_pos hk]; rfl
    have h7' : (fBuild Z sb 80).1 7 k = 0 := by rw [fBuild_at, if_pos hk]; rfl
    unfold jSeat
    rw [h0, h2, h3, h6, h7']
    exact ⟨fun q => absurd q (by decide), fun j q => (by rw [zh_m1] at q; cases q), fun _ => rfl, fun _ => rfl, fun _ => ⟨by decide, by decide, by decide⟩, 0, by decide, rfl⟩
  · rw [fBuild_at]
    by_cases q : k < 80
    · rw [if_pos q]; simpa using zBol_0
    · rw [if_neg q]; exact h7 k
theorem jSeats.rest {nr nc : Nat} {Z : zM} (h : jSeats nr nc Z) : jSeats nr nc (fIter fRest Z 80) := by
  refine ⟨fun k hk => ?_, fun k => ?_⟩
  · obtain ⟨h1, h2, h3, h4, h5, h6⟩ := h.1 k hk
    unfold jSeat
    rw [fRest_n (by decide), fRest_n (by decide), fRest_at, fRest_at, fRest_at, if_pos ⟨hk, by decide⟩, if_pos ⟨hk, by decide⟩, if_pos ⟨hk, by decide⟩]
    exact ⟨h1, h2, fun _ => rfl, fun _ => rfl, h5, 0, by decide, rfl⟩
  · rw [fRest_at]
    by_cases q : k < 80
    · rw [if_pos ⟨q, by decide⟩]; exact zBol_0
    · rw [if_neg (fun z => q z.1)]; exact h.2 k
theorem fRise_n {Z : zM} {f k : Nat} (hf : f ≠ 18) (h : ¬ (f = 27 ∨ (29 ≤ f ∧ f ≤ 33))) : fRise Z f k = Z f k := by
  unfold fRise
  rw [fC0_n hf, fBegin_n h]
theorem jSeats.rise {nr nc : Nat} {Z : zM} (h : jSeats nr nc Z) : jSeats nr nc (fRise Z) :=
  h.of (funext fun _ => fRise_n (by decide) (by decide)) (funext fun _ => fRise_n (by decide) (by decide)) (funext fun _ => fRise_n (by decide) (by decide)) (funext fun _ => fRise_n (by decide) (by decide)) (funext fun _ => fRise_n (by decide) (by decide))
/-- a hand takes its place -/
theorem jSeats.move {nr nc : Nat} {Z : zM} {sb : Nat → Option Nat} {j k0 : Nat} (h : jSeats nr nc Z) (hj : j < 2 ^ 31) (hin : k0 / 10 < nr ∧ k0 % 10 < nc) : jSeats nr nc (fMove Z sb j k0) := by
  have h1 : jSeats nr nc (fMv1 Z sb j) := by
    unfold fMv1
    cases sb j with
    | none => exact h
    | some k1 => exact h.take (Or.inl rfl)
  obtain ⟨W, hW⟩ : ∃ W, W = fMv1 Z sb j := ⟨_, rfl⟩
  rw [← hW] at h1
  unfold fMove
  rw [← hW]
  refine ⟨fun k hk => ?_, fun k => ?_⟩
  · by_cases e : k = k0
    · subst e
      unfold jSeat
      rw [zu_s, zu_f (show (0 : Nat) ≠ 2 by decide), zu_f (show (3 : Nat) ≠ 2 by decide), zu_f (show (6 : Nat) ≠ 2 by decide), zu_f (show (7 : Nat) ≠ 2 by decide)]
      have h0 : fTake W k 104 0 k = 104 := by rw [fTake_at]; simp
      have h3 : fTake W k 104 3 k = 0 := by rw [fTake_at]; simp
      have h6 : fTake W k 104 6 k = 0 := by rw [fTake_at]; simp
      have h7 : fTake W k 104 7 k = 0 := by rw [fTake_at]; simp
      rw [h0, h3, h6, h7]
      exact ⟨fun _ => ⟨j, zh_nI hj⟩, fun _ _ => rfl, fun _ => rfl, fun _ => rfl, fun q => absurd hin q, 0, by decide, rfl⟩
    · exact (h1.1 k hk).of (by rw [zu_k e, fTake_at, if_neg e]) (by rw [zu_k e, fTake_at, if_neg e]) (by rw [zu_k e, fTake_at, if_neg e]) (by rw [zu_k e, fTake_at, if_neg e]) (by rw [zu_k e, fTake_at, if_neg e])
  · rw [zu_f (by decide), fTake_at]
    by_cases e : k = k0
    · rw [if_pos e]; simpa using zBol_0
    · rw [if_neg e]; exact h1.2 k
/-- hands and seats know each other: behind a taken place -/
theorem zSb.take {Z : zM} {sb : Nat → Option Nat} {k0 : Nat} {c : Int32} (h : zSb Z sb) (hk0 : k0 < 80) : zSb (fTake Z k0 c) (fUn Z sb k0) := by
  have hz : ∀ k, zh (fTake Z k0 c 2 k) = if k = k0 then none else zh (Z 2 k) := fun k => by
    rw [fTake_at]
    by_cases e : k = k0
    · rw [if_pos e, if_pos e]; rfl
    · rw [if_neg e, if_neg e]
  refine ⟨fun j k hj hs => ?_, fun k hk j hj => ?_⟩
  · rw [zN_take] at hj
    rw [hz]
    unfold fUn at hs
    cases hq : zh (Z 2 k0) with
    | none =>
      rw [hq] at hs
      obtain ⟨a1, a2⟩ := h.1 j k hj hs
      refine ⟨a1, ?_⟩
      rw [if_neg (fun e => by rw [e, hq] at a2; cases a2)]
      exact a2
    | some m =>
      rw [hq] at hs
      by_cases e : j = m
      · rw [e] at hs
        have hs2 : (va_up sb m none) m = some k := hs
        rw [zup_s] at hs2
        cases hs2
      · have hs2 : (va_up sb m none) j = some k := hs
        rw [zup_n e] at hs2
        obtain ⟨a1, a2⟩ := h.1 j k hj hs2
        refine ⟨a1, ?_⟩
        rw [if_neg (fun z => by rw [z, hq] at a2; exact e (Option.some.inj a2).symm)]
        exact a2
  · rw [hz] at hj
    by_cases e : k = k0
    · rw [if_pos e] at hj; cases hj
    · rw [if_neg e] at hj
      have a1 := h.2 k hk j hj
      unfold fUn
      cases hq : zh (Z 2 k0) with
      | none => exact a1
      | some m =>
        show va_up sb m none j = some k
        rw [zup_n, a1]
        rintro rfl
        have a2 := h.2 k0 hk0 j hq
        exact e (Option.some.inj (a1.symm.trans a2))
