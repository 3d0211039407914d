/-! ===== the law's start: the first world ===== -/
/-- the numbers of a new object, as the reference's constructor leaves them -/
def jZ0 : zM := fIter mEmp mY0 80
theorem jZ0_at (f j : Nat) : jZ0 f j = if j < 80 then (if f = 0 then 46 else if f = 2 then -1 else if f = 28 then 40 else 0) else (if f = 28 then 40 else 0) := by
  unfold jZ0
  rw [mEmp_at]
  unfold mY0
  by_cases q : j < 80
  · rw [if_pos q, if_pos q]
    by_cases f0 : f = 0
    · rw [if_pos f0, if_pos f0]
    · rw [if_neg f0, if_neg f0]
      by_cases f2 : f = 2
      · rw [if_pos f2, if_pos f2]
      · rw [if_neg f2, if_neg f2]
        by_cases f9 : f = 1 ∨ f = 3 ∨ f = 4 ∨ f = 6 ∨ f = 7
        · rw [if_pos f9, if_neg (by omega)]
        · rw [if_neg f9]
  · rw [if_neg q, if_neg q]
theorem jZ0_z {f j : Nat} (h0 : f ≠ 0) (h2 : f ≠ 2) (h28 : f ≠ 28) : jZ0 f j = 0 := by
  rw [jZ0_at]
  by_cases q : j < 80
  · rw [if_pos q, if_neg h0, if_neg h2, if_neg h28]
  · rw [if_neg q, if_neg h28]
theorem jZ0_28 : jZ0 28 0 = 40 := by rw [jZ0_at, if_pos (by decide), if_neg (by decide), if_neg (by decide), if_pos rfl]
theorem jZ0_0 {k : Nat} (hk : k < 80) : jZ0 0 k = 46 := by rw [jZ0_at, if_pos hk, if_pos rfl]
theorem jZ0_2 {k : Nat} (hk : k < 80) : jZ0 2 k = -1 := by rw [jZ0_at, if_pos hk, if_neg (by decide), if_pos rfl]
theorem jZ0_N {i : Nat} (hi : i < 3) : zN jZ0 i = 0 := by
  unfold zN
  rw [jZ0_z (by omega) (by omega) (by omega)]
  rfl
theorem jJ_0 : jJ 0 jZ0 (fun _ => none) (fun _ => 0) := by
  have n0 := jZ0_N (i := 0) (by decide)
  have n1 := jZ0_N (i := 1) (by decide)
  have n2 := jZ0_N (i := 2) (by decide)
  have e23 : jZ0 23 0 = 0 := jZ0_z (by decide) (by decide) (by decide)
  have e24 : jZ0 24 0 = 0 := jZ0_z (by decide) (by decide) (by decide)
  have hse : zSeats jZ0 := fun k hk => by
    rw [jZ0_0 hk, jZ0_2 hk]
    exact ⟨zChr_46, fun _ => rfl, fun j hj => (by rw [zh_m1] at hj; cases hj)⟩
  refine ⟨⟨⟨⟨0, 0, e23, e24, by decide, by decide⟩, by rw [e23, e24]⟩, fun i hi => ⟨⟨?_, ?_, Nat.zero_le 15, ?_⟩, Or.inl rfl⟩, by omega, fun c hc => by omega, fun j hj => by omega, fun k hk => by omega⟩, ⟨⟨fun k hk => ?_, fun k => ?_⟩, ⟨fun j k hj => by omega, fun k hk j hj => ?_⟩, fun k => ?_, hse⟩, ⟨0, by decide, jZ0_z (by decide) (by decide) (by decide)⟩, ⟨fun k _ => jZ0_z (by decide) (by decide) (by decide), fun k _ => ⟨jZ0_z (by decide) (by decide) (by decide), jZ0_z (by decide) (by decide) (by decide)⟩⟩, ⟨0, fun _ => 0, fun _ => 0, jZ0_z (by decide) (by decide) (by decide), fun k _ => ⟨jZ0_z (by decide) (by decide) (by decide), jZ0_z (by decide) (by decide) (by decide)⟩, by decide⟩⟩
  · rw [jZ0_N hi]
    exact jZ0_z (by omega) (by omega) (by omega)
  · rw [jZ0_N hi]
    exact Nat.zero_le _
  · rw [jZ0_N hi]
    exact Nat.zero_le _
  · unfold jSeat
    rw [jZ0_0 hk, jZ0_2 hk, jZ0_z (f := 3) (by decide) (by decide) (by decide), jZ0_z (f := 6) (by decide) (by decide) (by decide), jZ0_z (f := 7) (by decide) (by decide) (by decide)]
    exact ⟨fun q => absurd q (by decide), fun j q => (by rw [zh_m1] at q; cases q), fun _ => rfl, fun _ => rfl, fun _ => ⟨by decide, by decide, by decide⟩, 0, by decide, rfl⟩
  · rw [jZ0_z (by decide) (by decide) (by decide)]
    exact zBol_0
  · rw [jZ0_2 hk, zh_m1] at hj
    cases hj
  · rw [jZ0_at]
    by_cases q : k < 80
    · rw [if_pos q, if_pos rfl]
      exact zChr_46
    · rw [if_neg q, if_neg (by decide)]
      unfold zChr
      decide
theorem zZ0_at {f j : Nat} (hj : j < 80) : zZ0 f j = jZ0 f j := by
  rw [jZ0_at, if_pos hj]
  rfl
/-- the first world under other addresses, but its row of seats -/
theorem zlow {Z Z' : zM} (hZ : ∀ f k, k < 80 → Z f k = jZ0 f k) (hZ' : ∀ f k, k < 80 → Z' f k = jZ0 f k) {mcn : Nat → Int32} {e0 : Nat} {Y Y' : zM} {th th' : Int32} {o o' : Nat → Int64} {od od' : Nat → UInt64} {ad ad' : Nat → Nat} (ha : ∀ j, j < 300 → ad' j = ad j) {j : Nat} (hj : j < 300) (h2 : j ≠ 2) :
    zent Z' (fun _ => none) mcn (fun _ => 0) e0 Y' th' o' od' ad' j = zent Z (fun _ => none) mcn (fun _ => 0) e0 Y th o od ad j := by
  have e : ∀ f k, k < 80 → Z' f k = Z f k := fun f k hk => (hZ' f k hk).trans (hZ f k hk).symm
  have n : ∀ i, i < 3 → zN Z i = 0 := fun i hi => by
    have := jZ0_N hi
    unfold zN at this ⊢
    rw [hZ _ _ (by decide)]
    exact this
  have n' : ∀ i, i < 3 → zN Z' i = 0 := fun i hi => by
    have := jZ0_N hi
    unfold zN at this ⊢
    rw [hZ' _ _ (by decide)]
    exact this
  refine zeq_gen j (fun _ => ?_) (fun _ => ?_) (fun h => absurd h h2) (fun _ => ?_) (fun _ => ?_) (fun i hi _ => ?_) (fun i hi _ => ⟨Iff.rfl, fun h => absurd rfl h⟩) (fun b hb _ => ?_) (fun b hb _ => ⟨by rw [n 0 (by decide), n' 0 (by decide)], fun h => by rw [n 0 (by decide)] at h; omega⟩) (fun b hb _ => ⟨by rw [n 1 (by decide), n' 1 (by decide)], fun h => by rw [n 1 (by decide)] at h; omega⟩) (fun b hb _ => ⟨by rw [n 2 (by decide), n' 2 (by decide)], fun h => by rw [n 2 (by decide)] at h; omega⟩) (fun h => absurd h (by omega))
  · unfold eX
    rw [ha 1 (by decide), ha 3 (by decide), ha 6 (by decide), ha 4 (by decide), e 34 0 (by decide), e 35 0 (by decide)]
  · unfold eHouse
    rw [ha 2 (by decide), e 23 0 (by decide), e 24 0 (by decide)]
  · unfold eTr
    rw [ha 5 (by decide)]
  · unfold eEv
    rw [ha 7 (by decide), e 28 0 (by decide), e 29 0 (by decide), e 30 0 (by decide), e 31 0 (by decide), e 32 0 (by decide), e 33 0 (by decide)]
  · unfold eList
    rw [if_pos rfl, if_pos rfl, e (25 + i) 0 (by decide)]
  · unfold sSeat
    rw [e 0 b hb, e 1 b hb, e 3 b hb, e 5 b hb, e 6 b hb, e 4 b hb, e 7 b hb, e 8 b hb, hZ' 2 b hb, hZ 2 b hb, jZ0_2 hb, zh_m1]
    rfl
theorem zlow_al (G : zG) {Z Z' : zM} (hZ : ∀ f k, k < 80 → Z f k = jZ0 f k) (hZ' : ∀ f k, k < 80 → Z' f k = jZ0 f k) {mcn : Nat → Int32} {e0 : Nat} {Y Y' : zM} {th th' : Int32} {o o' : Nat → Int64} {od od' : Nat → UInt64} {ad ad' : Nat → Nat} (ha : ∀ j, j < 300 → ad' j = ad j) {j : Nat} (hj : j < 300) {x : zE}
    (hx : zent Z' (fun _ => none) mcn (fun _ => 0) e0 Y' th' o' od' ad' j = some x) : ∃ e', zent Z (fun _ => none) mcn (fun _ => 0) e0 Y th o od ad j = some e' ∧ zAl G e' x := by
  by_cases h2 : j = 2
  · subst h2
    rw [zg_arr] at hx
    cases hx
    exact ⟨_, zg_arr, zAl_arr (fun k hk => ha (100 + k) (by omega))⟩
  · rw [zlow (Y := Y) (th := th) (o := o) (od := od) hZ hZ' ha hj h2] at hx
    exact ⟨_, hx, zAl.rf⟩
