/-! ===== each call keeps the invariant ===== -/
theorem k_ne {a : Nat} {P : Prop} (h : a + 1 = 0) : P := absurd h (Nat.succ_ne_zero a)
theorem fRise_18 {Z : zM} {k : Nat} : fRise Z 18 k = if k < zN Z 1 then 0 else Z 18 k := by
  unfold fRise
  rw [fC0_at, fBegin_n (by decide)]
  by_cases q : k < zN Z 1
  · rw [if_pos q, if_pos ⟨q, rfl⟩]
  · rw [if_neg q, if_neg (fun z => q z.1)]
theorem fRise_27 {Z : zM} : fRise Z 27 0 = 0 := by
  unfold fRise
  rw [fC0_n (by decide), fBegin_at, if_pos (by decide)]
theorem jLoud.rise {Z : zM} : jLoud (fRise Z) := ⟨0, by decide, by unfold fRise; rw [fC0_n (by decide), fBegin_at, if_pos (by decide)]; rfl⟩
theorem jFix.rise {Z : zM} {cp : Nat → Nat} (h : jFix Z cp) : jFix (fRise Z) cp :=
  h.of (fun f k _ _ _ _ _ _ _ => fRise_n (by omega) (by omega)) (h.eh (fRise_n (by decide) (by decide)) (fRise_n (by decide) (by decide))) (Or.inr fRise_27)
theorem jSt.rise {Z : zM} {sb : Nat → Option Nat} (h : jSt Z sb) : jSt (fRise Z) sb :=
  h.of (fun f k _ => fRise_n (by omega) (by omega)) (fRise_n (by decide) (by decide)) (fRise_n (by decide) (by decide)) (fRise_n (by decide) (by decide))
theorem jTail.rise {Z : zM} (h : jTail Z) : jTail (fRise Z) := by
  have n0 : zN (fRise Z) 0 = zN Z 0 := by unfold zN; rw [fRise_n (by decide) (by decide)]
  have n1 : zN (fRise Z) 1 = zN Z 1 := by unfold zN; rw [fRise_n (by decide) (by decide)]
  refine ⟨fun k hk => ?_, fun k hk => ?_⟩
  · rw [fRise_n (by decide) (by decide)]; exact h.1 k (by omega)
  · rw [fRise_n (by decide) (by decide), fRise_18]
    refine ⟨(h.2 k (by omega)).1, ?_⟩
    split
    · rfl
    · exact (h.2 k (by omega)).2
theorem jMon.rise {n : Nat} {Z : zM} (h : jMon n Z) : jMon n (fRise Z) := by
  obtain ⟨p, q, c, h1, h2, h3⟩ := h
  refine ⟨p, q, fun k => if k < zN Z 1 then 0 else c k, by rw [fRise_n (by decide) (by decide)]; exact h1, fun k hk => ⟨by rw [fRise_n (by decide) (by decide)]; exact (h2 k hk).1, ?_⟩, ?_⟩
  · rw [fRise_18]
    try dsimp only
    by_cases g : k < zN Z 1
    · rw [if_pos g, if_pos g]; rfl
    · rw [if_neg g, if_neg g]; exact (h2 k hk).2
  · have := nSum_le (f := fun k => q k + 99 * (if k < zN Z 1 then 0 else c k)) (g := fun k => q k + 99 * c k) 0 6 (fun k _ => by (try dsimp only); split <;> omega)
    try dsimp only at this ⊢
    omega
/-- a house -/
theorem fNew_o {Z : zM} {sb : Nat → Option Nat} {x y : Int32} {f k : Nat} (h : f ≠ 23) (h2 : f ≠ 24) : fNew Z sb x y f k = (fBuild Z sb 80).1 f k := by
  unfold fNew
  rw [zu_f h2, zu_f h]
theorem fNew_9 {Z : zM} {sb : Nat → Option Nat} {x y : Int32} {f k : Nat} (h9 : 9 ≤ f) (h : f ≠ 23) (h2 : f ≠ 24) : fNew Z sb x y f k = Z f k := by
  rw [fNew_o h h2, fBuild_n h9]
theorem fNew_23 {Z : zM} {sb : Nat → Option Nat} {x y : Int32} : fNew Z sb x y 23 0 = x ∧ fNew Z sb x y 24 0 = y := by
  unfold fNew
  exact ⟨by rw [zu_f (by decide), zu_s], zu_s _ _ _ _⟩
theorem kHouse_0 {x y : Int32} (h : kHouse x y = 0) : fR x 1 8 ∧ fR y 1 10 := by
  unfold kHouse at h
  by_cases h1 : fR x 1 8
  · rw [if_neg (not_not_intro h1)] at h
    by_cases h2 : fR y 1 10
    · exact ⟨h1, h2⟩
    · rw [if_pos h2] at h; exact k_ne h
  · rw [if_pos h1] at h; exact k_ne h
theorem zChr_take {Z : zM} {k : Nat} {c : Int32} (h : ∀ k, zChr (Z 0 k)) (hc : zChr c) (j : Nat) : zChr (fTake Z k c 0 j) := by
  rw [fTake_at]
  split
  · rw [if_pos rfl]; exact hc
  · exact h j
theorem zChr_build {Z : zM} {sb : Nat → Option Nat} (h : ∀ k, zChr (Z 0 k)) (j : Nat) : zChr ((fBuild Z sb 80).1 0 j) := by
  rw [fBuild_at]
  split
  · rw [if_pos rfl]; exact zChr_46
  · exact h j
theorem jJ.house {n : Nat} {Z : zM} {sb : Nat → Option Nat} {cp : Nat → Nat} (h : jJ n Z sb cp) {x y : Int32} (hk : kHouse x y = 0) : jJ (n + 1) (fRise (fNew Z sb x y)) (fBuild Z sb 80).2 cp := by
  obtain ⟨h1, ⟨s1, s2, s3, s4⟩, -, h4, h5⟩ := h.next
  obtain ⟨hx, hy⟩ := kHouse_0 hk
  obtain ⟨a, a1, a2, rfl⟩ := fR1_nat (b := 8) (by decide) hx
  obtain ⟨b, b1, b2, rfl⟩ := fR1_nat (b := 10) (by decide) hy
  obtain ⟨e23, e24⟩ := fNew_23 (Z := Z) (sb := sb) (x := nI a) (y := nI b)
  have e0 : fNew Z sb (nI a) (nI b) 0 = (fBuild Z sb 80).1 0 := funext fun k => fNew_o (by decide) (by decide)
  have e2 : fNew Z sb (nI a) (nI b) 2 = (fBuild Z sb 80).1 2 := funext fun k => fNew_o (by decide) (by decide)
  have n0 : zN (fNew Z sb (nI a) (nI b)) 0 = zN (fBuild Z sb 80).1 0 := by unfold zN; rw [fNew_o (by decide) (by decide)]
  refine ⟨(h1.of (fun f k a1 _ _ _ _ a6 a7 => fNew_9 (by omega) a6 a7) ⟨⟨a, b, e23, e24, a2, b2⟩, ?_⟩ (Or.inl (fNew_9 (by decide) (by decide) (by decide)))).rise, jSt.rise ⟨?_, (s2.build 80 (Nat.le_refl 80)).of n0 e2, fun k => by rw [e0]; exact zChr_build s3 k, (zSeats_build s4 80).of e0 e2 (by omega)⟩, jLoud.rise, (h4.of (fun k => fNew_9 (by decide) (by decide) (by decide)) (fun k => fNew_9 (by decide) (by decide) (by decide)) (fun k => fNew_9 (by decide) (by decide) (by decide)) (fNew_9 (by decide) (by decide) (by decide)) (fNew_9 (by decide) (by decide) (by decide))).rise, (h5.of (fNew_9 (by decide) (by decide) (by decide)) (fun k => fNew_9 (by decide) (by decide) (by decide)) (fun k => fNew_9 (by decide) (by decide) (by decide))).rise⟩
  · rw [e23, e24]
    exact ⟨fun z => absurd z (nI_ne0 (by omega) (by omega)), fun z => absurd z (nI_ne0 (by omega) (by omega))⟩
  · exact (jSeats.build (sb := sb) s1.2).of e0 e2 (funext fun k => fNew_o (by decide) (by decide)) (funext fun k => fNew_o (by decide) (by decide)) (funext fun k => fNew_o (by decide) (by decide))
/-- a seat taken -/
theorem fPl_nc {Z : zM} (hh : zHouse Z) {x y : Int32} (h : fPl Z x y ≠ none) : fAt x y < 80 ∧ fAt x y / 10 < (Z 23 0).toNatClampNeg ∧ fAt x y % 10 < (Z 24 0).toNatClampNeg := by
  obtain ⟨nr, nc, h1, h2, h3, h4⟩ := hh
  rw [h1, h2, nI_clamp (by omega), nI_clamp (by omega)]
  unfold fPl at h
  rw [h1, h2] at h
  by_cases q : 0 ≤ x ∧ x < nI nr ∧ 0 ≤ y ∧ y < nI nc
  · obtain ⟨q1, q2, q3, q4⟩ := q
    obtain ⟨a, ha, rfl⟩ := nI_of (x := x) (Int32.not_lt.mpr q1)
    obtain ⟨b, hb, rfl⟩ := nI_of (x := y) (Int32.not_lt.mpr q3)
    have a1 := (nI_ltI ha (by omega)).mp q2
    have b1 := (nI_ltI hb (by omega)).mp q4
    unfold fAt
    rw [nI_clamp ha, nI_clamp hb]
    omega
  · rw [if_neg q] at h
    exact absurd rfl h
theorem fTake_9 {Z : zM} {k : Nat} {c : Int32} {f j : Nat} (h : 7 < f) : fTake Z k c f j = Z f j := by
  rw [fTake_at]
  split
  · rw [if_neg (by omega), if_neg (by omega), if_neg (by omega)]
  · rfl
theorem jJ.take {n : Nat} {Z : zM} {sb : Nat → Option Nat} {cp : Nat → Nat} (h : jJ n Z sb cp) {x y c : Int32} (hp : fPl Z x y ≠ none) (hc : c = 46 ∨ c = 112 ∨ c = 114) : jJ (n + 1) (fTake Z (fAt x y) c) (fUn Z sb (fAt x y)) cp := by
  obtain ⟨h1, ⟨s1, s2, s3, s4⟩, ⟨l, l1, l2⟩, h4, h5⟩ := h.next
  obtain ⟨p1, p2, p3⟩ := fPl_nc h1.1.1 hp
  have hz : zChr c := by
    rcases hc with rfl | rfl | rfl
    · exact zChr_46
    · exact zChr_112
    · exact zChr_114
  refine ⟨h1.of (fun f k a1 _ _ _ _ _ _ => fTake_9 (by omega)) (h1.eh (fTake_9 (by decide)) (fTake_9 (by decide))) (Or.inl (fTake_9 (by decide))), ⟨?_, s2.take p1, zChr_take s3 hz, zSeats_take s4 hz⟩, ⟨l, l1, by rw [fTake_9 (by decide)]; exact l2⟩, h4.of (fun k => fTake_9 (by decide)) (fun k => fTake_9 (by decide)) (fun k => fTake_9 (by decide)) (fTake_9 (by decide)) (fTake_9 (by decide)), h5.of (fTake_9 (by decide)) (fun k => fTake_9 (by decide)) (fun k => fTake_9 (by decide))⟩
  rw [fTake_9 (by decide), fTake_9 (by decide)]
  refine s1.take ?_
  rcases hc with rfl | rfl | rfl
  · exact Or.inl rfl
  · exact Or.inr ⟨Or.inl rfl, p2, p3⟩
  · exact Or.inr ⟨Or.inr rfl, p2, p3⟩
theorem jJ.payer {n : Nat} {Z : zM} {sb : Nat → Option Nat} {cp : Nat → Nat} (h : jJ n Z sb cp) {x y t : Int32} (hp : fPl Z x y ≠ none) : jJ (n + 1) (zu (fTake Z (fAt x y) 112) 1 (fAt x y) t) (fUn Z sb (fAt x y)) cp := by
  obtain ⟨h1, h2, ⟨l, l1, l2⟩, h4, h5⟩ := h.take hp (Or.inr (Or.inl rfl))
  have e : ∀ f k, f ≠ 1 → zu (fTake Z (fAt x y) 112) 1 (fAt x y) t f k = fTake Z (fAt x y) 112 f k := fun f k hf => zu_f hf
  exact ⟨h1.of (fun f k a1 _ _ _ _ _ _ => e _ _ (by omega)) (h1.eh (e _ _ (by decide)) (e _ _ (by decide))) (Or.inl (e _ _ (by decide))), h2.of (fun f k hf => e _ _ (by omega)) (e _ _ (by decide)) (e _ _ (by decide)) (e _ _ (by decide)), ⟨l, l1, (e _ _ (by decide)).trans l2⟩, h4.of (fun k => e _ _ (by decide)) (fun k => e _ _ (by decide)) (fun k => e _ _ (by decide)) (e _ _ (by decide)) (e _ _ (by decide)), h5.of (e _ _ (by decide)) (fun k => e _ _ (by decide)) (fun k => e _ _ (by decide))⟩
/-- a hand moves -/
theorem fMv1_9 {Z : zM} {sb : Nat → Option Nat} {j f k : Nat} (h : 7 < f) : fMv1 Z sb j f k = Z f k := by
  unfold fMv1
  cases sb j with
  | none => rfl
  | some k0 => exact fTake_9 h
theorem fMove_9 {Z : zM} {sb : Nat → Option Nat} {j k0 f k : Nat} (h : 7 < f) : fMove Z sb j k0 f k = Z f k := by
  unfold fMove
  rw [zu_f (by omega), fTake_9 h, fMv1_9 h]
theorem zSeats_mv1 {Z : zM} {sb : Nat → Option Nat} {j : Nat} (h : zSeats Z) : zSeats (fMv1 Z sb j) := by
  unfold fMv1
  cases sb j with
  | none => exact h
  | some k0 => exact zSeats_take h zChr_46
theorem zChr_mv1 {Z : zM} {sb : Nat → Option Nat} {j : Nat} (h : ∀ k, zChr (Z 0 k)) (k : Nat) : zChr (fMv1 Z sb j 0 k) := by
  unfold fMv1
  cases sb j with
  | none => exact h k
  | some k0 => exact zChr_take h zChr_46 k
theorem jJ.move {n : Nat} {Z : zM} {sb : Nat → Option Nat} {cp : Nat → Nat} (h : jJ n Z sb cp) {x y : Int32} {j : Nat} (hj : j < zN Z 0) (hp : fPl Z x y ≠ none) : jJ (n + 1) (fMove Z sb j (fAt x y)) (fMoveS Z sb j (fAt x y)) cp := by
  obtain ⟨h1, ⟨s1, s2, s3, s4⟩, ⟨l, l1, l2⟩, h4, h5⟩ := h.next
  obtain ⟨p1, p2, p3⟩ := fPl_nc h1.1.1 hp
  have hj12 : j < 12 := Nat.lt_of_lt_of_le hj (h1.2.1 0 (by decide)).1.2.2.2
  refine ⟨h1.of (fun f k a1 _ _ _ _ _ _ => fMove_9 (by omega)) (h1.eh (fMove_9 (by decide)) (fMove_9 (by decide))) (Or.inl (fMove_9 (by decide))), ⟨?_, s2.move hj (by omega) p1, fun k => ?_, fun k hk => ?_⟩, ⟨l, l1, by rw [fMove_9 (by decide)]; exact l2⟩, h4.of (fun k => fMove_9 (by decide)) (fun k => fMove_9 (by decide)) (fun k => fMove_9 (by decide)) (fMove_9 (by decide)) (fMove_9 (by decide)), h5.of (fMove_9 (by decide)) (fun k => fMove_9 (by decide)) (fun k => fMove_9 (by decide))⟩
  · rw [fMove_9 (by decide), fMove_9 (by decide)]
    exact s1.move (by omega) ⟨p2, p3⟩
  · unfold fMove
    rw [zu_f (by decide)]
    exact zChr_take (zChr_mv1 s3) zChr_104 k
  · have n0 : zN (fMove Z sb j (fAt x y)) 0 = zN Z 0 := by unfold zN; rw [fMove_9 (by decide)]
    have n1 : zN (fTake (fMv1 Z sb j) (fAt x y) 104) 0 = zN Z 0 := by unfold zN; rw [fTake_9 (by decide), fMv1_9 (by decide)]
    rw [n0]
    obtain ⟨a1, a2, a3⟩ := zSeats_take (k := fAt x y) (zSeats_mv1 (sb := sb) (j := j) s4) zChr_104 k hk
    rw [n1] at a3
    unfold fMove
    rw [zu_f (by decide)]
    refine ⟨a1, ?_⟩
    by_cases e : k = fAt x y
    · rw [e, zu_s, zh_nI (by omega)]
      refine ⟨fun z => (by cases z), fun i hi => ?_⟩
      cases hi
      exact ⟨hj, by omega⟩
    · rw [zu_k e]
      exact ⟨a2, a3⟩
/-- a hand is added -/
theorem zAH_f {Z : zM} {n : Nat} {c s q p : Int32} {f k : Nat} (hf : f ≠ 9 ∧ f ≠ 11 ∧ f ≠ 12 ∧ f ≠ 13 ∧ f ≠ 14 ∧ f ≠ 25) : zAH Z n c s q p f k = Z f k := by
  unfold zAH
  rw [zu_f hf.2.2.2.2.2, zu_f hf.2.2.2.2.1, zu_f hf.2.2.2.1, zu_f hf.2.2.1, zu_f hf.2.1, zu_f hf.1]
theorem zAH_k {Z : zM} {n : Nat} {c s q p : Int32} {f k : Nat} (hf : f ≠ 25) (hk : k ≠ n) : zAH Z n c s q p f k = Z f k := by
  unfold zAH
  rw [zu_f hf, zu_k hk, zu_k hk, zu_k hk, zu_k hk, zu_k hk]
theorem kAddHand_0 {Z : zM} {c s r p : Int32} (h : kAddHand Z c s r p = 0) : fR s 1 9 ∧ fR r 0 3 ∧ ¬ 12 ≤ Z 25 0 := by
  unfold kAddHand at h
  by_cases h0 : c = 97 ∨ fKd c
  · rw [if_neg (not_not_intro h0)] at h
    by_cases h1 : fR s 1 9
    · rw [if_neg (not_not_intro h1)] at h
      by_cases h2 : fR r 0 3
      · rw [if_neg (not_not_intro h2)] at h
        by_cases h3 : fR p 0 99
        · rw [if_neg (not_not_intro h3)] at h
          by_cases h4 : 12 ≤ Z 25 0
          · rw [if_pos h4] at h; exact k_ne h
          · exact ⟨h1, h2, h4⟩
        · rw [if_pos h3] at h; exact k_ne h
      · rw [if_pos h2] at h; exact k_ne h
    · rw [if_pos h1] at h; exact k_ne h
  · rw [if_pos h0] at h; exact k_ne h
theorem zCap.up {cp : Nat → Nat} {i c : Nat} (hc : c = 10 ∨ c = 15) : zCap (va_up cp i c) i := by
  unfold zCap
  rw [zup_s]
  exact Or.inr hc
theorem zCap.n {cp : Nat → Nat} {i j c : Nat} (h : zCap cp j) (hn : j ≠ i) : zCap (va_up cp i c) j := by
  unfold zCap
  rw [zup_n hn]
  exact h
theorem zLst.up {Z' : zM} {cp : Nat → Nat} {i n c : Nat} (e : Z' (25 + i) 0 = nI (n + 1)) (hn : n < 12) (hc : c = 10 ∨ c = 15) (hnc : n + 1 ≤ c) : zLst Z' (va_up cp i c) i := by
  have hz : zN Z' i = n + 1 := by unfold zN; rw [e, nI_clamp (by omega)]
  unfold zLst
  rw [hz, zup_s]
  exact ⟨e, hnc, by omega, by omega⟩
theorem zLst.n {Z Z' : zM} {cp : Nat → Nat} {i j c : Nat} (h : zLst Z cp j) (e : Z' (25 + j) 0 = Z (25 + j) 0) (hn : j ≠ i) : zLst Z' (va_up cp i c) j := by
  have := zLst_of h e
  unfold zLst at this ⊢
  rw [zup_n hn]
  exact this
theorem zN_nlt {Z : zM} {cp : Nat → Nat} {i b : Nat} (h : zLst Z cp i) (hb : b < 100) (hn : ¬ nI b ≤ Z (25 + i) 0) : zN Z i < b := by
  have h12 := h.2.2.2
  rcases Nat.lt_or_ge (zN Z i) b with q | q
  · exact q
  · exact absurd (by rw [h.1]; exact nI_le q (by omega)) hn
theorem jJ.hand {n : Nat} {Z : zM} {sb : Nat → Option Nat} {cp : Nat → Nat} (h : jJ n Z sb cp) {x s q p : Int32} {c : Nat} (hc : c = 10 ∨ c = 15) (hnc : zN Z 0 + 1 ≤ c) (hk : kAddHand Z x s q p = 0) : jJ (n + 1) (zAH Z (zN Z 0) x s q p) (va_up sb (zN Z 0) none) (va_up cp 0 c) := by
  obtain ⟨⟨g1, g2, g3, g4, g5, g6⟩, ⟨s1, s2, s3, s4⟩, ⟨l, l1, l2⟩, h4, h5⟩ := h.next
  obtain ⟨ks, kq, kn⟩ := kAddHand_0 hk
  have hn : zN Z 0 < 12 := zN_nlt (b := 12) (g2 0 (by decide)).1 (by decide) kn
  obtain ⟨a, -, a2, ea⟩ := fR1_nat (b := 9) (by decide) ks
  obtain ⟨r, r1, er⟩ := fR0_nat (b := 3) (by decide) kq
  have hz : zN (zAH Z (zN Z 0) x s q p) 0 = zN Z 0 + 1 := zN_hand (by omega)
  have z1 : zN (zAH Z (zN Z 0) x s q p) 1 = zN Z 1 := by unfold zN; rw [zAH_f (by decide)]
  have z2 : zN (zAH Z (zN Z 0) x s q p) 2 = zN Z 2 := by unfold zN; rw [zAH_f (by decide)]
  refine ⟨⟨?_, fun i hi => ?_, by rw [z1]; exact g3, fun b hb => ?_, fun j hj => ?_, fun k hk9 => ?_⟩, ⟨?_, ⟨fun j k hj hs => ?_, fun k hk9 j hj => ?_⟩, fun k => by rw [zAH_f (by decide)]; exact s3 k, ?_⟩, ⟨l, l1, by rw [zAH_f (by decide)]; exact l2⟩, ⟨fun k hk9 => ?_, fun k hk9 => ?_⟩, ?_⟩
  · unfold zHouse
    rw [zAH_f (by decide), zAH_f (by decide)]
    exact g1
  · rcases (show i = 0 ∨ i = 1 ∨ i = 2 by omega) with rfl | rfl | rfl
    · exact ⟨zLst.up (n := zN Z 0) (zu_s _ _ _ _) hn hc hnc, zCap.up hc⟩
    · exact ⟨(g2 1 (by decide)).1.n (zAH_f (by decide)) (by decide), (g2 1 (by decide)).2.n (by decide)⟩
    · exact ⟨(g2 2 (by decide)).1.n (zAH_f (by decide)) (by decide), (g2 2 (by decide)).2.n (by decide)⟩
  · rw [z1, zAH_f (by decide), zAH_f (by decide)]
    exact g4 b (by rw [← z2]; exact hb)
  · by_cases e : j = zN Z 0
    · subst e
      refine ⟨⟨a, by omega, ?_⟩, ⟨r, by omega, ?_⟩⟩
      · rw [← ea]; unfold zAH
        rw [zu_f (by decide), zu_f (by decide), zu_f (by decide), zu_f (by decide), zu_s]
      · rw [← er]; unfold zAH
        rw [zu_f (by decide), zu_f (by decide), zu_f (by decide), zu_s]
    · rw [zAH_k (by decide) e, zAH_k (by decide) e]
      exact g5 j (by omega)
  · rw [zAH_f (by decide), zAH_f (by decide)]
    exact g6 k (by rw [← z1]; exact hk9)
  · rw [zAH_f (by decide), zAH_f (by decide)]
    exact s1.of (funext fun k => zAH_f (by decide)) (funext fun k => zAH_f (by decide)) (funext fun k => zAH_f (by decide)) (funext fun k => zAH_f (by decide)) (funext fun k => zAH_f (by decide))
  · by_cases e : j = zN Z 0
    · rw [e, zup_s] at hs; cases hs
    · rw [zup_n e] at hs
      rw [zAH_f (by decide)]
      exact s2.1 j k (by omega) hs
  · rw [zAH_f (by decide)] at hj
    have := ((s4 k hk9).2.2 j hj).1
    rw [zup_n (by omega)]
    exact s2.2 k hk9 j hj
  · exact s4.of (funext fun k => zAH_f (by decide)) (funext fun k => zAH_f (by decide)) (by omega)
  · rw [hz] at hk9
    rw [zAH_k (by decide) (by omega)]
    exact h4.1 k (by omega)
  · rw [zAH_f (by decide), zAH_f (by decide)]
    exact h4.2 k (by rw [← z1]; exact hk9)
  · exact h5.of (zAH_f (by decide)) (fun k => zAH_f (by decide)) (fun k => zAH_f (by decide))
/-- a singer is added -/
theorem zAS_f {Z : zM} {n : Nat} {a b : Int32} {f k : Nat} (hf : f ≠ 15 ∧ f ≠ 16 ∧ f ≠ 17 ∧ f ≠ 18 ∧ f ≠ 26) : zAS Z n a b f k = Z f k := by
  unfold zAS
  rw [zu_f hf.2.2.2.2, zu_f hf.2.2.1, zu_f hf.2.2.2.1, zu_f hf.2.1, zu_f hf.1]
theorem zAS_k {Z : zM} {n : Nat} {a b : Int32} {f k : Nat} (hf : f ≠ 26) (hk : k ≠ n) : zAS Z n a b f k = Z f k := by
  unfold zAS
  rw [zu_f hf, zu_k hk, zu_k hk, zu_k hk, zu_k hk]
theorem zAS_17 {Z : zM} {n : Nat} {a b : Int32} (h7 : Z 17 n = 0) (h8 : Z 18 n = 0) (k : Nat) : zAS Z n a b 17 k = Z 17 k ∧ zAS Z n a b 18 k = Z 18 k := by
  by_cases e : k = n
  · subst e
    unfold zAS
    rw [zu_f (by decide), zu_s, zu_f (by decide), zu_f (by decide), zu_s, h7, h8]
    exact ⟨rfl, rfl⟩
  · exact ⟨zAS_k (by decide) e, zAS_k (by decide) e⟩
theorem kAddSing_0 {Z : zM} {a b : Int32} (h : kAddSing Z a b = 0) : fR a 0 999 ∧ fR b 0 99 ∧ ¬ 6 ≤ Z 26 0 := by
  unfold kAddSing at h
  by_cases h1 : fR a 0 999
  · rw [if_neg (not_not_intro h1)] at h
    by_cases h2 : fR b 0 99
    · rw [if_neg (not_not_intro h2)] at h
      by_cases h4 : 6 ≤ Z 26 0
      · rw [if_pos h4] at h; exact k_ne h
      · exact ⟨h1, h2, h4⟩
    · rw [if_pos h2] at h; exact k_ne h
  · rw [if_pos h1] at h; exact k_ne h
theorem jJ.singer {n : Nat} {Z : zM} {sb : Nat → Option Nat} {cp : Nat → Nat} (h : jJ n Z sb cp) {x y : Int32} {c : Nat} (hc : c = 10 ∨ c = 15) (hnc : zN Z 1 + 1 ≤ c) (hk : kAddSing Z x y = 0) : jJ (n + 1) (zAS Z (zN Z 1) x y) sb (va_up cp 1 c) := by
  obtain ⟨⟨g1, g2, g3, g4, g5, g6⟩, s1, ⟨l, l1, l2⟩, h4, h5⟩ := h.next
  obtain ⟨kx, ky, kn⟩ := kAddSing_0 hk
  have hn : zN Z 1 < 6 := zN_nlt (b := 6) (g2 1 (by decide)).1 (by decide) kn
  obtain ⟨a, a2, ea⟩ := fR0_nat (b := 999) (by decide) kx
  obtain ⟨r, r1, er⟩ := fR0_nat (b := 99) (by decide) ky
  obtain ⟨t7, t8⟩ := h4.2 (zN Z 1) (Nat.le_refl _)
  have hz : zN (zAS Z (zN Z 1) x y) 1 = zN Z 1 + 1 := zN_singer (by omega)
  have z0 : zN (zAS Z (zN Z 1) x y) 0 = zN Z 0 := by unfold zN; rw [zAS_f (by decide)]
  have z2 : zN (zAS Z (zN Z 1) x y) 2 = zN Z 2 := by unfold zN; rw [zAS_f (by decide)]
  refine ⟨⟨?_, fun i hi => ?_, by rw [hz]; omega, fun b hb => ?_, fun j hj => ?_, fun k hk9 => ?_⟩, s1.of (fun f k hf => zAS_f (by omega)) (zAS_f (by decide)) (zAS_f (by decide)) (zAS_f (by decide)), ⟨l, l1, by rw [zAS_f (by decide)]; exact l2⟩, ⟨fun k hk9 => ?_, fun k hk9 => ?_⟩, h5.of (zAS_f (by decide)) (fun k => (zAS_17 t7 t8 k).1) (fun k => (zAS_17 t7 t8 k).2)⟩
  · unfold zHouse
    rw [zAS_f (by decide), zAS_f (by decide)]
    exact g1
  · rcases (show i = 0 ∨ i = 1 ∨ i = 2 by omega) with rfl | rfl | rfl
    · exact ⟨(g2 0 (by decide)).1.n (zAS_f (by decide)) (by decide), (g2 0 (by decide)).2.n (by decide)⟩
    · exact ⟨zLst.up (n := zN Z 1) (zu_s _ _ _ _) (by omega) hc hnc, zCap.up hc⟩
    · exact ⟨(g2 2 (by decide)).1.n (zAS_f (by decide)) (by decide), (g2 2 (by decide)).2.n (by decide)⟩
  · rw [hz, zAS_f (by decide), zAS_f (by decide)]
    obtain ⟨⟨d, d1, d2⟩, d3⟩ := g4 b (by rw [← z2]; exact hb)
    exact ⟨⟨d, by omega, d2⟩, d3⟩
  · rw [zAS_f (by decide), zAS_f (by decide)]
    exact g5 j (by rw [← z0]; exact hj)
  · by_cases e : k = zN Z 1
    · subst e
      refine ⟨⟨a, by omega, ?_⟩, ⟨r, by omega, ?_⟩⟩
      · rw [← ea]; unfold zAS
        rw [zu_f (by decide), zu_f (by decide), zu_f (by decide), zu_f (by decide), zu_s]
      · rw [← er]; unfold zAS
        rw [zu_f (by decide), zu_f (by decide), zu_f (by decide), zu_s]
    · rw [zAS_k (by decide) e, zAS_k (by decide) e]
      exact g6 k (by omega)
  · rw [zAS_f (by decide)]
    exact h4.1 k (by rw [← z0]; exact hk9)
  · rw [(zAS_17 t7 t8 k).1, (zAS_17 t7 t8 k).2]
    exact h4.2 k (by omega)
/-- a cue is added -/
theorem zAC_f {Z : zM} {n : Nat} {s c t f0 m : Int32} {f k : Nat} (hf : f ≠ 10 ∧ f ≠ 19 ∧ f ≠ 20 ∧ f ≠ 21 ∧ f ≠ 22 ∧ f ≠ 27) : zAC Z n s c t f0 m f k = Z f k := by
  unfold zAC
  rw [zu_f hf.2.2.2.2.2, zu_f hf.2.2.2.2.1, zu_f hf.2.2.2.1, zu_f hf.2.2.1, zu_f hf.1, zu_f hf.2.1]
theorem zAC_k {Z : zM} {n : Nat} {s c t f0 m : Int32} {f k : Nat} (hf : f ≠ 27) (hk : k ≠ n) : zAC Z n s c t f0 m f k = Z f k := by
  unfold zAC
  rw [zu_f hf, zu_k hk, zu_k hk, zu_k hk, zu_k hk, zu_k hk]
theorem kAddCue_0 {Z : zM} {s c t f m : Int32} (h : kAddCue Z s c t f m = 0) : fI s (Z 26 0) ∧ fR f 1 3 ∧ ¬ 12 ≤ Z 27 0 := by
  unfold kAddCue at h
  by_cases h0 : fI s (Z 26 0)
  · rw [if_neg (not_not_intro h0)] at h
    by_cases h1 : fKd c
    · rw [if_neg (not_not_intro h1)] at h
      by_cases h2 : fR t 0 299
      · rw [if_neg (not_not_intro h2)] at h
        by_cases h3 : fR f 1 3
        · rw [if_neg (not_not_intro h3)] at h
          by_cases h4 : fR m 1 30
          · rw [if_neg (not_not_intro h4)] at h
            by_cases h5 : t < Z 29 0
            · rw [if_pos h5] at h; exact k_ne h
            · rw [if_neg h5] at h
              by_cases h6 : 12 ≤ Z 27 0
              · rw [if_pos h6] at h; exact k_ne h
              · exact ⟨h0, h3, h6⟩
          · rw [if_pos h4] at h; exact k_ne h
        · rw [if_pos h3] at h; exact k_ne h
      · rw [if_pos h2] at h; exact k_ne h
    · rw [if_pos h1] at h; exact k_ne h
  · rw [if_pos h0] at h; exact k_ne h
theorem jJ.cue {n : Nat} {Z : zM} {sb : Nat → Option Nat} {cp : Nat → Nat} (h : jJ n Z sb cp) {s x t f m : Int32} {c : Nat} (hc : c = 10 ∨ c = 15) (hnc : zN Z 2 + 1 ≤ c) (hk : kAddCue Z s x t f m = 0) : jJ (n + 1) (zAC Z (zN Z 2) s x t f m) sb (va_up cp 2 c) := by
  obtain ⟨⟨g1, g2, g3, g4, g5, g6⟩, s1, ⟨l, l1, l2⟩, h4, h5⟩ := h.next
  obtain ⟨kx, ky, kn⟩ := kAddCue_0 hk
  have hn : zN Z 2 < 12 := zN_nlt (b := 12) (g2 2 (by decide)).1 (by decide) kn
  obtain ⟨a, ea, a2⟩ := fI_nat (i := 1) (g2 1 (by decide)).1 kx
  obtain ⟨r, -, r1, er⟩ := fR1_nat (b := 3) (by decide) ky
  have hz : zN (zAC Z (zN Z 2) s x t f m) 2 = zN Z 2 + 1 := zN_cue (by omega)
  have z0 : zN (zAC Z (zN Z 2) s x t f m) 0 = zN Z 0 := by unfold zN; rw [zAC_f (by decide)]
  have z1 : zN (zAC Z (zN Z 2) s x t f m) 1 = zN Z 1 := by unfold zN; rw [zAC_f (by decide)]
  refine ⟨⟨?_, fun i hi => ?_, by rw [z1]; exact g3, fun b hb => ?_, fun j hj => ?_, fun k hk9 => ?_⟩, s1.of (fun f k hf => zAC_f (by omega)) (zAC_f (by decide)) (zAC_f (by decide)) (zAC_f (by decide)), ⟨l, l1, by rw [zAC_f (by decide)]; exact l2⟩, h4.of (fun k => zAC_f (by decide)) (fun k => zAC_f (by decide)) (fun k => zAC_f (by decide)) (zAC_f (by decide)) (zAC_f (by decide)), h5.of (zAC_f (by decide)) (fun k => zAC_f (by decide)) (fun k => zAC_f (by decide))⟩
  · unfold zHouse
    rw [zAC_f (by decide), zAC_f (by decide)]
    exact g1
  · rcases (show i = 0 ∨ i = 1 ∨ i = 2 by omega) with rfl | rfl | rfl
    · exact ⟨(g2 0 (by decide)).1.n (zAC_f (by decide)) (by decide), (g2 0 (by decide)).2.n (by decide)⟩
    · exact ⟨(g2 1 (by decide)).1.n (zAC_f (by decide)) (by decide), (g2 1 (by decide)).2.n (by decide)⟩
    · exact ⟨zLst.up (n := zN Z 2) (zu_s _ _ _ _) hn hc hnc, zCap.up hc⟩
  · rw [z1]
    by_cases e : b = zN Z 2
    · subst e
      refine ⟨⟨a, a2, ?_⟩, ⟨r, by omega, ?_⟩⟩
      · rw [← ea]; unfold zAC
        rw [zu_f (by decide), zu_f (by decide), zu_f (by decide), zu_f (by decide), zu_f (by decide), zu_s]
      · rw [← er]; unfold zAC
        rw [zu_f (by decide), zu_f (by decide), zu_s]
    · rw [zAC_k (by decide) e, zAC_k (by decide) e]
      exact g4 b (by omega)
  · rw [zAC_f (by decide), zAC_f (by decide)]
    exact g5 j (by rw [← z0]; exact hj)
  · rw [zAC_f (by decide), zAC_f (by decide)]
    exact g6 k (by rw [← z1]; exact hk9)
