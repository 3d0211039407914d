/-! ===== the invariant of the law's loop: its pieces ===== -/
theorem nI_mul (a b : Nat) : nI a * nI b = nI (a * b) := (Int32.ofNat_mul a b).symm
theorem nI_sub {a b : Nat} (h : b ≤ a) : nI a - nI b = nI (a - b) := by
  have e : nI a = nI (a - b) + nI b := by rw [nI_add, Nat.sub_add_cancel h]
  rw [e, Int32.add_sub_cancel]
theorem fR0_nat {x : Int32} {b : Nat} (hb : b < 2 ^ 31) (h : fR x 0 (nI b)) : ∃ n, n ≤ b ∧ x = nI n := by
  obtain ⟨j, hj, rfl⟩ := nI_of (x := x) (Int32.not_lt.mpr h.1)
  exact ⟨j, (nI_leI hj hb).mp h.2, rfl⟩
theorem fR1_nat {x : Int32} {b : Nat} (hb : b < 2 ^ 31) (h : fR x 1 (nI b)) : ∃ n, 1 ≤ n ∧ n ≤ b ∧ x = nI n := by
  obtain ⟨n, rfl, h2⟩ := fR_nat hb h
  exact ⟨n, (nI_leI (a := 1) (by decide) (by omega)).mp h.1, h2, rfl⟩
/-- sums of natural numbers -/
def nSum (f : Nat → Nat) : Nat → Nat
  | 0 => 0
  | n + 1 => nSum f n + f n
theorem nSum_le {f g : Nat → Nat} (d : Nat) : ∀ n, (∀ k, k < n → f k ≤ g k + d) → nSum f n ≤ nSum g n + d * n
  | 0, _ => by show 0 ≤ 0 + d * 0; omega
  | n + 1, h => by
    have h1 := nSum_le d n (fun k hk => h k (by omega))
    have h2 := h n (by omega)
    show nSum f n + f n ≤ nSum g n + g n + d * (n + 1)
    rw [Nat.mul_succ]
    omega
theorem nSum_c {f g : Nat → Nat} : ∀ n, (∀ k, k < n → f k = g k) → nSum f n = nSum g n
  | 0, _ => rfl
  | n + 1, h => by
    show nSum f n + f n = nSum g n + g n
    rw [nSum_c n (fun k hk => h k (by omega)), h n (by omega)]
/-- one place differs -/
theorem nSum_at {f g : Nat → Nat} {j : Nat} (h : ∀ k, k ≠ j → f k = g k) : ∀ n, j < n → nSum f n + g j = nSum g n + f j
  | 0, hj => absurd hj (by omega)
  | n + 1, hj => by
    show nSum f n + f n + g j = nSum g n + g n + f j
    by_cases e : n = j
    · subst e
      rw [nSum_c n (fun k hk => h k (by omega))]
      omega
    · have := nSum_at h n (by omega)
      rw [h n e]
      omega
/-- money: the purse, what singers owe, the calls that they will owe for; at most n in all -/
def jMon (n : Nat) (Z : zM) : Prop := ∃ (p : Nat) (q c : Nat → Nat), Z 34 0 = nI p ∧ (∀ k, k < 6 → Z 17 k = nI (q k) ∧ Z 18 k = nI (c k)) ∧ p + nSum (fun k => q k + 99 * c k) 6 ≤ n
theorem jMon.le {n m : Nat} {Z : zM} (h : jMon n Z) (hm : n ≤ m) : jMon m Z := by
  obtain ⟨p, q, c, h1, h2, h3⟩ := h
  exact ⟨p, q, c, h1, h2, Nat.le_trans h3 hm⟩
theorem jMon.of {n : Nat} {Z Z' : zM} (h : jMon n Z) (e34 : Z' 34 0 = Z 34 0) (e17 : ∀ k, Z' 17 k = Z 17 k) (e18 : ∀ k, Z' 18 k = Z 18 k) : jMon n Z' := by
  obtain ⟨p, q, c, h1, h2, h3⟩ := h
  exact ⟨p, q, c, e34.trans h1, fun k hk => ⟨(e17 k).trans (h2 k hk).1, (e18 k).trans (h2 k hk).2⟩, h3⟩
theorem fSits_18 {W : zM} {a b k : Nat} : fSits W a b 18 k = W 18 k := by
  unfold fSits
  split
  · unfold fPay
    split
    · rw [zu_f (by decide), zu_f (by decide)]
    · rw [zu_f (by decide), zu_f (by decide), zu_f (by decide)]
  · split
    · split
      · rw [zu_f (by decide), zu_f (by decide)]
      · rw [zu_f (by decide), zu_f (by decide)]
    · cases zh (W 2 (a * 10 + b)) with
      | none => rfl
      | some j => exact zu_f (by decide)
theorem fTickRow_18 {W : zM} {a k : Nat} : ∀ b, fTickRow W a b 18 k = W 18 k
  | 0 => rfl
  | b + 1 => fSits_18.trans (fTickRow_18 b)
theorem fTickRows_18 {W : zM} {nc k : Nat} : ∀ a, fTickRows W nc a 18 k = W 18 k
  | 0 => rfl
  | a + 1 => (fTickRow_18 nc).trans (fTickRows_18 a)
/-- calls of singers in a tick: as before, or one more for the singer of a cue -/
theorem fHear_18 {V : zM} {s : Int32} : (∀ k, fHear V s 18 k = V 18 k) ∨ ∃ c, c < zN V 2 ∧ ∀ k, fHear V s 18 k = if k = (V 19 c).toNatClampNeg then V 18 (V 19 c).toNatClampNeg + 1 else V 18 k := by
  unfold fHear
  split
  · exact Or.inl fun k => zu_f (by decide)
  · split
    · exact Or.inl fun k => zu_f (by decide)
    · have hW : ∀ f k, f ≠ 30 → f ≠ 31 → zu (zu (zu V 30 0 (V 30 0 + 1)) 30 0 0) 31 0 (V 31 0 + 1) f k = V f k := fun f k h1 h2 => by rw [zu_f h2, zu_f h1, zu_f h1]
      generalize zu (zu (zu V 30 0 (V 30 0 + 1)) 30 0 0) 31 0 (V 31 0 + 1) = W at hW ⊢
      unfold fCalled
      cases hq : fLast W (zN W 2) with
      | none => exact Or.inl fun k => hW _ _ (by decide) (by decide)
      | some c =>
        have hc := fLast_lt hq
        rw [show zN W 2 = zN V 2 by unfold zN; rw [hW _ _ (by decide) (by decide)]] at hc
        refine Or.inr ⟨c, hc, fun k => ?_⟩
        try dsimp only
        rw [hW 19 c (by decide) (by decide), hW 18 _ (by decide) (by decide)]
        by_cases e : k = (V 19 c).toNatClampNeg
        · rw [if_pos e, e, zu_s]
        · rw [if_neg e, zu_k e, hW 18 _ (by decide) (by decide)]
theorem fT_18 {Z : zM} : (∀ k, fT Z 18 k = Z 18 k) ∨ ∃ c, c < zN Z 2 ∧ ∀ k, fT Z 18 k = if k = (Z 19 c).toNatClampNeg then Z 18 (Z 19 c).toNatClampNeg + 1 else Z 18 k := by
  have fr : zFr Z (fTickRows (fIter fKeep Z 80) (Z 24 0).toNatClampNeg (Z 23 0).toNatClampNeg) := (zFr_keep Z 80).tr (zFr_rows _ _ _)
  have e18 : ∀ k, fTickRows (fIter fKeep Z 80) (Z 24 0).toNatClampNeg (Z 23 0).toNatClampNeg 18 k = Z 18 k := fun k => by rw [fTickRows_18, fKeep_n (by decide)]
  unfold fT fTick
  generalize fTickRows (fIter fKeep Z 80) (Z 24 0).toNatClampNeg (Z 23 0).toNatClampNeg = V at fr e18 ⊢
  have e : ∀ k, fTickEnd V 18 k = fHear V (fSum (V 3) 80) 18 k := fun k => by
    unfold fTickEnd
    rw [zu_f (by decide)]
    unfold fJudge
    split
    · exact zu_f (by decide)
    · rfl
  have e19 := fr 19 (by omega)
  have e27 : zN V 2 = zN Z 2 := by unfold zN; rw [fr (25 + 2) (by omega)]
  rcases fHear_18 (V := V) (s := fSum (V 3) 80) with h | ⟨c, hc, h⟩
  · exact Or.inl fun k => by rw [e, h, e18]
  · rw [e27] at hc
    refine Or.inr ⟨c, hc, fun k => ?_⟩
    rw [e, h, e19, e18, e18]
theorem jMon.tick {n : Nat} {Z : zM} (h : jMon n Z) (hs : ∀ c, c < zN Z 2 → (Z 19 c).toNatClampNeg < 6) : jMon (n + 99) (fT Z) := by
  have fr := zFr_T Z
  rcases fT_18 (Z := Z) with e | ⟨c0, hc0, e⟩
  · exact (h.of (by rw [fr 34 (by omega)]) (fun k => by rw [fr 17 (by omega)]) e).le (by omega)
  · obtain ⟨p, q, c, h1, h2, h3⟩ := h
    have hj := hs c0 hc0
    generalize (Z 19 c0).toNatClampNeg = j at e hj
    refine ⟨p, q, fun k => if k = j then c j + 1 else c k, by rw [fr 34 (by omega)]; exact h1, fun k hk => ⟨by rw [fr 17 (by omega)]; exact (h2 k hk).1, ?_⟩, ?_⟩
    · rw [e]
      by_cases q9 : k = j
      · try dsimp only
        rw [if_pos q9, if_pos q9, (h2 j hj).2, nI_1]
      · try dsimp only
        rw [if_neg q9, if_neg q9]
        exact (h2 k hk).2
    · have h9 := nSum_at (f := fun k => q k + 99 * (if k = j then c j + 1 else c k)) (g := fun k => q k + 99 * c k) (j := j) (fun k hk => by (try dsimp only); rw [if_neg hk]) 6 hj
      try dsimp only at h9 ⊢
      rw [if_pos rfl] at h9
      omega
/-- what lies behind the last hand, the last singer -/
def jTail (Z : zM) : Prop := (∀ k, zN Z 0 ≤ k → Z 14 k = 0) ∧ ∀ k, zN Z 1 ≤ k → Z 17 k = 0 ∧ Z 18 k = 0
theorem jTail.of {Z Z' : zM} (h : jTail Z) (e14 : ∀ k, Z' 14 k = Z 14 k) (e17 : ∀ k, Z' 17 k = Z 17 k) (e18 : ∀ k, Z' 18 k = Z 18 k) (e25 : Z' 25 0 = Z 25 0) (e26 : Z' 26 0 = Z 26 0) : jTail Z' := by
  have n0 : zN Z' 0 = zN Z 0 := by unfold zN; rw [show 25 + 0 = 25 from rfl, e25]
  have n1 : zN Z' 1 = zN Z 1 := by unfold zN; rw [show 25 + 1 = 26 from rfl, e26]
  refine ⟨fun k hk => ?_, fun k hk => ?_⟩
  · rw [e14]; exact h.1 k (by omega)
  · rw [e17, e18]; exact h.2 k (by omega)
theorem jTail.tick {Z : zM} (h : jTail Z) (hs : ∀ c, c < zN Z 2 → (Z 19 c).toNatClampNeg < zN Z 1) : jTail (fT Z) := by
  have fr := zFr_T Z
  have n0 : zN (fT Z) 0 = zN Z 0 := by unfold zN; rw [fr (25 + 0) (by omega)]
  have n1 : zN (fT Z) 1 = zN Z 1 := by unfold zN; rw [fr (25 + 1) (by omega)]
  refine ⟨fun k hk => ?_, fun k hk => ?_⟩
  · rw [fr 14 (by omega)]; exact h.1 k (by omega)
  · rw [fr 17 (by omega)]
    refine ⟨(h.2 k (by omega)).1, ?_⟩
    rcases fT_18 (Z := Z) with e | ⟨c0, hc0, e⟩
    · rw [e]; exact (h.2 k (by omega)).2
    · have := hs c0 hc0
      rw [e, if_neg (by omega)]; exact (h.2 k (by omega)).2
/-- ticks, one after another -/
theorem jMon.run {n : Nat} {Z : zM} (h : jMon n Z) (ht : jTail Z) (hs : ∀ c, c < zN Z 2 → (Z 19 c).toNatClampNeg < zN Z 1) (h6 : zN Z 1 ≤ 6) : ∀ i, jMon (n + 99 * i) (fRun Z i) ∧ jTail (fRun Z i)
  | 0 => ⟨h, ht⟩
  | i + 1 => by
    obtain ⟨m1, t1⟩ := jMon.run h ht hs h6 i
    have fr := zFr_run Z i
    have hs' : ∀ c, c < zN (fRun Z i) 2 → (fRun Z i 19 c).toNatClampNeg < zN (fRun Z i) 1 := fun c hc => by
      rw [fr 19 (by omega)]
      unfold zN at hc ⊢
      rw [fr (25 + 2) (by omega)] at hc
      rw [fr (25 + 1) (by omega)]
      exact hs c hc
    have h6' : zN (fRun Z i) 1 ≤ 6 := by unfold zN; rw [fr (25 + 1) (by omega)]; exact h6
    refine ⟨?_, t1.tick hs'⟩
    have := m1.tick (fun c hc => Nat.lt_of_lt_of_le (hs' c hc) h6')
    rw [show n + 99 * (i + 1) = n + 99 * i + 99 by omega]
    exact this
/-- what a call may count on of hands, singers, cues and the house -/
def jFix (Z : zM) (cp : Nat → Nat) : Prop :=
  (zHouse Z ∧ (Z 23 0 = 0 ↔ Z 24 0 = 0)) ∧ (∀ i, i < 3 → zLst Z cp i ∧ zCap cp i) ∧ zN Z 1 ≤ 6 ∧ (∀ c, c < zN Z 2 → (∃ a, a < zN Z 1 ∧ Z 19 c = nI a) ∧ ∃ f, f < 4 ∧ Z 21 c = nI f) ∧ (∀ j, j < zN Z 0 → (∃ s, s < 10 ∧ Z 11 j = nI s) ∧ ∃ r, r < 4 ∧ Z 12 j = nI r) ∧ ∀ k, k < zN Z 1 → (∃ a, a < 1000 ∧ Z 15 k = nI a) ∧ ∃ b, b < 100 ∧ Z 16 k = nI b
theorem jFix.of {Z Z' : zM} {cp : Nat → Nat} (h : jFix Z cp) (e : ∀ f k, 8 < f → f < 27 → f ≠ 14 → f ≠ 17 → f ≠ 18 → f ≠ 23 → f ≠ 24 → Z' f k = Z f k) (eh : zHouse Z' ∧ (Z' 23 0 = 0 ↔ Z' 24 0 = 0)) (ec : Z' 27 0 = Z 27 0 ∨ Z' 27 0 = 0) : jFix Z' cp := by
  obtain ⟨-, h2, h3, h4, h5, h6⟩ := h
  have n0 : zN Z' 0 = zN Z 0 := by unfold zN; rw [e _ _ (by decide) (by decide) (by decide) (by decide) (by decide) (by decide) (by decide)]
  have n1 : zN Z' 1 = zN Z 1 := by unfold zN; rw [e _ _ (by decide) (by decide) (by decide) (by decide) (by decide) (by decide) (by decide)]
  have n2 : zN Z' 2 ≤ zN Z 2 := by
    unfold zN
    rcases ec with q | q
    · rw [show 25 + 2 = 27 from rfl, q]; exact Nat.le_refl _
    · rw [show 25 + 2 = 27 from rfl, q]; exact Nat.zero_le _
  refine ⟨eh, fun i hi => ?_, by omega, fun c hc => ?_, fun j hj => ?_, fun k hk => ?_⟩
  · obtain ⟨a1, a2⟩ := h2 i hi
    refine ⟨?_, a2⟩
    rcases (show i = 0 ∨ i = 1 ∨ i = 2 by omega) with rfl | rfl | rfl
    · exact zLst_of a1 (e _ _ (by decide) (by decide) (by decide) (by decide) (by decide) (by decide) (by decide))
    · exact zLst_of a1 (e _ _ (by decide) (by decide) (by decide) (by decide) (by decide) (by decide) (by decide))
    · rcases ec with q | q
      · exact zLst_of a1 q
      · have z2 : zN Z' 2 = 0 := by unfold zN; rw [show 25 + 2 = 27 from rfl, q]; rfl
        unfold zLst
        rw [z2]
        exact ⟨q, by omega, a1.2.2.1, by omega⟩
  · rw [e 19 c (by decide) (by decide) (by decide) (by decide) (by decide) (by decide) (by decide), e 21 c (by decide) (by decide) (by decide) (by decide) (by decide) (by decide) (by decide), n1]
    exact h4 c (by omega)
  · rw [e 11 j (by decide) (by decide) (by decide) (by decide) (by decide) (by decide) (by decide), e 12 j (by decide) (by decide) (by decide) (by decide) (by decide) (by decide) (by decide)]
    exact h5 j (by omega)
  · rw [e 15 k (by decide) (by decide) (by decide) (by decide) (by decide) (by decide) (by decide), e 16 k (by decide) (by decide) (by decide) (by decide) (by decide) (by decide) (by decide)]
    exact h6 k (by omega)
theorem jFix.eh {Z Z' : zM} {cp : Nat → Nat} (h : jFix Z cp) (e3 : Z' 23 0 = Z 23 0) (e4 : Z' 24 0 = Z 24 0) : zHouse Z' ∧ (Z' 23 0 = 0 ↔ Z' 24 0 = 0) := by
  unfold zHouse
  rw [e3, e4]
  exact h.1
theorem jFix.cue {Z : zM} {cp : Nat → Nat} (h : jFix Z cp) {c : Nat} (hc : c < zN Z 2) : Z 19 c = nI (Z 19 c).toNatClampNeg ∧ (Z 19 c).toNatClampNeg < zN Z 1 := by
  obtain ⟨⟨a, h1, h2⟩, -⟩ := h.2.2.2.1 c hc
  have := h.2.2.1
  rw [h2, nI_clamp (by omega)]
  exact ⟨rfl, h1⟩
/-- seats -/
def jSt (Z : zM) (sb : Nat → Option Nat) : Prop := jSeats (Z 23 0).toNatClampNeg (Z 24 0).toNatClampNeg Z ∧ zSb Z sb ∧ (∀ k, zChr (Z 0 k)) ∧ zSeats Z
theorem zSeats.of {Z Z' : zM} (h : zSeats Z) (e0 : Z' 0 = Z 0) (e2 : Z' 2 = Z 2) (n : zN Z 0 ≤ zN Z' 0) : zSeats Z' := by
  intro k hk
  rw [e0, e2]
  obtain ⟨a1, a2, a3⟩ := h k hk
  exact ⟨a1, a2, fun j hj => ⟨Nat.lt_of_lt_of_le (a3 j hj).1 n, (a3 j hj).2⟩⟩
theorem jSt.of {Z Z' : zM} {sb : Nat → Option Nat} (h : jSt Z sb) (e : ∀ f k, f = 0 ∨ f = 2 ∨ f = 3 ∨ f = 6 ∨ f = 7 → Z' f k = Z f k) (e23 : Z' 23 0 = Z 23 0) (e24 : Z' 24 0 = Z 24 0) (e25 : Z' 25 0 = Z 25 0) : jSt Z' sb := by
  have n0 : zN Z' 0 = zN Z 0 := by unfold zN; rw [show 25 + 0 = 25 from rfl, e25]
  obtain ⟨h1, h2, h3, h4⟩ := h
  have f0 : Z' 0 = Z 0 := funext fun k => e 0 k (by decide)
  have f2 : Z' 2 = Z 2 := funext fun k => e 2 k (by decide)
  refine ⟨?_, h2.of n0 f2, fun k => by rw [f0]; exact h3 k, h4.of f0 f2 (by omega)⟩
  rw [e23, e24]
  exact h1.of f0 f2 (funext fun k => e 3 k (by decide)) (funext fun k => e 6 k (by decide)) (funext fun k => e 7 k (by decide))
/-- ALL that holds between two calls, behind n of them -/
def jJ (n : Nat) (Z : zM) (sb : Nat → Option Nat) (cp : Nat → Nat) : Prop := jFix Z cp ∧ jSt Z sb ∧ jLoud Z ∧ jTail Z ∧ jMon (9900 * n) Z
theorem jJ.next {n : Nat} {Z : zM} {sb : Nat → Option Nat} {cp : Nat → Nat} (h : jJ n Z sb cp) : jJ (n + 1) Z sb cp := ⟨h.1, h.2.1, h.2.2.1, h.2.2.2.1, h.2.2.2.2.le (by omega)⟩
/-- a change of numbers that the invariant doesn't speak of -/
theorem jJ.of {n : Nat} {Z Z' : zM} {sb : Nat → Option Nat} {cp : Nat → Nat} (h : jJ n Z sb cp) (e : ∀ f k, f = 0 ∨ f = 2 ∨ f = 3 ∨ f = 6 ∨ f = 7 ∨ (8 < f ∧ f < 28) ∨ f = 30 ∨ f = 34 → Z' f k = Z f k) : jJ (n + 1) Z' sb cp := by
  obtain ⟨h1, h2, ⟨l, l1, l2⟩, h4, h5⟩ := h.next
  refine ⟨h1.of (fun f k a1 a2 _ _ _ _ _ => e f k (by omega)) (h1.eh (e _ _ (by decide)) (e _ _ (by decide))) (Or.inl (e _ _ (by decide))), h2.of (fun f k hf => e f k (by omega)) (e _ _ (by decide)) (e _ _ (by decide)) (e _ _ (by decide)), ⟨l, l1, by rw [e _ _ (by decide)]; exact l2⟩, h4.of (fun k => e _ _ (by decide)) (fun k => e _ _ (by decide)) (fun k => e _ _ (by decide)) (e _ _ (by decide)) (e _ _ (by decide)), h5.of (e _ _ (by decide)) (fun k => e _ _ (by decide)) (fun k => e _ _ (by decide))⟩
