/-! ===== level, runs, evenings, money keep the invariant; what calls want of it ===== -/
theorem jJ.level {n : Nat} {Z : zM} {sb : Nat → Option Nat} {cp : Nat → Nat} (h : jJ n Z sb cp) (x : Int32) : jJ (n + 1) (zu Z 28 0 x) sb cp := h.of (fun f k hf => zu_f (by omega))
theorem jJ.cues {n : Nat} {Z : zM} {sb : Nat → Option Nat} {cp : Nat → Nat} (h : jJ n Z sb cp) : ∀ c, c < zN Z 2 → Z 19 c = nI (Z 19 c).toNatClampNeg ∧ (Z 19 c).toNatClampNeg < zN Z 1 := fun _ hc => h.1.cue hc
theorem jJ.hf {n : Nat} {Z : zM} {sb : Nat → Option Nat} {cp : Nat → Nat} (h : jJ n Z sb cp) : ∀ c, c < zN Z 2 → ∃ f, f < 4 ∧ Z 21 c = nI f := fun c hc => (h.1.2.2.2.1 c hc).2
theorem jJ.hs {n : Nat} {Z : zM} {sb : Nat → Option Nat} {cp : Nat → Nat} (h : jJ n Z sb cp) : ∀ k, k < 80 → ∀ j, zh (Z 2 k) = some j → ∃ s, s < 10 ∧ Z 11 j = nI s := fun k hk j hj => (h.1.2.2.2.2.1 j ((h.2.1.2.2.2 k hk).2.2 j hj).1).1
theorem jJ.inv {n : Nat} {Z : zM} {sb : Nat → Option Nat} {cp : Nat → Nat} (h : jJ n Z sb cp) : zInv Z cp := ⟨h.1.1.1, h.2.1.2.2.2, (h.1.2.1 0 (by decide)).1, (h.1.2.1 1 (by decide)).1, (h.1.2.1 2 (by decide)).1, fun c hc => (h.cues c hc).2⟩
theorem jJ.ok {n : Nat} {Z : zM} {sb : Nat → Option Nat} {cp : Nat → Nat} (h : jJ n Z sb cp) : mOK Z := by
  refine ⟨h.1.1.1, (h.1.2.1 2 (by decide)).1.cnt, h.2.1.1.2, fun k hk h0 => ?_, fun c hc => ?_⟩
  · obtain ⟨j, hj⟩ := (h.2.1.1.1 k hk).1 h0
    have h1 := ((h.2.1.2.2.2 k hk).2.2 j hj).1
    exact ⟨j, Nat.lt_of_lt_of_le h1 (h.1.2.1 0 (by decide)).1.2.2.2, (zh_some hj).1⟩
  · obtain ⟨a1, a2⟩ := h.cues c hc
    exact ⟨a1, Nat.lt_of_lt_of_le a2 h.1.2.2.1⟩
theorem jJ.mrun {n : Nat} {Z : zM} {sb : Nat → Option Nat} {cp : Nat → Nat} (h : jJ n Z sb cp) (i : Nat) : mRun Z i = fRun Z i := (mRun_eq h.1.1.1 h.2.1.1 h.2.2.1 h.hf h.hs i).1
theorem jJ.run {n : Nat} {Z : zM} {sb : Nat → Option Nat} {cp : Nat → Nat} (h : jJ n Z sb cp) {i : Nat} (hi : i ≤ 100) : jJ (n + 1) (fRun Z i) sb cp := by
  obtain ⟨-, i1, l1⟩ := mRun_eq h.1.1.1 h.2.1.1 h.2.2.1 h.hf h.hs i
  obtain ⟨m1, t1⟩ := h.2.2.2.2.run h.2.2.2.1 (fun c hc => (h.cues c hc).2) h.1.2.2.1 i
  have fr := zFr_run Z i
  have iv := h.inv.fr fr
  refine ⟨h.1.of (fun f k a1 a2 _ _ _ _ _ => by rw [fr f (by omega)]) (h.1.eh (by rw [fr 23 (by omega)]) (by rw [fr 24 (by omega)])) (Or.inl (by rw [fr 27 (by omega)])), ⟨?_, ?_, fun k => ?_, iv.2.1⟩, l1, t1, m1.le (by omega)⟩
  · rw [fr 23 (by omega), fr 24 (by omega)]; exact i1
  · exact h.2.1.2.1.of (by unfold zN; rw [fr (25 + 0) (by omega)]) (fr 2 (by omega))
  · rw [fr 0 (by omega)]; exact h.2.1.2.2.1 k
/-- the end of an evening -/
theorem fBill_at (Z : zM) : ∀ i k, fIter fBill Z i 17 k = if k < i then Z 17 k + fDue Z k else Z 17 k
  | 0, k => by rw [if_neg (Nat.not_lt_zero k)]; rfl
  | i + 1, k => by
    show zu (fIter fBill Z i) 17 i (fIter fBill Z i 17 i + fDue (fIter fBill Z i) i) 17 k = _
    by_cases e : k = i
    · subst e
      rw [zu_s, fBill_at Z k k, if_neg (Nat.lt_irrefl k), if_pos (Nat.lt_succ_self k), fDue_c (fun f b hf => fBill_n hf k b)]
    · rw [zu_k e, fBill_at Z i k]
      by_cases q : k < i
      · rw [if_pos q, if_pos (by omega)]
      · rw [if_neg q, if_neg (by omega)]
theorem fEnd_n {Z : zM} {f k : Nat} (hf : f ≠ 3 ∧ f ≠ 6 ∧ f ≠ 4 ∧ f ≠ 7) (h17 : f ≠ 17) (h18 : f ≠ 18) (h : ¬ (f = 27 ∨ (29 ≤ f ∧ f ≤ 33))) : fEnd Z f k = Z f k := by
  unfold fEnd
  rw [fRise_n h18 h, fRest_n hf, fBill_n h17]
theorem fEnd_17 {Z : zM} {k : Nat} : fEnd Z 17 k = if k < zN Z 1 then Z 17 k + fDue Z k else Z 17 k := by
  unfold fEnd
  rw [fRise_n (by decide) (by decide), fRest_n (by decide), fBill_at]
theorem fEnd_18 {Z : zM} {k : Nat} : fEnd Z 18 k = if k < zN Z 1 then 0 else Z 18 k := by
  unfold fEnd
  rw [fRise_18, show zN (fIter fRest (fIter fBill Z (zN Z 1)) 80) 1 = zN Z 1 by unfold zN; rw [fRest_n (by decide), fBill_n (by decide)], fRest_n (by decide), fBill_n (by decide)]
theorem jJ.end {n : Nat} {Z : zM} {sb : Nat → Option Nat} {cp : Nat → Nat} (h : jJ n Z sb cp) : jJ (n + 1) (fEnd Z) sb cp := by
  obtain ⟨h1, ⟨s1, s2, s3, s4⟩, -, h4, ⟨p, q, c, m1, m2, m3⟩⟩ := h
  have n0 : zN (fEnd Z) 0 = zN Z 0 := by unfold zN; rw [fEnd_n (by decide) (by decide) (by decide) (by decide)]
  have n1 : zN (fEnd Z) 1 = zN Z 1 := by unfold zN; rw [fEnd_n (by decide) (by decide) (by decide) (by decide)]
  have hdue : ∀ k, k < zN Z 1 → ∃ d, d ≤ 999 + 99 * c k ∧ fDue Z k = nI d := fun k hk => by
    unfold fDue
    obtain ⟨⟨a, a1, a2⟩, ⟨b, b1, b2⟩⟩ := h1.2.2.2.2.2 k hk
    split
    · rw [a2, b2, (m2 k (by have := h1.2.2.1; omega)).2, nI_mul, nI_add]
      refine ⟨a + b * c k, ?_, rfl⟩
      have := Nat.mul_le_mul_right (c k) (show b ≤ 99 by omega)
      omega
    · exact ⟨0, Nat.zero_le _, rfl⟩
  refine ⟨h1.of (fun f k a1 a2 _ a4 a5 _ _ => fEnd_n (by omega) (by omega) (by omega) (by omega)) (h1.eh (fEnd_n (by decide) (by decide) (by decide) (by decide)) (fEnd_n (by decide) (by decide) (by decide) (by decide))) (Or.inr (by unfold fEnd; exact fRise_27)), ?_, by unfold fEnd; exact jLoud.rise, ⟨fun k hk => ?_, fun k hk => ?_⟩, ?_⟩
  · unfold fEnd
    have eb : ∀ f k, f ≠ 17 → fIter fBill Z (zN Z 1) f k = Z f k := fun f k hf => fBill_n hf _ k
    generalize fIter fBill Z (zN Z 1) = B at eb
    have er : ∀ f k, f ≠ 17 → f ≠ 3 ∧ f ≠ 6 ∧ f ≠ 4 ∧ f ≠ 7 → fIter fRest B 80 f k = Z f k := fun f k h17 hf => (fRest_n hf 80 k).trans (eb f k h17)
    have e0 : fIter fRest B 80 0 = Z 0 := funext fun k => er 0 k (by decide) (by decide)
    have e2 : fIter fRest B 80 2 = Z 2 := funext fun k => er 2 k (by decide) (by decide)
    have nn : zN (fIter fRest B 80) 0 = zN Z 0 := by unfold zN; rw [er _ _ (by decide) (by decide)]
    refine jSt.rise ⟨?_, s2.of nn e2, fun k => by rw [e0]; exact s3 k, s4.of e0 e2 (by omega)⟩
    rw [er 23 0 (by decide) (by decide), er 24 0 (by decide) (by decide)]
    exact (s1.of (Z' := B) (funext fun k => eb _ _ (by decide)) (funext fun k => eb _ _ (by decide)) (funext fun k => eb _ _ (by decide)) (funext fun k => eb _ _ (by decide)) (funext fun k => eb _ _ (by decide))).rest
  · rw [fEnd_n (by decide) (by decide) (by decide) (by decide)]; exact h4.1 k (by omega)
  · rw [fEnd_17, fEnd_18, if_neg (by omega), if_neg (by omega)]; exact h4.2 k (by omega)
  · have hd : ∃ d : Nat → Nat, ∀ k, k < zN Z 1 → d k ≤ 999 + 99 * c k ∧ fDue Z k = nI (d k) :=
      ⟨fun k => if hk : k < zN Z 1 then (hdue k hk).choose else 0, fun k hk => by (try dsimp only); rw [dif_pos hk]; exact (hdue k hk).choose_spec⟩
    obtain ⟨d, hd⟩ := hd
    refine ⟨p, fun k => if k < zN Z 1 then q k + d k else q k, fun k => if k < zN Z 1 then 0 else c k, by rw [fEnd_n (by decide) (by decide) (by decide) (by decide)]; exact m1, fun k hk => ?_, ?_⟩
    · rw [fEnd_17, fEnd_18]
      try dsimp only
      by_cases g : k < zN Z 1
      · rw [if_pos g, if_pos g, if_pos g, if_pos g, (m2 k hk).1, (hd k g).2, nI_add]
        exact ⟨rfl, rfl⟩
      · rw [if_neg g, if_neg g, if_neg g, if_neg g]
        exact m2 k hk
    · have := nSum_le (f := fun k => (if k < zN Z 1 then q k + d k else q k) + 99 * (if k < zN Z 1 then 0 else c k)) (g := fun k => q k + 99 * c k) 999 6 (fun k _ => by
        try dsimp only
        by_cases g : k < zN Z 1
        · have := (hd k g).1
          rw [if_pos g, if_pos g]; omega
        · rw [if_neg g, if_neg g]; omega)
      try dsimp only at this ⊢
      omega
/-- a singer pays -/
theorem kPay_0 {Z : zM} {s m : Int32} (h : kPay Z s m = 0) : fI s (Z 26 0) ∧ fR m 1 99999 ∧ ¬ Z 17 s.toNatClampNeg ≤ 0 := by
  unfold kPay at h
  by_cases h0 : fI s (Z 26 0)
  · rw [if_neg (not_not_intro h0)] at h
    by_cases h1 : fR m 1 99999
    · rw [if_neg (not_not_intro h1)] at h
      by_cases h2 : Z 17 s.toNatClampNeg ≤ 0
      · rw [if_pos h2] at h; exact k_ne h
      · exact ⟨h0, h1, h2⟩
    · rw [if_pos h1] at h; exact k_ne h
  · rw [if_pos h0] at h; exact k_ne h
theorem fPays_n {Z : zM} {j : Nat} {y : Int32} {f k : Nat} (h17 : f ≠ 17) (h34 : f ≠ 34) : fPays Z j y f k = Z f k := by
  unfold fPays
  rw [zu_f h34, zu_f h17]
theorem fMin_nI {a b : Nat} (ha : a < 2 ^ 31) (hb : b < 2 ^ 31) : ∃ m, m ≤ a ∧ m ≤ b ∧ fMin (nI a) (nI b) = nI m := by
  unfold fMin
  by_cases h : nI b < nI a
  · rw [if_pos h]
    exact ⟨b, Nat.le_of_lt ((nI_ltI hb ha).mp h), Nat.le_refl b, rfl⟩
  · rw [if_neg h]
    refine ⟨a, Nat.le_refl a, ?_, rfl⟩
    rcases Nat.lt_or_ge b a with q | q
    · exact absurd (nI_lt q ha) h
    · exact q
theorem jMon.small {n : Nat} {Z : zM} (h : jMon n Z) (hn : n < 2 ^ 31) : 0 ≤ Z 34 0 ∧ ∀ k, k < 6 → 0 ≤ Z 17 k := by
  obtain ⟨p, q, c, m1, m2, m3⟩ := h
  refine ⟨by rw [m1]; exact nI_pos' (by omega), fun k hk => ?_⟩
  rw [(m2 k hk).1]
  have h9 := nSum_at (f := fun j => if j = k then 0 else q j + 99 * c j) (g := fun j => q j + 99 * c j) (j := k) (fun j hj => by (try dsimp only); rw [if_neg hj]) 6 hk
  try dsimp only at h9
  rw [if_pos rfl] at h9
  exact nI_pos' (by omega)
theorem jJ.pay {n : Nat} {Z : zM} {sb : Nat → Option Nat} {cp : Nat → Nat} (h : jJ n Z sb cp) (hn : n ≤ 512) {x y : Int32} (hk : kPay Z x y = 0) : jJ (n + 1) (fPays Z x.toNatClampNeg y) sb cp := by
  obtain ⟨h1, s1, ⟨l, l1, l2⟩, h4, ⟨p, q, c, m1, m2, m3⟩⟩ := h
  obtain ⟨kx, ky, k0⟩ := kPay_0 hk
  obtain ⟨j, rfl, hj⟩ := fI_nat (i := 1) (h1.2.1 1 (by decide)).1 kx
  obtain ⟨b, -, b2, rfl⟩ := fR1_nat (b := 99999) (by decide) ky
  have h6 := h1.2.2.1
  have hj6 : j < 6 := by omega
  rw [nI_clamp (by omega)]
  have h9 := nSum_at (f := fun i => if i = j then 0 else q i + 99 * c i) (g := fun i => q i + 99 * c i) (j := j) (fun i hi => by (try dsimp only); rw [if_neg hi]) 6 hj6
  try dsimp only at h9
  rw [if_pos rfl] at h9
  obtain ⟨m, e1, e2, e3⟩ := fMin_nI (a := b) (b := q j) (by omega) (by omega)
  have ep : fPaid Z j (nI b) = nI m := by unfold fPaid; rw [(m2 j hj6).1]; exact e3
  have hp34 : fPays Z j (nI b) 34 0 = nI (p + m) := by unfold fPays; rw [zu_s, ep, m1, nI_add]
  have hp17 : ∀ k, fPays Z j (nI b) 17 k = if k = j then nI (q j - m) else Z 17 k := fun k => by
    unfold fPays
    rw [zu_f (by decide)]
    by_cases e : k = j
    · subst e
      rw [zu_s, if_pos rfl, ep, (m2 k hj6).1, nI_sub e2]
    · rw [zu_k e, if_neg e]
  refine ⟨h1.of (fun f k a1 a2 _ a4 a5 _ _ => fPays_n (by omega) (by omega)) (h1.eh (fPays_n (by decide) (by decide)) (fPays_n (by decide) (by decide))) (Or.inl (fPays_n (by decide) (by decide))), s1.of (fun f k hf => fPays_n (by omega) (by omega)) (fPays_n (by decide) (by decide)) (fPays_n (by decide) (by decide)) (fPays_n (by decide) (by decide)), ⟨l, l1, by rw [fPays_n (by decide) (by decide)]; exact l2⟩, ⟨fun k hk9 => ?_, fun k hk9 => ?_⟩, ⟨p + m, fun k => if k = j then q j - m else q k, c, hp34, fun k hk9 => ⟨?_, ?_⟩, ?_⟩⟩
  · rw [fPays_n (by decide) (by decide)]
    exact h4.1 k (by rw [show zN Z 0 = zN (fPays Z j (nI b)) 0 by unfold zN; rw [fPays_n (by decide) (by decide)]]; exact hk9)
  · have n1 : zN (fPays Z j (nI b)) 1 = zN Z 1 := by unfold zN; rw [fPays_n (by decide) (by decide)]
    rw [hp17, if_neg (by omega), fPays_n (by decide) (by decide)]
    exact h4.2 k (by omega)
  · rw [hp17]
    try dsimp only
    by_cases e : k = j
    · rw [if_pos e, if_pos e]
    · rw [if_neg e, if_neg e]; exact (m2 k hk9).1
  · rw [fPays_n (by decide) (by decide)]; exact (m2 k hk9).2
  · have h8 := nSum_at (f := fun k => (if k = j then q j - m else q k) + 99 * c k) (g := fun k => q k + 99 * c k) (j := j) (fun i hi => by (try dsimp only); rw [if_neg hi]) 6 hj6
    try dsimp only at h8 ⊢
    rw [if_pos rfl] at h8
    omega
/-- the purse is shared -/
theorem fShZ_14 (Z : zM) (m P : Int32) : ∀ i k, i ≤ k → fShZ Z m P i 14 k = Z 14 k
  | 0, _, _ => rfl
  | i + 1, k, h => by
    show zu _ 14 i _ 14 k = _
    rw [zu_k (by omega)]
    exact fShZ_14 Z m P i k (by omega)
theorem fShare_n {Z : zM} {f k : Nat} (h14 : f ≠ 14) (h34 : f ≠ 34) (h35 : f ≠ 35) : fShare Z f k = Z f k := by
  unfold fShare
  rw [zu_f h35, zu_f h34, fShZ_n _ _ _ h14]
theorem jJ.share {n : Nat} {Z : zM} {sb : Nat → Option Nat} {cp : Nat → Nat} (h : jJ n Z sb cp) : jJ (n + 1) (fShare Z) sb cp := by
  obtain ⟨h1, s1, ⟨l, l1, l2⟩, h4, ⟨p, q, c, m1, m2, m3⟩⟩ := h
  have n0 : zN (fShare Z) 0 = zN Z 0 := by unfold zN; rw [fShare_n (by decide) (by decide) (by decide)]
  have n1 : zN (fShare Z) 1 = zN Z 1 := by unfold zN; rw [fShare_n (by decide) (by decide) (by decide)]
  refine ⟨h1.of (fun f k a1 a2 a3 a4 a5 _ _ => fShare_n (by omega) (by omega) (by omega)) (h1.eh (fShare_n (by decide) (by decide) (by decide)) (fShare_n (by decide) (by decide) (by decide))) (Or.inl (fShare_n (by decide) (by decide) (by decide))), s1.of (fun f k hf => fShare_n (by omega) (by omega) (by omega)) (fShare_n (by decide) (by decide) (by decide)) (fShare_n (by decide) (by decide) (by decide)) (fShare_n (by decide) (by decide) (by decide)), ⟨l, l1, by rw [fShare_n (by decide) (by decide) (by decide)]; exact l2⟩, ⟨fun k hk => ?_, fun k hk => ?_⟩, ⟨0, q, c, ?_, fun k hk => ⟨?_, ?_⟩, by omega⟩⟩
  · unfold fShare
    rw [zu_f (by decide), zu_f (by decide), fShZ_14 _ _ _ _ _ (by omega)]
    exact h4.1 k (by omega)
  · rw [fShare_n (by decide) (by decide) (by decide), fShare_n (by decide) (by decide) (by decide)]
    exact h4.2 k (by omega)
  · unfold fShare
    rw [zu_f (by decide), zu_s]
    rfl
  · rw [fShare_n (by decide) (by decide) (by decide)]; exact (m2 k hk).1
  · rw [fShare_n (by decide) (by decide) (by decide)]; exact (m2 k hk).2
