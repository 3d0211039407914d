/-- a seat's noise: the strength times the greatest force is the greatest product -/
theorem fMax_mul0 : ∀ s, s < 10 → ∀ a, a < 4 → ∀ b, b < 4 → fMax (nI s * nI a) (nI s * nI b) = nI s * fMax (nI a) (nI b) ∧ ∃ c, c < 4 ∧ fMax (nI a) (nI b) = nI c := by
  intro s hs a ha b hb
  have h : ∀ s, s < 10 → ∀ a, a < 4 → ∀ b, b < 4 → fMax (nI s * nI a) (nI s * nI b) = nI s * fMax (nI a) (nI b) := by decide +kernel
  refine ⟨h s hs a ha b hb, ?_⟩
  unfold fMax
  by_cases q : nI a < nI b
  · exact ⟨b, hb, if_pos q⟩
  · exact ⟨a, ha, if_neg q⟩
theorem fForce_le {Y : zM} {j : Nat} (hf : ∀ c, c < zN Y 2 → ∃ f, f < 4 ∧ Y 21 c = nI f) : ∀ n, n ≤ zN Y 2 → ∃ f, f < 4 ∧ fForce Y j n = nI f
  | 0, _ => ⟨0, by decide, rfl⟩
  | n + 1, hn => by
    obtain ⟨f, h1, h2⟩ := fForce_le hf n (by omega)
    obtain ⟨g, h3, h4⟩ := hf n (by omega)
    show ∃ f, f < 4 ∧ (if fOn Y n (Y 29 0) ∧ fFollows Y j n then fMax (fForce Y j n) (Y 21 n) else fForce Y j n) = nI f
    split
    · rw [h2, h4]
      exact (fMax_mul0 0 (by decide) f h1 g h3).2
    · exact ⟨f, h1, h2⟩
theorem mMade_eq {Y : zM} {j : Nat} (hf : ∀ c, c < zN Y 2 → ∃ f, f < 4 ∧ Y 21 c = nI f) (hs : ∃ s, s < 10 ∧ Y 11 j = nI s) : ∀ n, n ≤ zN Y 2 → mMade Y j n = Y 11 j * fForce Y j n
  | 0, _ => by
    show (0 : Int32) = Y 11 j * 0
    rw [Int32.mul_zero]
  | n + 1, hn => by
    show (if fOn Y n (Y 29 0) ∧ fFollows Y j n then fMax (mMade Y j n) (Y 11 j * Y 21 n) else mMade Y j n) = Y 11 j * (if fOn Y n (Y 29 0) ∧ fFollows Y j n then fMax (fForce Y j n) (Y 21 n) else fForce Y j n)
    rw [mMade_eq hf hs n (by omega)]
    split
    · obtain ⟨s, h1, h2⟩ := hs
      obtain ⟨f, h3, h4⟩ := fForce_le (j := j) hf n (by omega)
      obtain ⟨g, h5, h6⟩ := hf n (by omega)
      rw [h2, h4, h6]
      exact (fMax_mul0 s h1 f h3 g h5).1
    · rfl
theorem mNoise_eq {Y : zM} {j : Nat} (hf : ∀ c, c < zN Y 2 → ∃ f, f < 4 ∧ Y 21 c = nI f) (hs : ∃ s, s < 10 ∧ Y 11 j = nI s) : mNoise Y j = fNoise Y j := by
  unfold mNoise fNoise
  rw [mMade_eq hf hs _ (Nat.le_refl _)]
theorem fAround_c {Y Y' : zM} (h5 : Y' 5 = Y 5) (h8 : Y' 8 = Y 8) (h23 : Y' 23 = Y 23) (h24 : Y' 24 = Y 24) (a b : Nat) : fAround Y' a b = fAround Y a b := by
  have hp : ∀ x y, fPl Y' x y = fPl Y x y := fun x y => by unfold fPl; rw [h23, h24]
  have hh : ∀ k, fHeard Y' k = fHeard Y k := fun k => by unfold fHeard; rw [h5, h8]
  have hc : ∀ i j acc, fCell Y' a b i j acc = fCell Y a b i j acc := fun i j acc => by unfold fCell; simp only [hp, hh]
  have hr : ∀ i acc j, fRow Y' a b i acc j = fRow Y a b i acc j := by
    intro i acc j
    induction j with
    | zero => rfl
    | succ j ih =>
      show fCell Y' a b i j (fRow Y' a b i acc j) = fCell Y a b i j (fRow Y a b i acc j)
      rw [ih, hc]
  have hrs : ∀ i, fRows Y' a b i = fRows Y a b i := by
    intro i
    induction i with
    | zero => rfl
    | succ i ih =>
      show fRow Y' a b i (fRows Y' a b i) 3 = fRow Y a b i (fRows Y a b i) 3
      rw [ih, hr]
  exact hrs 3
theorem fAround_zu {Y : zM} {F k : Nat} {v : Int32} (hF : F ≠ 5 ∧ F ≠ 8 ∧ F ≠ 23 ∧ F ≠ 24) (a b : Nat) : fAround (zu Y F k v) a b = fAround Y a b := by
  refine fAround_c ?_ ?_ ?_ ?_ a b <;> funext j <;> exact zu_f (by omega)
/-- what holds of a place before it sits -/
def mAt1 (nr nc n : Nat) (W : zM) (k : Nat) : Prop := (W 0 k = 104 → ∃ j, zh (W 2 k) = some j) ∧ (∀ j, zh (W 2 k) = some j → W 0 k = 104 ∧ ∃ s, s < 10 ∧ W 11 j = nI s) ∧ (W 0 k ≠ 112 → W 6 k = 0) ∧ (W 0 k ≠ 114 → W 7 k = 0) ∧ (¬ (k / 10 < nr ∧ k % 10 < nc) → W 0 k ≠ 104 ∧ W 0 k ≠ 112 ∧ W 0 k ≠ 114) ∧ (n ≤ k → W 3 k = W 5 k)
def mInv (nr nc n : Nat) (W : zM) : Prop := (∀ k, k < 80 → mAt1 nr nc n W k) ∧ ∀ c, c < zN W 2 → ∃ f, f < 4 ∧ W 21 c = nI f
theorem mSits_eq {nr nc n : Nat} {W : zM} {a b : Nat} (hb : b < 10) (hk : a * 10 + b < 80) (hn : n = a * 10 + b) (h : mInv nr nc n W) : mSits W (a * 10 + b) = fSits W a b := by
  obtain ⟨h1, h2, h3, h4, h5, h6⟩ := h.1 _ hk
  have e35 := h6 (by omega)
  unfold mSits fSits
  rw [show (a * 10 + b) / 10 = a by omega, show (a * 10 + b) % 10 = b by omega]
  by_cases q104 : W 0 (a * 10 + b) = 104
  · obtain ⟨j, hj⟩ := h1 q104
    have hq : mQuiet W (a * 10 + b) = W := by
      unfold mQuiet
      rw [zu_id (h3 (by rw [q104]; decide)), zu_id (h4 (by rw [q104]; decide))]
    have hj2 : (W 2 (a * 10 + b)).toNatClampNeg = j := by
      obtain ⟨e1, e2⟩ := zh_some hj
      rw [e1, nI_clamp e2]
    rw [if_pos q104, if_neg (by rw [q104]; decide), if_neg (by rw [q104]; decide), hj, hq, hj2, mNoise_eq h.2 (h2 j hj).2]
  · rw [if_neg q104]
    by_cases q114 : W 0 (a * 10 + b) = 114
    · have e6 : zu W 6 (a * 10 + b) 0 = W := zu_id (h3 (by rw [q114]; decide))
      have n112 : ¬ W 0 (a * 10 + b) = 112 := by rw [q114]; decide
      rw [if_pos q114, if_neg n112, if_pos q114]
      unfold mQuiet
      rw [e6, fAround_zu (F := 7) (by decide), zu_zu, zu_zu]
    · rw [if_neg q114]
      by_cases q112 : W 0 (a * 10 + b) = 112
      · have e7 : ∀ V : zM, V 7 (a * 10 + b) = 0 → zu V 7 (a * 10 + b) 0 = V := fun V hV => zu_id hV
        rw [if_pos q112, if_pos q112]
        unfold mQuiet fPay
        rw [e7 _ (by rw [zu_f (by decide)]; exact h4 (by rw [q112]; decide)), fAround_zu (F := 6) (by decide), zu_zu, zu_zu, e35]
        split
        · exact zu_id (by rw [zu_f (by decide), zu_f (by decide), Int32.add_zero])
        · exact zu_cm (by decide)
      · rw [if_neg q112, if_neg q112, if_neg q114]
        have hq : mQuiet W (a * 10 + b) = W := by
          unfold mQuiet
          rw [zu_id (h3 q112), zu_id (h4 q114)]
        rw [hq]
        cases hz : zh (W 2 (a * 10 + b)) with
        | none => rfl
        | some j => exact absurd (h2 j hz).1 q104
/-- outside of the house nothing sits -/
theorem fSits_out {nr nc n : Nat} {W : zM} {a b : Nat} (hb : b < 10) (hk : a * 10 + b < 80) (h : mInv nr nc n W) (ho : ¬ (a < nr ∧ b < nc)) : fSits W a b = W := by
  obtain ⟨h1, h2, h3, h4, h5, h6⟩ := h.1 _ hk
  obtain ⟨n1, n2, n3⟩ := h5 (by rw [show (a * 10 + b) / 10 = a by omega, show (a * 10 + b) % 10 = b by omega]; exact ho)
  unfold fSits
  rw [if_neg n2, if_neg n3]
  cases hz : zh (W 2 (a * 10 + b)) with
  | none => rfl
  | some j => exact absurd (h2 j hz).1 n1
theorem fSits_k {W : zM} {a b f k : Nat} (hf : f ≠ 32) (hk : k ≠ a * 10 + b) : fSits W a b f k = W f k := by
  unfold fSits
  split
  · unfold fPay
    split
    · rw [zu_k hk, zu_k hk]
    · rw [zu_k hk, zu_k hk, zu_k hk]
  · split
    · split
      · rw [zu_f hf, zu_k hk]
      · rw [zu_f hf, zu_k hk]
    · cases zh (W 2 (a * 10 + b)) with
      | none => rfl
      | some j => exact zu_k hk
theorem fSits_5 {W : zM} {a b k : Nat} : fSits W a b 5 k = W 5 k := by
  unfold fSits
  split
  · unfold fPay
    split
    · rw [zu_f (by decide), zu_f (by decide)]
    · rw [zu_f (by decide), zu_f (by decide), zu_f (by decide)]
  · split
    · split
      · rw [zu_f (by decide), zu_f (by decide)]
      · rw [zu_f (by decide), zu_f (by decide)]
    · cases zh (W 2 (a * 10 + b)) with
      | none => rfl
      | some j => exact zu_f (by decide)
theorem fSits_6 {W : zM} {a b k : Nat} (h : W 0 (a * 10 + b) ≠ 112) : fSits W a b 6 k = W 6 k := by
  unfold fSits
  rw [if_neg h]
  split
  · split
    · rw [zu_f (by decide), zu_f (by decide)]
    · rw [zu_f (by decide), zu_f (by decide)]
  · cases zh (W 2 (a * 10 + b)) with
    | none => rfl
    | some j => exact zu_f (by decide)
theorem fSits_7k {W : zM} {a b k : Nat} (h : W 0 (a * 10 + b) ≠ 114) : fSits W a b 7 k = W 7 k := by
  unfold fSits
  rw [if_neg h]
  split
  · unfold fPay
    split
    · rw [zu_f (by decide), zu_f (by decide)]
    · rw [zu_f (by decide), zu_f (by decide), zu_f (by decide)]
  · cases zh (W 2 (a * 10 + b)) with
    | none => rfl
    | some j => exact zu_f (by decide)
theorem mInv_sits {nr nc n : Nat} {W : zM} {a b : Nat} (hb : b < 10) (hk : a * 10 + b < 80) (hn : n = a * 10 + b) (h : mInv nr nc n W) : mInv nr nc (n + 1) (fSits W a b) := by
  have fr := zFr_sits W a b
  have e0 := fr 0 (by omega)
  have e2 := fr 2 (by omega)
  have e11 := fr 11 (by omega)
  have e21 := fr 21 (by omega)
  have e27 : zN (fSits W a b) 2 = zN W 2 := by unfold zN; rw [fr (25 + 2) (by omega)]
  refine ⟨fun k hk8 => ?_, fun c hc => by rw [e21]; exact h.2 c (by rw [← e27]; exact hc)⟩
  obtain ⟨h1, h2, h3, h4, h5, h6⟩ := h.1 k hk8
  unfold mAt1
  rw [e0, e2, e11]
  refine ⟨h1, h2, fun q => ?_, fun q => ?_, h5, fun q => ?_⟩
  · by_cases e : k = a * 10 + b
    · rw [fSits_6 (by rw [← e]; exact q)]; exact h3 q
    · rw [fSits_k (by decide) e]; exact h3 q
  · by_cases e : k = a * 10 + b
    · rw [fSits_7k (by rw [← e]; exact q)]; exact h4 q
    · rw [fSits_k (by decide) e]; exact h4 q
  · rw [fSits_k (by decide) (by omega), fSits_5]
    exact h6 (by omega)
/-- the places in their order: the rows of the house -/
theorem mRows_eq {nr nc : Nat} (hr : nr ≤ 8) (hc : nc ≤ 10) {Z1 : zM} (h : mInv nr nc 0 Z1) : ∀ a, a ≤ 8 → (fIter mSits Z1 (a * 10) = fTickRows Z1 nc (min a nr) ∧ mInv nr nc (a * 10) (fIter mSits Z1 (a * 10))) := by
  intro a
  induction a with
  | zero => intro _; exact ⟨by rw [Nat.zero_mul, Nat.zero_min]; rfl, h⟩
  | succ a ih =>
    intro ha
    obtain ⟨e0, i0⟩ := ih (by omega)
    have hin : ∀ b, b ≤ 10 → (fIter mSits Z1 (a * 10 + b) = (if a < nr then fTickRow (fTickRows Z1 nc a) a (min b nc) else fTickRows Z1 nc nr) ∧ mInv nr nc (a * 10 + b) (fIter mSits Z1 (a * 10 + b))) := by
      intro b
      induction b with
      | zero =>
        intro _
        refine ⟨?_, i0⟩
        rw [Nat.add_zero, e0, Nat.zero_min]
        by_cases q : a < nr
        · rw [if_pos q, show min a nr = a by omega]; rfl
        · rw [if_neg q, show min a nr = nr by omega]
      | succ b ihb =>
        intro hb
        obtain ⟨eb, ib⟩ := ihb (by omega)
        have hs : fIter mSits Z1 (a * 10 + (b + 1)) = fSits (fIter mSits Z1 (a * 10 + b)) a b := by
          show mSits (fIter mSits Z1 (a * 10 + b)) (a * 10 + b) = _
          exact mSits_eq (by omega) (by omega) rfl ib
        have hi := mInv_sits (a := a) (b := b) (by omega) (by omega) rfl ib
        rw [← hs] at hi
        refine ⟨?_, hi⟩
        by_cases q : a < nr
        · by_cases p : b < nc
          · rw [hs, eb, if_pos q, if_pos q, show min b nc = b by omega, show min (b + 1) nc = b + 1 by omega]
            rfl
          · rw [hs, fSits_out (by omega) (by omega) ib (fun z => p z.2), eb, show min (b + 1) nc = min b nc by omega]
        · rw [hs, fSits_out (by omega) (by omega) ib (fun z => q z.1), eb, if_neg q, if_neg q]
    obtain ⟨e9, i9⟩ := hin 10 (by omega)
    rw [show (a + 1) * 10 = a * 10 + 10 by omega]
    refine ⟨?_, i9⟩
    rw [e9]
    by_cases q : a < nr
    · rw [if_pos q, show min 10 nc = nc by omega, show min (a + 1) nr = a + 1 by omega]
      rfl
    · rw [if_neg q, show min (a + 1) nr = nr by omega]
theorem fLast_c {Y Y' : zM} (h1 : Y' 20 = Y 20) (h2 : Y' 29 0 = Y 29 0) : ∀ n, fLast Y' n = fLast Y n
  | 0 => rfl
  | n + 1 => by
    show (if Y' 20 n ≤ Y' 29 0 then (match fLast Y' n with | none => some n | some b => if Y' 20 n < Y' 20 b then some b else some n) else fLast Y' n) = (if Y 20 n ≤ Y 29 0 then (match fLast Y n with | none => some n | some b => if Y 20 n < Y 20 b then some b else some n) else fLast Y n)
    rw [fLast_c h1 h2 n, h1, h2]
theorem mCall_eq (V : zM) : mCall V = fCalled (zu V 31 0 (V 31 0 + 1)) := by
  unfold mCall fCalled
  rw [fLast_c (Y := V) (Y' := zu V 31 0 (V 31 0 + 1)) (funext fun _ => zu_f (by decide)) (zu_f (by decide)), show zN (zu V 31 0 (V 31 0 + 1)) 2 = zN V 2 by unfold zN; rw [zu_f (by decide)]]
  cases fLast V (zN V 2) with
  | none => rfl
  | some c => simp only [zu_f (show (19 : Nat) ≠ 31 by decide), zu_f (show (18 : Nat) ≠ 31 by decide)]
theorem mHear_eq {W : zM} (hl : ∃ l, l < 5 ∧ W 30 0 = nI l) : mHear W = fHear W (fSum (W 3) 80) := by
  unfold mHear fHear
  split
  · rfl
  · obtain ⟨l, h1, h2⟩ := hl
    have h5 : (nI l + 1 = 5) ↔ ¬ (nI l + 1 < 5) := by
      have : ∀ l, l < 5 → ((nI l + 1 = 5) ↔ ¬ (nI l + 1 < 5)) := by decide +kernel
      exact this l h1
    by_cases q : W 30 0 + 1 = 5
    · rw [if_pos q, if_neg (by rw [h2] at q ⊢; exact h5.mp q), mCall_eq]
      rw [zu_f (Z := zu W 30 0 (W 30 0 + 1)) (show (31 : Nat) ≠ 30 by decide), zu_f (Z := W) (show (31 : Nat) ≠ 30 by decide)]
    · rw [if_neg q, if_pos]
      rcases Int32.lt_or_le (W 30 0 + 1) 5 with p | p
      · exact p
      · exact absurd (by rw [h2] at p ⊢; exact h5.mpr (Int32.not_lt.mpr p)) q
theorem fKeep_n {Y : zM} {f : Nat} (hf : f ≠ 5 ∧ f ≠ 8) : ∀ i k, fIter fKeep Y i f k = Y f k
  | 0, _ => rfl
  | i + 1, k => by
    show zu (zu (fIter fKeep Y i) 5 i _) 8 i _ f k = _
    rw [zu_f hf.2, zu_f hf.1]
    exact fKeep_n hf i k
theorem mSits_30 (Y : zM) (k : Nat) : mSits Y k 30 0 = Y 30 0 := by
  unfold mSits mQuiet
  split
  · rw [zu_f (by decide), zu_f (by decide), zu_f (by decide)]
  · split
    · split
      · rw [zu_f (by decide), zu_f (by decide), zu_f (by decide), zu_f (by decide)]
      · rw [zu_f (by decide), zu_f (by decide), zu_f (by decide), zu_f (by decide)]
    · split
      · split
        · rw [zu_f (by decide), zu_f (by decide), zu_f (by decide), zu_f (by decide), zu_f (by decide)]
        · rw [zu_f (by decide), zu_f (by decide), zu_f (by decide), zu_f (by decide), zu_f (by decide)]
      · rw [zu_f (by decide), zu_f (by decide)]
theorem mSi_30 {Y : zM} : ∀ {i : Nat}, fIter mSits Y i 30 0 = Y 30 0
  | 0 => rfl
  | i + 1 => (mSits_30 (fIter mSits Y i) i).trans mSi_30
/-- a tick of the model is the class's -/
theorem mTick_eq {Y : zM} (hh : zHouse Y) (h : mInv (Y 23 0).toNatClampNeg (Y 24 0).toNatClampNeg 0 (fIter fKeep Y 80)) (hl : ∃ l, l < 5 ∧ Y 30 0 = nI l) : mTick Y = fT Y := by
  obtain ⟨d1, d2, d3, d4⟩ := zHouse_dim hh
  obtain ⟨e8, -⟩ := mRows_eq d3 d4 h 8 (by omega)
  rw [show min 8 (Y 23 0).toNatClampNeg = (Y 23 0).toNatClampNeg by omega] at e8
  have hl2 : ∃ l, l < 5 ∧ fIter mSits (fIter fKeep Y 80) 80 30 0 = nI l := by
    obtain ⟨l, h1, h2⟩ := hl
    refine ⟨l, h1, ?_⟩
    rw [mSi_30, fKeep_n (by decide)]
    exact h2
  unfold mTick fT fTick fTickEnd mAfter
  rw [mHear_eq hl2, show fIter mSits (fIter fKeep Y 80) 80 = fIter mSits (fIter fKeep Y 80) (8 * 10) from rfl, e8]
