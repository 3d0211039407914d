/-- the model's numbers and the class's are the same -/
theorem mEmp_take (Y : zM) (k : Nat) : mEmp Y k = fTake Y k 46 := by
  funext f j
  rw [fTake_at]
  unfold mEmp mRest
  by_cases q : j = k
  · subst q
    by_cases h0 : f = 0
    · subst h0; simp [zu]
    · by_cases h2 : f = 2
      · subst h2; simp [zu]
      · by_cases h1 : f = 1
        · subst h1; simp [zu]
        · by_cases h3 : f = 3
          · subst h3; simp [zu]
          · by_cases h4 : f = 4
            · subst h4; simp [zu]
            · by_cases h6 : f = 6
              · subst h6; simp [zu]
              · by_cases h7 : f = 7
                · subst h7; simp [zu]
                · simp [zu, h0, h1, h2, h3, h4, h6, h7]
  · simp [zu, q]
theorem fTake_who (Y : zM) (k : Nat) (c d : Int32) : zu (fTake Y k c) 0 k d = fTake Y k d := by
  funext f j
  rw [fTake_at]
  by_cases q : f = 0 ∧ j = k
  · obtain ⟨rfl, rfl⟩ := q
    simp [zu]
  · unfold zu
    rw [if_neg q, fTake_at]
    by_cases p : j = k
    · have h0 : ¬ f = 0 := fun z => q ⟨z, p⟩
      simp [p, h0]
    · simp [p]
theorem fIter_c {g g' : zM → Nat → zM} (h : ∀ Z k, g Z k = g' Z k) (Z : zM) : ∀ i, fIter g Z i = fIter g' Z i
  | 0 => rfl
  | i + 1 => by
    show g (fIter g Z i) i = g' (fIter g' Z i) i
    rw [fIter_c h Z i, h]
theorem mRest_rest (Y : zM) (k : Nat) : mRest Y k = fRest Y k := by
  unfold mRest fRest
  rw [zu_cm (Z := zu Y 3 k 0) (F := 4) (F' := 6) (by decide)]
/-- what 'rests' does to all places -/
theorem fRest_at1 (W : zM) (i f j : Nat) : fRest W i f j = if j = i ∧ (f = 3 ∨ f = 6 ∨ f = 4 ∨ f = 7) then 0 else W f j := by
  unfold fRest
  by_cases q : j = i
  · subst q
    by_cases h3 : f = 3
    · subst h3; simp [zu]
    · by_cases h6 : f = 6
      · subst h6; simp [zu]
      · by_cases h4 : f = 4
        · subst h4; simp [zu]
        · by_cases h7 : f = 7
          · subst h7; simp [zu]
          · simp [zu, h3, h4, h6, h7]
  · simp [zu, q]
theorem fRest_at (Z : zM) : ∀ i f j, fIter fRest Z i f j = if j < i ∧ (f = 3 ∨ f = 6 ∨ f = 4 ∨ f = 7) then 0 else Z f j
  | 0, f, j => by simp [fIter]
  | i + 1, f, j => by
    show fRest (fIter fRest Z i) i f j = _
    rw [fRest_at1, fRest_at Z i f j]
    by_cases hf : f = 3 ∨ f = 6 ∨ f = 4 ∨ f = 7
    · by_cases q : j = i
      · rw [if_pos ⟨q, hf⟩, if_pos ⟨by omega, hf⟩]
      · rw [if_neg (fun z => q z.1)]
        by_cases q2 : j < i
        · rw [if_pos ⟨q2, hf⟩, if_pos ⟨by omega, hf⟩]
        · rw [if_neg (fun z => q2 z.1), if_neg (fun z => by have := z.1; omega)]
    · rw [if_neg (fun z => hf z.2), if_neg (fun z => hf z.2), if_neg (fun z => hf z.2)]
theorem fC0_at (Z : zM) : ∀ i f j, fIter fC0 Z i f j = if j < i ∧ f = 18 then 0 else Z f j
  | 0, f, j => by simp [fIter]
  | i + 1, f, j => by
    show zu (fIter fC0 Z i) 18 i 0 f j = _
    unfold zu
    rw [fC0_at Z i f j]
    by_cases hf : f = 18
    · by_cases q : j = i
      · rw [if_pos ⟨hf, q⟩, if_pos ⟨by omega, hf⟩]
      · rw [if_neg (fun z => q z.2)]
        by_cases q2 : j < i
        · rw [if_pos ⟨q2, hf⟩, if_pos ⟨by omega, hf⟩]
        · rw [if_neg (fun z => q2 z.1), if_neg (fun z => by have := z.1; omega)]
    · rw [if_neg (fun z => hf z.1), if_neg (fun z => hf z.2), if_neg (fun z => hf z.2)]
theorem fBegin_at (Z : zM) (f j : Nat) : fBegin Z f j = if j = 0 ∧ (f = 27 ∨ f = 29 ∨ f = 30 ∨ f = 31 ∨ f = 32 ∨ f = 33) then 0 else Z f j := by
  unfold fBegin
  by_cases q : j = 0
  · subst q
    by_cases h1 : f = 27
    · subst h1; simp [zu]
    · by_cases h2 : f = 29
      · subst h2; simp [zu]
      · by_cases h3 : f = 30
        · subst h3; simp [zu]
        · by_cases h4 : f = 31
          · subst h4; simp [zu]
          · by_cases h5 : f = 32
            · subst h5; simp [zu]
            · by_cases h6 : f = 33
              · subst h6; simp [zu]
              · simp [zu, h1, h2, h3, h4, h5, h6]
  · simp [zu, q]
theorem mBegin_eq (Y : zM) : zu (zu (zu (zu (zu (zu Y 29 0 0) 30 0 0) 31 0 0) 32 0 0) 33 0 0) 27 0 0 = fBegin Y := by
  unfold fBegin
  rw [zu_cm (Z := zu (zu (zu (zu Y 29 0 0) 30 0 0) 31 0 0) 32 0 0) (F := 33) (F' := 27) (by decide), zu_cm (Z := zu (zu (zu Y 29 0 0) 30 0 0) 31 0 0) (F := 32) (F' := 27) (by decide), zu_cm (Z := zu (zu Y 29 0 0) 30 0 0) (F := 31) (F' := 27) (by decide), zu_cm (Z := zu Y 29 0 0) (F := 30) (F' := 27) (by decide), zu_cm (Z := Y) (F := 29) (F' := 27) (by decide)]
theorem mBeg_eq (Y : zM) : mBeg Y = fRise (fIter fRest Y 80) := by
  unfold mBeg fRise
  rw [mBegin_eq, fIter_c mRest_rest, show zN (fIter fRest Y 80) 1 = zN Y 1 by unfold zN; rw [fRest_n (by decide)]]
  rw [show fIter fRest (fBegin Y) 80 = fBegin (fIter fRest Y 80) from ?_]
  funext f j
  rw [fRest_at, fBegin_at, fBegin_at, fRest_at]
  by_cases q : j = 0 ∧ (f = 27 ∨ f = 29 ∨ f = 30 ∨ f = 31 ∨ f = 32 ∨ f = 33)
  · by_cases p : j < 80 ∧ (f = 3 ∨ f = 6 ∨ f = 4 ∨ f = 7)
    · rw [if_pos p, if_pos q]
    · rw [if_neg p, if_pos q, if_pos q]
  · by_cases p : j < 80 ∧ (f = 3 ∨ f = 6 ∨ f = 4 ∨ f = 7)
    · rw [if_pos p, if_neg q, if_pos p]
    · rw [if_neg p, if_neg q, if_neg q, if_neg p]
theorem mEnd_eq (Y : zM) (n : Nat) (hn : n = zN Y 1) : mBeg (fIter fBill Y n) = fEnd Y := by
  subst hn
  rw [mBeg_eq]
  rfl
/-- all places are emptied -/
theorem fBuild_at (Z : zM) (sb : Nat → Option Nat) : ∀ i f j, (fBuild Z sb i).1 f j = if j < i then (if f = 0 then 46 else if f = 2 then -1 else if f = 1 ∨ f = 3 ∨ f = 4 ∨ f = 6 ∨ f = 7 then 0 else Z f j) else Z f j
  | 0, f, j => by simp [fBuild]
  | i + 1, f, j => by
    show fTake (fBuild Z sb i).1 i 46 f j = _
    rw [fTake_at, fBuild_at Z sb i f j]
    by_cases q : j = i
    · subst q
      have e : j < j + 1 := by omega
      simp
    · have e : (j < i + 1 ↔ j < i) := by omega
      simp [q, e]
theorem mEmp_at (Z : zM) : ∀ i f j, fIter mEmp Z i f j = if j < i then (if f = 0 then 46 else if f = 2 then -1 else if f = 1 ∨ f = 3 ∨ f = 4 ∨ f = 6 ∨ f = 7 then 0 else Z f j) else Z f j
  | 0, f, j => by simp [fIter]
  | i + 1, f, j => by
    show mEmp (fIter mEmp Z i) i f j = _
    rw [mEmp_take, fTake_at, mEmp_at Z i f j]
    by_cases q : j = i
    · subst q
      have e : j < j + 1 := by omega
      simp
    · have e : (j < i + 1 ↔ j < i) := by omega
      simp [q, e]
theorem mNew_eq (Y : zM) (sb : Nat → Option Nat) (x y : Int32) : mBeg (fIter mEmp (zu (zu Y 23 0 x) 24 0 y) 80) = fRise (fNew Y sb x y) := by
  rw [mBeg_eq]
  congr 1
  funext f j
  rw [fRest_at, mEmp_at]
  unfold fNew
  by_cases h24 : f = 24 ∧ j = 0
  · obtain ⟨rfl, rfl⟩ := h24
    simp [zu]
  · by_cases h23 : f = 23 ∧ j = 0
    · obtain ⟨rfl, rfl⟩ := h23
      simp [zu]
    · have e : zu (zu Y 23 0 x) 24 0 y f j = Y f j := by unfold zu; rw [if_neg h24, if_neg h23]
      have e2 : zu (zu (fBuild Y sb 80).1 23 0 x) 24 0 y f j = (fBuild Y sb 80).1 f j := by unfold zu; rw [if_neg h24, if_neg h23]
      rw [e, e2, fBuild_at]
      by_cases hj : j < 80
      · by_cases hf : f = 3 ∨ f = 6 ∨ f = 4 ∨ f = 7
        · rw [if_pos ⟨hj, hf⟩, if_pos hj, if_neg (by omega), if_neg (by omega), if_pos (by omega)]
        · rw [if_neg (fun q => hf q.2)]
      · rw [if_neg (fun q => hj q.1)]
/-- the hand that moves leaves its seat -/
theorem mOut_eq {Y : zM} {sb : Nat → Option Nat} (hsb : zSb Y sb) {j : Nat} (hj : j < zN Y 0) (hj2 : j < 2 ^ 31) : fIter (mOut (nI j)) Y 80 = fMv1 Y sb j := by
  have hz : ∀ k, k < 80 → (Y 2 k = nI j ↔ sb j = some k) := fun k hk => ⟨fun q => hsb.2 k hk j (by rw [q]; exact zh_nI hj2), fun q => (zh_some (hsb.1 j k hj q).2).1⟩
  unfold fMv1
  cases hs : sb j with
  | none =>
    have h : ∀ i, i ≤ 80 → fIter (mOut (nI j)) Y i = Y := by
      intro i
      induction i with
      | zero => intro _; rfl
      | succ i ih =>
        intro hi
        show mOut (nI j) (fIter (mOut (nI j)) Y i) i = Y
        rw [ih (by omega)]
        unfold mOut
        rw [if_neg (fun q => by have := (hz i (by omega)).mp q; rw [hs] at this; cases this)]
    exact h 80 (by omega)
  | some k0 =>
    have hk0 := (hsb.1 j k0 hj hs).1
    have h : ∀ i, i ≤ 80 → fIter (mOut (nI j)) Y i = if k0 < i then fTake Y k0 46 else Y := by
      intro i
      induction i with
      | zero => intro _; rw [if_neg (by omega)]; rfl
      | succ i ih =>
        intro hi
        show mOut (nI j) (fIter (mOut (nI j)) Y i) i = _
        rw [ih (by omega)]
        unfold mOut
        by_cases q : k0 < i
        · rw [if_pos q, if_pos (show k0 < i + 1 by omega)]
          have hne : ¬ i = k0 := by omega
          rw [if_neg]
          rw [fTake_at, if_neg hne]
          exact fun z => hne (by have := (hz i (by omega)).mp z; rw [hs] at this; exact (Option.some.inj this).symm)
        · rw [if_neg q]
          by_cases e : i = k0
          · subst e
            rw [if_pos ((hz i (by omega)).mpr hs), if_pos (by omega), mEmp_take]
          · rw [if_neg (fun z => e (by have := (hz i (by omega)).mp z; rw [hs] at this; exact (Option.some.inj this).symm)), if_neg (by omega)]
    rw [h 80 (by omega), if_pos hk0]
theorem mMove_eq {Y : zM} {sb : Nat → Option Nat} (hsb : zSb Y sb) {j : Nat} (hj : j < zN Y 0) (hj2 : j < 2 ^ 31) (k : Nat) : zu (zu (mEmp (fIter (mOut (nI j)) Y 80) k) 0 k 104) 2 k (nI j) = fMove Y sb j k := by
  rw [mOut_eq hsb hj hj2, mEmp_take, fTake_who]
  rfl
theorem mAny_eq {Y : zM} {sb : Nat → Option Nat} (hsb : zSb Y sb) {j : Nat} (hj : j < zN Y 0) (hj2 : j < 2 ^ 31) : mAny Y (nI j) 80 = (sb j).isSome := by
  have hz : ∀ k, k < 80 → (Y 2 k = nI j ↔ sb j = some k) := fun k hk => ⟨fun q => hsb.2 k hk j (by rw [q]; exact zh_nI hj2), fun q => (zh_some (hsb.1 j k hj q).2).1⟩
  have h : ∀ i, i ≤ 80 → (mAny Y (nI j) i = true ↔ ∃ k, k < i ∧ sb j = some k) := by
    intro i
    induction i with
    | zero => intro _; exact ⟨fun q => (by cases q), fun ⟨k, h, _⟩ => absurd h (by omega)⟩
    | succ i ih =>
      intro hi
      show (mAny Y (nI j) i || decide (Y 2 i = nI j)) = true ↔ _
      rw [Bool.or_eq_true, ih (by omega), decide_eq_true_iff, hz i (by omega)]
      constructor
      · rintro (⟨k, h1, h2⟩ | h)
        · exact ⟨k, by omega, h2⟩
        · exact ⟨i, by omega, h⟩
      · rintro ⟨k, h1, h2⟩
        by_cases e : k = i
        · subst e; exact Or.inr h2
        · exact Or.inl ⟨k, by omega, h2⟩
  have h80 := h 80 (by omega)
  cases hs : sb j with
  | none =>
    cases hm : mAny Y (nI j) 80 with
    | false => rfl
    | true => obtain ⟨k, _, h2⟩ := h80.mp hm; rw [hs] at h2; cases h2
  | some k0 => exact h80.mpr ⟨k0, (hsb.1 j k0 hj hs).1, hs⟩
theorem mAddH_eq {Y : zM} (hc : zCnt Y 0) (h14 : Y 14 (zN Y 0) = 0) (c s q p : Int32) : zu (zu (zu (zu (zu Y 9 (zN Y 0) c) 11 (zN Y 0) s) 12 (zN Y 0) q) 13 (zN Y 0) p) 25 0 (Y 25 0 + 1) = zAH Y (zN Y 0) c s q p := by
  have e : Y 25 0 + 1 = nI (zN Y 0 + 1) := by
    have h := hc.1
    rw [show Y 25 0 = nI (zN Y 0) from h, nI_1]
  unfold zAH
  rw [e]
  congr 1
  exact (zu_id (by simp [zu, h14])).symm
theorem mAddS_eq {Y : zM} (hc : zCnt Y 1) (h17 : Y 17 (zN Y 1) = 0) (h18 : Y 18 (zN Y 1) = 0) (a b : Int32) : zu (zu (zu Y 15 (zN Y 1) a) 16 (zN Y 1) b) 26 0 (Y 26 0 + 1) = zAS Y (zN Y 1) a b := by
  have e : Y 26 0 + 1 = nI (zN Y 1 + 1) := by
    have h := hc.1
    rw [show Y 26 0 = nI (zN Y 1) from h, nI_1]
  unfold zAS
  rw [e, zu_id (Z := zu (zu Y 15 (zN Y 1) a) 16 (zN Y 1) b) (F := 18) (by simp [zu, h18]), zu_id (Z := zu (zu Y 15 (zN Y 1) a) 16 (zN Y 1) b) (F := 17) (by simp [zu, h17])]
theorem mAddC_eq {Y : zM} (hc : zCnt Y 2) (s c t f n : Int32) : zu (zu (zu (zu (zu (zu Y 19 (zN Y 2) s) 10 (zN Y 2) c) 20 (zN Y 2) t) 21 (zN Y 2) f) 22 (zN Y 2) n) 27 0 (Y 27 0 + 1) = zAC Y (zN Y 2) s c t f n := by
  have e : Y 27 0 + 1 = nI (zN Y 2 + 1) := by
    have h := hc.1
    rw [show Y 27 0 = nI (zN Y 2) from h, nI_1]
  unfold zAC
  rw [e]
