/-! ===== figures are numbers ===== -/
theorem fSum_cnt {f : Nat → Int32} : ∀ n, (∀ k, k < n → f k = 0 ∨ f k = 1) → ∃ m, m ≤ n ∧ fSum f n = nI m
  | 0, _ => ⟨0, Nat.le_refl 0, rfl⟩
  | n + 1, h => by
    obtain ⟨m, h1, h2⟩ := fSum_cnt n (fun k hk => h k (by omega))
    rcases h n (by omega) with e | e
    · exact ⟨m, by omega, by rw [fSum_z e, h2]⟩
    · exact ⟨m + 1, by omega, by rw [fSum_1 e, h2, nI_1]⟩
theorem fSum_9 {f : Nat → Int32} : ∀ n, (∀ k, k < n → ∃ v, v < 10 ∧ f k = nI v) → ∃ m, m ≤ 9 * n ∧ fSum f n = nI m
  | 0, _ => ⟨0, Nat.le_refl 0, rfl⟩
  | n + 1, h => by
    obtain ⟨m, h1, h2⟩ := fSum_9 n (fun k hk => h k (by omega))
    obtain ⟨v, h3, h4⟩ := h n (by omega)
    refine ⟨m + v, by omega, ?_⟩
    show fSum f n + f n = _
    rw [h2, h4, nI_add]
theorem fJs_nI (Z : zM) : ∃ a b, a ≤ 80 ∧ b ≤ 80 ∧ fJoined Z = nI a ∧ fSeated Z 112 = nI b := by
  obtain ⟨a, a1, a2⟩ := fSum_cnt (f := fun k => if Z 6 k = 0 then 0 else 1) 80 (fun k _ => by (try dsimp only); split <;> simp)
  obtain ⟨b, b1, b2⟩ := fSum_cnt (f := fun k => if Z 0 k = 112 then 1 else 0) 80 (fun k _ => by (try dsimp only); split <;> simp)
  exact ⟨a, b, a1, b1, a2, b2⟩
theorem fJs_ok (Z : zM) (h : ¬ fSeated Z 112 = 0) : vf_n32 (fJs Z) ∧ vf_n64 (FP.f2d (fJs Z)) := by
  obtain ⟨a, b, a1, b1, e1, e2⟩ := fJs_nI Z
  unfold fJs vf_n32 vf_n64
  rw [e1, e2]
  rw [e2] at h
  refine fp_32 b (by omega) ?_ a (by omega)
  rcases Nat.eq_zero_or_pos b with z | z
  · subst z; exact absurd rfl h
  · exact z
theorem kJoin_0 {Z : zM} (h : kJoin Z = 0) : ¬ fSeated Z 112 = 0 := by
  unfold kJoin at h
  intro q
  rw [if_pos q] at h
  exact absurd h (by decide)
set_option maxRecDepth 100000 in
theorem fp_cmp : ∀ b, b < 81 → 0 < b → ∀ k, k < 81 → FP.dcmp (FP.f2d (FP.fdiv (FP.i2f (nI k)) (FP.i2f (nI b)))) (FP.f2d (FP.fdiv (FP.i2f (nI k)) (FP.i2f (nI b)))) = some .eq := by decide +kernel
theorem fJs_cmp (Z : zM) (h : ¬ fSeated Z 112 = 0) : FP.dcmp (FP.f2d (fJs Z)) (FP.f2d (fJs Z)) = some .eq := by
  obtain ⟨a, b, a1, b1, e1, e2⟩ := fJs_nI Z
  unfold fJs
  rw [e1, e2]
  rw [e2] at h
  refine fp_cmp b (by omega) ?_ a (by omega)
  rcases Nat.eq_zero_or_pos b with z | z
  · subst z; exact absurd rfl h
  · exact z
theorem fp_64 : ∀ b, b < 81 → 0 < b → ∀ k, k < 721 → vf_n64 (FP.ddiv (FP.i2d (nI k)) (FP.i2d (nI b)))
  | 0, _, h => absurd h (Nat.lt_irrefl 0)
  | 1, _, _ => fp_64_1
  | 2, _, _ => fp_64_2
  | 3, _, _ => fp_64_3
  | 4, _, _ => fp_64_4
  | 5, _, _ => fp_64_5
  | 6, _, _ => fp_64_6
  | 7, _, _ => fp_64_7
  | 8, _, _ => fp_64_8
  | 9, _, _ => fp_64_9
  | 10, _, _ => fp_64_10
  | 11, _, _ => fp_64_11
  | 12, _, _ => fp_64_12
  | 13, _, _ => fp_64_13
  | 14, _, _ => fp_64_14
  | 15, _, _ => fp_64_15
  | 16, _, _ => fp_64_16
  | 17, _, _ => fp_64_17
  | 18, _, _ => fp_64_18
  | 19, _, _ => fp_64_19
  | 20, _, _ => fp_64_20
  | 21, _, _ => fp_64_21
  | 22, _, _ => fp_64_22
  | 23, _, _ => fp_64_23
  | 24, _, _ => fp_64_24
  | 25, _, _ => fp_64_25
  | 26, _, _ => fp_64_26
  | 27, _, _ => fp_64_27
  | 28, _, _ => fp_64_28
  | 29, _, _ => fp_64_29
  | 30, _, _ => fp_64_30
  | 31, _, _ => fp_64_31
  | 32, _, _ => fp_64_32
  | 33, _, _ => fp_64_33
  | 34, _, _ => fp_64_34
  | 35, _, _ => fp_64_35
  | 36, _, _ => fp_64_36
  | 37, _, _ => fp_64_37
  | 38, _, _ => fp_64_38
  | 39, _, _ => fp_64_39
  | 40, _, _ => fp_64_40
  | 41, _, _ => fp_64_41
  | 42, _, _ => fp_64_42
  | 43, _, _ => fp_64_43
  | 44, _, _ => fp_64_44
  | 45, _, _ => fp_64_45
  | 46, _, _ => fp_64_46
  | 47, _, _ => fp_64_47
  | 48, _, _ => fp_64_48
  | 49, _, _ => fp_64_49
  | 50, _, _ => fp_64_50
  | 51, _, _ => fp_64_51
  | 52, _, _ => fp_64_52
  | 53, _, _ => fp_64_53
  | 54, _, _ => fp_64_54
  | 55, _, _ => fp_64_55
  | 56, _, _ => fp_64_56
  | 57, _, _ => fp_64_57
  | 58, _, _ => fp_64_58
  | 59, _, _ => fp_64_59
  | 60, _, _ => fp_64_60
  | 61, _, _ => fp_64_61
  | 62, _, _ => fp_64_62
  | 63, _, _ => fp_64_63
  | 64, _, _ => fp_64_64
  | 65, _, _ => fp_64_65
  | 66, _, _ => fp_64_66
  | 67, _, _ => fp_64_67
  | 68, _, _ => fp_64_68
  | 69, _, _ => fp_64_69
  | 70, _, _ => fp_64_70
  | 71, _, _ => fp_64_71
  | 72, _, _ => fp_64_72
  | 73, _, _ => fp_64_73
  | 74, _, _ => fp_64_74
  | 75, _, _ => fp_64_75
  | 76, _, _ => fp_64_76
  | 77, _, _ => fp_64_77
  | 78, _, _ => fp_64_78
  | 79, _, _ => fp_64_79
  | 80, _, _ => fp_64_80
  | b + 81, h, _ => absurd h (by omega)
theorem jJ.sum {n : Nat} {Z : zM} {sb : Nat → Option Nat} {cp : Nat → Nat} (h : jJ n Z sb cp) : ∃ m, m ≤ 720 ∧ fSum (Z 3) 80 = nI m := fSum_9 80 (fun k hk => (h.2.1.1.1 k hk).2.2.2.2.2)
theorem jJ.dim {n : Nat} {Z : zM} {sb : Nat → Option Nat} {cp : Nat → Nat} (h : jJ n Z sb cp) : ∃ a b, a ≤ 8 ∧ b ≤ 10 ∧ Z 23 0 = nI a ∧ Z 24 0 = nI b ∧ Z 23 0 * Z 24 0 = nI (a * b) ∧ (a = 0 ↔ b = 0) := by
  obtain ⟨⟨a, b, h1, h2, h3, h4⟩, h5⟩ := h.1.1
  refine ⟨a, b, h3, h4, h1, h2, by rw [h1, h2, nI_mul], ?_⟩
  rw [h1, h2] at h5
  have ea : nI a = 0 ↔ a = 0 := nI_eq (b := 0) (by omega) (by omega)
  have eb : nI b = 0 ↔ b = 0 := nI_eq (b := 0) (by omega) (by omega)
  rw [ea, eb] at h5
  exact h5
theorem jJ.hz {n : Nat} {Z : zM} {sb : Nat → Option Nat} {cp : Nat → Nat} (h : jJ n Z sb cp) : Z 23 0 * Z 24 0 = 0 ↔ Z 23 0 = 0 := by
  obtain ⟨a, b, h3, h4, h1, h2, h5, h6⟩ := h.dim
  have hab : a * b ≤ 80 := Nat.mul_le_mul h3 h4
  rw [h5, h1]
  have ea : nI a = 0 ↔ a = 0 := nI_eq (b := 0) (by omega) (by omega)
  have eb : nI (a * b) = 0 ↔ a * b = 0 := nI_eq (b := 0) (by omega) (by omega)
  rw [ea, eb, Nat.mul_eq_zero]
  exact ⟨fun z => z.elim id (fun q => h6.mpr q), Or.inl⟩
theorem jJ.mean {n : Nat} {Z : zM} {sb : Nat → Option Nat} {cp : Nat → Nat} (h : jJ n Z sb cp) (hne : ¬ Z 23 0 * Z 24 0 = 0) : vf_n64 (fMn Z) := by
  obtain ⟨m, m1, m2⟩ := h.sum
  obtain ⟨a, b, h3, h4, h1, h2, h5, h6⟩ := h.dim
  have hab : a * b ≤ 80 := Nat.mul_le_mul h3 h4
  unfold fMn
  rw [m2, h5]
  rw [h5] at hne
  refine fp_64 (a * b) (by omega) ?_ m (by omega)
  rcases Nat.eq_zero_or_pos (a * b) with z | z
  · rw [z] at hne; exact absurd rfl hne
  · exact z
/-- what 'isSound' counts on -/
theorem jJ.n09 {n : Nat} {Z : zM} {sb : Nat → Option Nat} {cp : Nat → Nat} (h : jJ n Z sb cp) : ∀ k, k < 80 → ¬ Z 3 k < 0 ∧ ¬ 9 < Z 3 k := fun k hk => by
  obtain ⟨v, h1, h2⟩ := (h.2.1.1.1 k hk).2.2.2.2.2
  rw [h2]
  exact ⟨nI_pos (by omega), nI_nlt (a := 9) (by omega) (by omega)⟩
theorem jJ.pt {n : Nat} {Z : zM} {sb : Nat → Option Nat} {cp : Nat → Nat} (h : jJ n Z sb cp) : ¬ fPt Z (zN Z 0) = 0 := by
  have h12 := (h.1.2.1 0 (by decide)).1.2.2.2
  obtain ⟨p, p1, p2, p3⟩ := fPt_pos (Z := Z) (fun j hj => (h.1.2.2.2.2.1 j hj).2) (zN Z 0) (Nat.le_refl _) h12
  rw [p3]
  exact nI_ne0 (by omega) (by omega)
