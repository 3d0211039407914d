/-! ===== the law's body, from its entry ===== -/
theorem fs_X8 : ∀ j, j < 37 → defaultValue (tyX8 j) = vp_V (mObj (fun _ => 0) 0) j := by decide +kernel
theorem mObj_00 (b b' : Nat → Nat) : mObj b 0 = mObj b' 0 := mObj_c (fun k h => absurd h (Nat.not_lt_zero k))
set_option maxRecDepth 100000 in
set_option maxHeartbeats 4000000 in
theorem law_body {G : zG} {l : Launch} {et : List ExceptionTableEntry} {ini : Prop} {X : zXT} {b L : Nat} {xs : Nat → Int32} (O : zLaw G l et ini X) (hl : l.stackTraces = false) (S : zSld G X b L xs) (SL : zSln G X b L) (hL : L ≤ 3072) (ad : Nat → Nat) : zV G X 9 0 0 0 [(0, .ref b)] [] (fun _ => none) ad := by
  refine z_new O (w' := fun _ => wU (fun _ => none) 0 (.inr (10, [.null, .null, .null, .null, .int 0, .int 0]))) 0 zu_RX7 tyX7 tyX7_ok zm11_14 zm11_15 zm4_21 (ci := 10) rfl (fun j hj => by rcases j with _ | _ | _ | _ | _ | _ | j <;> first | rfl | omega) (Nat.le_of_ble_eq_true rfl) (Nat.le_of_ble_eq_true rfl) dL_law_0 rfl (fun _ => wU_eq) (fun q => ?_)
  obtain ⟨b1, hb1⟩ : ∃ z, z = va_up ad 0 q := ⟨_, rfl⟩
  rw [← hb1]
  refine z_dup O dL_law_3 rfl ?_
  refine z_callI O (c_X7_init hl wU_s (fun j h1 h2 => wU_n h1)) zIA zm11_20 zm11_21 zm4_21 zm4_7 rfl ⟨by decide +kernel, by decide +kernel, (show _ = some 0 by decide +kernel)⟩ ⟨Nat.le_of_ble_eq_true rfl, Nat.le_of_ble_eq_true rfl⟩ ⟨Nat.le_of_ble_eq_true rfl, Nat.le_of_ble_eq_true rfl⟩ dL_law_4 rfl (Nat.le_of_ble_eq_true rfl) (fun r w1 ad2 hp => ?_)
  obtain ⟨b2, rfl, rfl, rfl, kb2⟩ := hp
  obtain ⟨V1, hV1⟩ : ∃ z, z = zC0 G.2.2.2.1 b2 (wU (fun _ => none) 0 (.inr (10, [.null, .null, .null, .null, .int 0, .int 0]))) := ⟨_, rfl⟩
  rw [← hV1]
  have v300 : ∀ j, 300 ≤ j → V1 j = none := fun j hj => by
    rw [hV1]
    unfold zC0
    rw [if_neg (by omega), wU_n (by omega)]
  have vlo : ∀ j, j < 300 → V1 j = zent zZ0 (fun _ => none) (fun _ => 0) (fun _ => 0) G.2.2.2.1 mY0 0 (fun _ => 0) (fun _ => 0) b2 j := fun j hj => by
    rw [hV1]
    unfold zC0 zent
    rw [if_pos hj, if_pos hj]
  refine z_astore_n O dL_law_7 (by decide) ?_
  refine z_new O (w' := fun _ => wU V1 300 (.inr (11, mObj (fun _ => 0) 0))) 300 zu_RX8 tyX8 tyX8_ok zm11_16 zm11_17 zm7_16 (ci := 11) rfl fs_X8 (Nat.le_of_ble_eq_true rfl) (Nat.le_of_ble_eq_true rfl) dL_law_8 (v300 300 (by decide)) (fun _ => wU_eq) (fun q3 => ?_)
  obtain ⟨b3, hb3⟩ : ∃ z, z = va_up b2 300 q3 := ⟨_, rfl⟩
  rw [← hb3]
  have kb3 : ∀ j, j ≠ 300 → b3 j = b2 j := fun j h => by rw [hb3]; exact zup_n h
  refine z_dup O dL_law_11 rfl ?_
  refine z_callI O (c_X8_init (Z := zZ0) (sb := fun _ => none) (mcn := fun _ => 0) (cp := fun _ => 0) (o := fun _ => 0) (od := fun _ => 0) hl (wU_s.trans (by rw [mObj_00 (fun _ => 0) b3])) (fun j h1 h2 => (wU_n (by omega)).trans (v300 j (by omega))) (fun b9 h9 j x hj hx => ?_)) zIA zm11_22 zm11_23 zm7_16 zm7_54 rfl ⟨by decide +kernel, by decide +kernel, (show _ = some 0 by decide +kernel)⟩ ⟨Nat.le_of_ble_eq_true rfl, Nat.le_of_ble_eq_true rfl⟩ ⟨Nat.le_of_ble_eq_true rfl, Nat.le_of_ble_eq_true rfl⟩ dL_law_12 rfl (Nat.le_of_ble_eq_true rfl) (fun r w2 ad4 hp => ?_)
  · rw [wU_n (by omega), vlo j hj]
    exact zlow_al G (fun f k hk => zZ0_at hk) (fun f k hk => zZ0_at hk) (fun i hi => by rw [h9 i (by omega), kb3 i (by omega)]) hj hx
  obtain ⟨b4, rfl, rfl, rfl, kb4⟩ := hp
  obtain ⟨V2, hV2⟩ : ∃ z, z = zcut (zent zZ0 (fun _ => none) (fun _ => 0) (fun _ => 0) G.2.2.2.1 (fIter mEmp mY0 80) 0 (fun _ => 0) (fun _ => 0) b4) := ⟨_, rfl⟩
  rw [← hV2]
  have w324 : ∀ j, 324 ≤ j → V2 j = none := fun j hj => by
    rw [hV2]
    unfold zcut
    rw [if_neg (by omega)]
  have wlo : ∀ j, j < 324 → V2 j = zent zZ0 (fun _ => none) (fun _ => 0) (fun _ => 0) G.2.2.2.1 jZ0 0 (fun _ => 0) (fun _ => 0) b4 j := fun j hj => by
    rw [hV2]
    unfold zcut
    rw [if_pos hj]
    rfl
  refine z_astore_n O dL_law_15 (by decide) ?_
  refine z_iconst O dL_law_16 (v := 1) (by decide) ?_
  refine z_newa O (atype := .long) (w' := fun _ => wU V2 340 (.inl (3, (1, .inr (.inl (fun _ => 0)))))) 340 3 (by decide) zm11_18 rfl (N := 1) (a0 := (1, .inr (.inl (fun _ => 0)))) (fun _ => rfl) (by decide) (by decide) (by decide) (Nat.le_of_ble_eq_true rfl) (Nat.le_of_ble_eq_true rfl) dL_law_17 (w324 340 (by decide)) (fun _ => wU_eq) (fun q5 => ?_)
  obtain ⟨b5, hb5⟩ : ∃ z, z = va_up b4 340 q5 := ⟨_, rfl⟩
  rw [← hb5]
  have kb5 : ∀ j, j ≠ 340 → b5 j = b4 j := fun j h => by rw [hb5]; exact zup_n h
  refine z_astore_n O dL_law_19 (by decide) ?_
  refine z_iconst O dL_law_20 (v := 1) (by decide) ?_
  refine z_newa O (atype := .double) (w' := fun _ => wU (wU V2 340 (.inl (3, (1, .inr (.inl (fun _ => 0)))))) 341 (.inl (4, (1, .inr (.inr (.inr (.inl (fun _ => 0)))))))) 341 4 (by decide) zm11_19 rfl (N := 1) (a0 := (1, .inr (.inr (.inr (.inl (fun _ => 0)))))) (fun _ => rfl) (by decide) (by decide) (by decide) (Nat.le_of_ble_eq_true rfl) (Nat.le_of_ble_eq_true rfl) dL_law_21 ((wU_n (by decide)).trans (w324 341 (by decide))) (fun _ => wU_eq) (fun q6 => ?_)
  obtain ⟨b6, hb6⟩ : ∃ z, z = va_up b5 341 q6 := ⟨_, rfl⟩
  rw [← hb6]
  have kb6 : ∀ j, j ≠ 341 → b6 j = b5 j := fun j h => by rw [hb6]; exact zup_n h
  refine z_astore O dL_law_23 (by decide) ?_
  refine z_iconst O dL_law_25 (v := 0) (by decide) ?_
  refine z_istore O dL_law_26 (by decide) ?_
  refine z_widen O (kc' := 117 + 9 * 0) (ks' := 1809 + 60 * 0) (Nat.le_of_ble_eq_true rfl) (Nat.le_of_ble_eq_true rfl) ?_
  have e64 : ∀ j, j ≠ 340 → j ≠ 341 → b6 j = b4 j := fun j h1 h2 => by rw [kb6 j h2, kb5 j h1]
  refine zV.world (w' := zent jZ0 (fun _ => none) (fun _ => 0) (fun _ => 0) G.2.2.2.1 jZ0 0 (fun _ => 0) (fun _ => 0) b6) (ad' := b6) ?_ (fun H hR => hR.sim (fun j x hx => ?_))
  · have e0 : b6 0 = b1 0 := by rw [e64 0 (by decide) (by decide), kb4 0 (by decide), kb3 0 (by decide), kb2 0 (Or.inr rfl) (by decide)]
    have e300 : b6 300 = b3 300 := by rw [e64 300 (by decide) (by decide), kb4 300 (by decide)]
    have e340 : b6 340 = b5 340 := kb6 340 (by decide)
    exact zV.loc (law_loop O hl S SL hL (by decide) (by decide) L 0 jZ0 (fun _ => none) (fun _ => 0) (fun _ => 0) 0 (fun _ => 0) (fun _ => 0) b6 (by decide) (by omega) jJ_0) ⟨rfl, by rw [e0]; rfl, by rw [e300]; rfl, by rw [e340]; rfl, rfl, rfl, trivial⟩
  · by_cases h1 : j = 341
    · subst h1
      rw [zg_outD] at hx
      cases hx
      exact ⟨_, wU_s, zAl.rf⟩
    by_cases h0 : j = 340
    · subst h0
      rw [zg_out] at hx
      cases hx
      exact ⟨_, (wU_n (by decide)).trans wU_s, zAl.rf⟩
    rw [wU_n h1, wU_n h0]
    by_cases h3 : j < 300
    · rw [wlo j (by omega)]
      exact zlow_al G (fun f k hk => zZ0_at hk) (fun f k hk => rfl) (fun i hi => e64 i (by omega) (by omega)) h3 hx
    · by_cases h4 : j < 324
      · rw [wlo j h4]
        refine ⟨x, ?_, zAl.rf⟩
        rw [← hx]
        unfold zent
        rw [if_neg h3, if_neg h3]
        unfold zD
        by_cases h5 : j = 300
        · rw [if_pos h5, if_pos h5]
          unfold sModel
          rw [e64 301 (by decide) (by decide), e64 302 (by decide) (by decide), e64 303 (by decide) (by decide), e64 304 (by decide) (by decide), e64 305 (by decide) (by decide), e64 306 (by decide) (by decide), e64 307 (by decide) (by decide), e64 308 (by decide) (by decide), e64 309 (by decide) (by decide), e64 310 (by decide) (by decide), e64 311 (by decide) (by decide), e64 312 (by decide) (by decide), e64 313 (by decide) (by decide), e64 314 (by decide) (by decide), e64 315 (by decide) (by decide), e64 316 (by decide) (by decide), e64 317 (by decide) (by decide), e64 318 (by decide) (by decide), e64 319 (by decide) (by decide), e64 320 (by decide) (by decide), e64 321 (by decide) (by decide), e64 322 (by decide) (by decide), e64 323 (by decide) (by decide)]
        · rw [if_neg h5, if_neg h5, if_pos h4]
      · exfalso
        unfold zent at hx
        rw [if_neg h3] at hx
        unfold zD at hx
        rw [if_neg (by omega), if_neg h4, if_neg h0, if_neg h1] at hx
        cases hx
