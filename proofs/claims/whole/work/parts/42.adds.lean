set_option maxRecDepth 100000 in
set_option maxHeartbeats 4000000 in
theorem c_X2_init {G : zG} {l : Launch} (hl : l.stackTraces = false) {w : zH} {ad : Nat → Nat} {a : Nat} (hw : w a = some (.inr (5, [.int 0, .int 0, .int 0, .int 0, .int 0, .null]))) {c s q p : Int32} (hc : zChr c) : zCt G l yX2_init (zws yX2_init cX2_init 5 none) ({ frames := 1, cells := 0, slots := 0, locals := 20 }) [.ref (ad a), .int c, .int s, .int q, .int p] (w) ad (fun r w1 ad1 => none = r ∧ wU w a (.inr (5, [.int c, .int s, .int q, .int p, .int 0, .null])) = w1 ∧ ad = ad1) (zNoX) := by
  refine z_body hl (by decide +kernel) (Nat.le_of_ble_eq_true rfl) (fun X O => ?_)
  refine z_aload_n O dX2_init_0 rfl ?_
  refine z_objInit O zI zm2_41 zm0_2 zm0_3 dX2_init_1 (Nat.le_of_ble_eq_true rfl) (Nat.le_of_ble_eq_true rfl) ?_
  refine z_aload_n O dX2_init_4 rfl ?_
  refine z_iconst O dX2_init_5 (v := 0) (by decide) ?_
  refine z_put O (fk := 4) (fun x h => zI x (zu_RX2 x h)) tyX2 tyX2_ok nmX2 rfl (by decide) (zI _ zm2_42) rfl dX2_init_6 rfl rfl (hw) (Nat.le_of_ble_eq_true rfl) (wU_eq) ?_
  refine z_aload_n O dX2_init_9 rfl ?_
  refine z_null O dX2_init_10 ?_
  refine z_put O (fk := 5) (fun x h => zI x (zu_RX2 x h)) tyX2 tyX2_ok nmX2 rfl (by decide) (zI _ zm2_43) rfl dX2_init_11 rfl rfl (wU_s) (Nat.le_of_ble_eq_true rfl) (wU_eq) ?_
  refine z_aload_n O dX2_init_14 rfl ?_
  refine z_iload_n O dX2_init_15 rfl ?_
  refine z_putF O rfl (fk := 0) (fun x h => zI x (zu_RX2 x h)) tyX2 tyX2_ok nmX2 rfl (by decide) (zI _ zm1_34) rfl rfl dX2_init_16 hc.1 hc.2 (wU_s) (Nat.le_of_ble_eq_true rfl) (wU_eq) ?_
  refine z_aload_n O dX2_init_19 rfl ?_
  refine z_iload_n O dX2_init_20 rfl ?_
  refine z_putF O rfl (fk := 1) (fun x h => zI x (zu_RX2 x h)) tyX2 tyX2_ok nmX2 rfl (by decide) (zI _ zm2_44) rfl rfl dX2_init_21 rfl rfl (wU_s) (Nat.le_of_ble_eq_true rfl) (wU_eq) ?_
  refine z_aload_n O dX2_init_24 rfl ?_
  refine z_iload_n O dX2_init_25 rfl ?_
  refine z_putF O rfl (fk := 2) (fun x h => zI x (zu_RX2 x h)) tyX2 tyX2_ok nmX2 rfl (by decide) (zI _ zm2_45) rfl rfl dX2_init_26 rfl rfl (wU_s) (Nat.le_of_ble_eq_true rfl) (wU_eq) ?_
  refine z_aload_n O dX2_init_29 rfl ?_
  refine z_iload O dX2_init_30 rfl ?_
  refine z_putF O rfl (fk := 3) (fun x h => zI x (zu_RX2 x h)) tyX2 tyX2_ok nmX2 rfl (by decide) (zI _ zm2_46) rfl rfl dX2_init_32 rfl rfl (wU_s) (Nat.le_of_ble_eq_true rfl) (wU_eq) ?_
  exact z_vret O dX2_init_35 (Nat.le_of_ble_eq_true rfl) (Nat.le_of_ble_eq_true rfl) (⟨rfl, by simp only [wU_wU]; rfl, rfl⟩)

set_option maxRecDepth 100000 in
set_option maxHeartbeats 4000000 in
theorem c_X5_init {G : zG} {l : Launch} (hl : l.stackTraces = false) {w : zH} {ad : Nat → Nat} {a : Nat} (hw : w a = some (.inr (8, [.int 0, .int 0, .int 0, .int 0]))) {x y : Int32} : zCt G l yX5_init (zws yX5_init cX5_init 3 none) ({ frames := 1, cells := 0, slots := 0, locals := 20 }) [.ref (ad a), .int x, .int y] (w) ad (fun r w1 ad1 => none = r ∧ wU w a (.inr (8, [.int x, .int y, .int 0, .int 0])) = w1 ∧ ad = ad1) (zNoX) := by
  refine z_body hl (by decide +kernel) (Nat.le_of_ble_eq_true rfl) (fun X O => ?_)
  refine z_aload_n O dX5_init_0 rfl ?_
  refine z_objInit O zI zm3_8 zm0_2 zm0_3 dX5_init_1 (Nat.le_of_ble_eq_true rfl) (Nat.le_of_ble_eq_true rfl) ?_
  refine z_aload_n O dX5_init_4 rfl ?_
  refine z_iconst O dX5_init_5 (v := 0) (by decide) ?_
  refine z_put O (fk := 2) (fun x h => zI x (zu_RX5 x h)) tyX5 tyX5_ok nmX5 rfl (by decide) (zI _ zm3_9) rfl dX5_init_6 rfl rfl (hw) (Nat.le_of_ble_eq_true rfl) (wU_eq) ?_
  refine z_aload_n O dX5_init_9 rfl ?_
  refine z_iconst O dX5_init_10 (v := 0) (by decide) ?_
  refine z_put O (fk := 3) (fun x h => zI x (zu_RX5 x h)) tyX5 tyX5_ok nmX5 rfl (by decide) (zI _ zm3_10) rfl dX5_init_11 rfl rfl (wU_s) (Nat.le_of_ble_eq_true rfl) (wU_eq) ?_
  refine z_aload_n O dX5_init_14 rfl ?_
  refine z_iload_n O dX5_init_15 rfl ?_
  refine z_putF O rfl (fk := 0) (fun x h => zI x (zu_RX5 x h)) tyX5 tyX5_ok nmX5 rfl (by decide) (zI _ zm3_11) rfl rfl dX5_init_16 rfl rfl (wU_s) (Nat.le_of_ble_eq_true rfl) (wU_eq) ?_
  refine z_aload_n O dX5_init_19 rfl ?_
  refine z_iload_n O dX5_init_20 rfl ?_
  refine z_putF O rfl (fk := 1) (fun x h => zI x (zu_RX5 x h)) tyX5 tyX5_ok nmX5 rfl (by decide) (zI _ zm3_12) rfl rfl dX5_init_21 rfl rfl (wU_s) (Nat.le_of_ble_eq_true rfl) (wU_eq) ?_
  exact z_vret O dX5_init_24 (Nat.le_of_ble_eq_true rfl) (Nat.le_of_ble_eq_true rfl) (⟨rfl, by simp only [wU_wU]; rfl, rfl⟩)

set_option maxRecDepth 100000 in
set_option maxHeartbeats 4000000 in
theorem c_X0_init {G : zG} {l : Launch} (hl : l.stackTraces = false) {w : zH} {ad : Nat → Nat} {a : Nat} (hw : w a = some (.inr (3, [.null, .int 0, .int 0, .int 0, .int 0]))) {r0 : Nat} {c t f n : Int32} (hc : zChr c) : zCt G l yX0_init (zws yX0_init cX0_init 6 none) ({ frames := 1, cells := 0, slots := 0, locals := 20 }) [.ref (ad a), .ref r0, .int c, .int t, .int f, .int n] (w) ad (fun r w1 ad1 => none = r ∧ wU w a (.inr (3, [.ref r0, .int c, .int t, .int f, .int n])) = w1 ∧ ad = ad1) (zNoX) := by
  refine z_body hl (by decide +kernel) (Nat.le_of_ble_eq_true rfl) (fun X O => ?_)
  refine z_aload_n O dX0_init_0 rfl ?_
  refine z_objInit O zI zm0_1 zm0_2 zm0_3 dX0_init_1 (Nat.le_of_ble_eq_true rfl) (Nat.le_of_ble_eq_true rfl) ?_
  refine z_aload_n O dX0_init_4 rfl ?_
  refine z_aload_n O dX0_init_5 rfl ?_
  refine z_putF O rfl (fk := 0) (fun x h => zI x (zu_RX0 x h)) tyX0 tyX0_ok nmX0 rfl (by decide) (zI _ zm0_4) rfl rfl dX0_init_6 rfl rfl (hw) (Nat.le_of_ble_eq_true rfl) (wU_eq) ?_
  refine z_aload_n O dX0_init_9 rfl ?_
  refine z_iload_n O dX0_init_10 rfl ?_
  refine z_putF O rfl (fk := 1) (fun x h => zI x (zu_RX0 x h)) tyX0 tyX0_ok nmX0 rfl (by decide) (zI _ zm0_5) rfl rfl dX0_init_11 hc.1 hc.2 (wU_s) (Nat.le_of_ble_eq_true rfl) (wU_eq) ?_
  refine z_aload_n O dX0_init_14 rfl ?_
  refine z_iload_n O dX0_init_15 rfl ?_
  refine z_putF O rfl (fk := 2) (fun x h => zI x (zu_RX0 x h)) tyX0 tyX0_ok nmX0 rfl (by decide) (zI _ zm0_6) rfl rfl dX0_init_16 rfl rfl (wU_s) (Nat.le_of_ble_eq_true rfl) (wU_eq) ?_
  refine z_aload_n O dX0_init_19 rfl ?_
  refine z_iload O dX0_init_20 rfl ?_
  refine z_putF O rfl (fk := 3) (fun x h => zI x (zu_RX0 x h)) tyX0 tyX0_ok nmX0 rfl (by decide) (zI _ zm0_7) rfl rfl dX0_init_22 rfl rfl (wU_s) (Nat.le_of_ble_eq_true rfl) (wU_eq) ?_
  refine z_aload_n O dX0_init_25 rfl ?_
  refine z_iload O dX0_init_26 rfl ?_
  refine z_putF O rfl (fk := 4) (fun x h => zI x (zu_RX0 x h)) tyX0 tyX0_ok nmX0 rfl (by decide) (zI _ zm0_8) rfl rfl dX0_init_28 rfl rfl (wU_s) (Nat.le_of_ble_eq_true rfl) (wU_eq) ?_
  exact z_vret O dX0_init_31 (Nat.le_of_ble_eq_true rfl) (Nat.le_of_ble_eq_true rfl) (⟨rfl, by simp only [wU_wU]; rfl, rfl⟩)

/-- cells are called by other numbers -/
theorem zRep.re {G : zG} {w w' : zH} {ad ad' : Nat → Nat} {H : Heap} (h : zRep G w ad H) (s : Nat → Nat) (h1 : ∀ i e, w' i = some e → w (s i) = some e ∧ ad' i = ad (s i)) (h2 : ∀ i j, w' i ≠ none → w' j ≠ none → s i = s j → i = j) : zRep G w' ad' H := by
  have hs : ∀ i, w' i ≠ none → w (s i) ≠ none ∧ ad' i = ad (s i) := by
    intro i hi
    cases hx : w' i with
    | none => exact absurd hx hi
    | some f => exact ⟨fun z => Option.some_ne_none f ((h1 i f hx).1.symm.trans z), (h1 i f hx).2⟩
  refine ⟨fun i e hi => ?_, fun a b ha hb hab => ?_⟩
  · obtain ⟨a1, a2⟩ := h1 i e hi
    rw [a2]
    exact h.1 _ _ a1
  · obtain ⟨a1, a2⟩ := hs a ha
    obtain ⟨b1, b2⟩ := hs b hb
    exact h2 a b ha hb (h.2 _ _ a1 b1 (by rw [← a2, ← b2]; exact hab))
theorem zCt.re {G : zG} {l : Launch} {y : MethodName} {ws : List Cond} {rm : Room} {av : List Value} {w : zH} {ad : Nat → Nat} {PQ PQ' : Option Value → zH → (Nat → Nat) → Prop} {PX : String → zH → (Nat → Nat) → Prop} (h : zCt G l y ws rm av w ad PQ PX) (hq : ∀ r w ad, PQ r w ad → ∃ w' ad', PQ' r w' ad' ∧ ∀ H, zRep G w ad H → zRep G w' ad' H) : zCt G l y ws rm av w ad PQ' PX := by
  intro p e ha hc hk s m args below hf happ hP hK
  obtain ⟨n, o, h1, h2, h3, h4⟩ := h p e ha hc hk s m args below hf happ hP hK
  refine ⟨n, o, h1, h2, h3, ?_⟩
  rcases h4 with ⟨⟨⟨r, w9, ad9, a1, a2, a3⟩, a4⟩, a5⟩ | h5
  · obtain ⟨w8, ad8, b1, b2⟩ := hq _ _ _ a2
    exact Or.inl ⟨⟨⟨r, w8, ad8, a1, b1, b2 _ a3⟩, a4⟩, a5⟩
  · exact Or.inr h5
/-- a list of the world is given one more: the row that it has, a first one, or a longer one -/
theorem c_addL {G : zG} {l : Launch} (hl : l.stackTraces = false) {w : zH} {ad : Nat → Nat} {C : String} {T : u_T} {N ci : Nat} (hC : C ∈ zObs) (hc : vwCl[ci]? = some (C, T, N)) {i n cp e0 : Nat} {m0 : Int32} {fs : List Value} (hi : i < 3) (he0 : e0 = G.2.2.2.1)
    (hw : w (5 + i) = some (zLs m0 (.ref (if cp = 0 then e0 else ad (8 + i))) (nI n))) (hb0 : cp = 0 → w (8 + i) = none ∧ n = 0) (hb1 : cp ≠ 0 → w (8 + i) = some (zAr cp (fun k => if k < n then some (ad (200 + 20 * i + k)) else none))) (hcp : cp = 0 ∨ cp = 10 ∨ cp = 15) (hn : n ≤ cp) (hn12 : n < 12) (h350 : w 350 = none)
    (hel : ∀ k, k < n → ∃ fs, w (200 + 20 * i + k) = some (.inr (ci, fs))) (he : w (200 + 20 * i + n) = some (.inr (ci, fs))) :
    zCt G l yJx4a65c_add_9ea2d (zws yJx4a65c_add_9ea2d cJx4a65c_add_9ea2d 2 (some .boolean)) ({ frames := 6, cells := 1, slots := 15, locals := 170 }) [.ref (ad (5 + i)), .ref (ad (200 + 20 * i + n))] w ad
      (fun r w1 ad1 => ∃ c q, (c = 10 ∨ c = 15) ∧ n + 1 ≤ c ∧ some (.int 1) = r ∧ wU (wU w (8 + i) (zAr c (fun k => if k < n + 1 then some (ad (200 + 20 * i + k)) else none))) (5 + i) (zLs (m0 + 1) (.ref q) (nI (n + 1))) = w1 ∧ va_up ad (8 + i) q = ad1) zNoX := by
  have h58 : 5 + i ≠ 8 + i := by omega
  by_cases c0 : cp = 0
  · obtain ⟨b1, b2⟩ := hb0 c0
    subst b2
    rw [if_pos c0, he0] at hw
    refine (c_add_first hl hC hc (a := 5 + i) (b := 8 + i) h58 hw b1 he (by omega) (by omega)).post (fun r w1 ad1 h => ?_) (fun _ _ _ h => h)
    obtain ⟨q, rfl, rfl, rfl⟩ := h
    refine ⟨10, q, Or.inl rfl, by omega, rfl, ?_, rfl⟩
    rw [zup_s]
    funext j
    unfold wU
    by_cases j5 : j = 5 + i
    · simp [j5]; rfl
    · by_cases j8 : j = 8 + i
      · simp only [j8, if_neg (Ne.symm h58), if_true]
        congr 3
        funext k
        by_cases k0 : k = 0
        · subst k0
          have : 200 + 20 * i ≠ 8 + i := by omega
          simp [va_up, this]
        · have : ¬ k < 0 + 1 := by omega
          simp [va_up, k0]
      · simp [j5, j8]
  · rw [if_neg c0] at hw
    have hb := hb1 c0
    by_cases hlt : n < cp
    · refine (c_add_room hl hC hc (a := 5 + i) (b := 8 + i) h58 hw hb he hlt (by omega) (by omega)).post (fun r w1 ad1 h => ?_) (fun _ _ _ h => h)
      obtain ⟨rfl, rfl, rfl⟩ := h
      refine ⟨cp, ad (8 + i), by omega, by omega, rfl, ?_, ?_⟩
      · rw [← nI_1]
        funext j
        unfold wU
        by_cases j5 : j = 5 + i
        · simp [j5]
        · by_cases j8 : j = 8 + i
          · simp only [j8, if_neg (Ne.symm h58), if_true]
            congr 3
            funext k
            by_cases k0 : k = n
            · subst k0; simp [va_up]
            · by_cases k1 : k < n
              · have : k < n + 1 := by omega
                simp [va_up, k0, k1, this]
              · have : ¬ k < n + 1 := by omega
                simp [va_up, k0, k1, this]
          · simp [j5, j8]
      · funext j
        by_cases q : j = 8 + i
        · rw [q, zup_s]
        · rw [zup_n q]
    · have hn10 : n = 10 ∧ cp = 10 := by omega
      obtain ⟨rfl, rfl⟩ := hn10
      refine (c_add_ten hl hC hc (a := 5 + i) (b := 8 + i) (t := 350) (by omega) hw (by omega) hb h350 (fun k hk => ?_) he (by omega) (by omega) (by omega)).re (fun r w1 ad1 h => ?_)
      · obtain ⟨fs9, h9⟩ := hel k hk
        exact ⟨200 + 20 * i + k, fs9, by rw [if_pos hk], h9, by omega, by omega⟩
      · obtain ⟨q, rfl, rfl, rfl⟩ := h
        refine ⟨_, _, ⟨15, q, Or.inr rfl, by omega, rfl, rfl, rfl⟩, fun H hR => hR.re (fun j => if j = 8 + i then 350 else j) (fun j e hj => ?_) (fun a b ha hb9 hab => ?_)⟩
        · rw [zup_s]
          by_cases j8 : j = 8 + i
          · subst j8
            rw [wU_n (Ne.symm h58), wU_s] at hj
            cases hj
            refine ⟨?_, by rw [if_pos rfl, zup_s, zup_s]⟩
            rw [if_pos rfl, wU_n (by omega), wU_s]
            congr 2
            funext k
            by_cases k0 : k = 10
            · subst k0
              have : 200 + 20 * i + 10 ≠ 350 := by omega
              simp [va_up, this]
            · by_cases k1 : k < 10
              · have : k < 10 + 1 := by omega
                simp [va_up, k0, k1, this]
              · have : ¬ k < 10 + 1 := by omega
                simp [va_up, k0, k1, this]
          · rw [if_neg j8]
            have j350 : j ≠ 350 := by
              rintro rfl
              rw [wU_n (by omega), wU_n j8, h350] at hj
              cases hj
            refine ⟨?_, by rw [zup_n j8, zup_n j350]⟩
            by_cases j5 : j = 5 + i
            · subst j5
              rw [wU_s] at hj ⊢
              rw [← nI_1] at hj
              exact hj
            · rw [wU_n j5, wU_n j8] at hj
              rw [wU_n j5, wU_n j350, wU_n j5, wU_n j350, wU_n j5]
              exact hj
        · have n350 : ∀ x, wU (wU w (8 + i) (zAr 15 (fun k => if k < 10 + 1 then some (ad (200 + 20 * i + k)) else none))) (5 + i) (zLs (m0 + 1) (.ref q) (nI (10 + 1))) x ≠ none → x ≠ 350 := by
            rintro x hx rfl
            rw [wU_n (by omega), wU_n (by omega), h350] at hx
            exact hx rfl
          have a3 := n350 a ha
          have b3 := n350 b hb9
          by_cases a8 : a = 8 + i <;> by_cases b8 : b = 8 + i
          · rw [a8, b8]
          · simp only [if_pos a8, if_neg b8] at hab; exact absurd hab.symm b3
          · simp only [if_neg a8, if_pos b8] at hab; exact absurd hab a3
          · simp only [if_neg a8, if_neg b8] at hab; exact hab