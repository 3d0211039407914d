/-- the world before the law's own rows are made -/
def zcut (w : zH) : zH := fun j => if j < 324 then w j else none
theorem zcut_g {w : zH} {i : Nat} {e : zE} (hi : i < 324) (h : w i = some e) : zcut w i = some e := by
  unfold zcut
  rw [if_pos hi, h]
theorem zcut_p {w w' : zH} {i : Nat} {e : zE} (hi : i < 324) (h : ∀ j, w' j = if j = i then some e else w j) : ∀ j, zcut w' j = if j = i then some e else zcut w j := by
  intro j
  unfold zcut
  rw [h]
  by_cases q : j = i
  · rw [if_pos q, if_pos q, if_pos (by omega)]
  · rw [if_neg q, if_neg q]
def mObj (b : Nat → Nat) (i : Nat) : List Value := [if 0 < i then .ref (b (301 + 0)) else .null, if 1 < i then .ref (b (301 + 1)) else .null, if 2 < i then .ref (b (301 + 2)) else .null, if 3 < i then .ref (b (301 + 3)) else .null, if 4 < i then .ref (b (301 + 4)) else .null, if 5 < i then .ref (b (301 + 5)) else .null, if 6 < i then .ref (b (301 + 6)) else .null, if 7 < i then .ref (b (301 + 7)) else .null, if 8 < i then .ref (b (301 + 8)) else .null, if 9 < i then .ref (b (301 + 9)) else .null, if 10 < i then .ref (b (301 + 10)) else .null, if 11 < i then .ref (b (301 + 11)) else .null, if 12 < i then .ref (b (301 + 12)) else .null, if 13 < i then .ref (b (301 + 13)) else .null, if 14 < i then .ref (b (301 + 14)) else .null, if 15 < i then .ref (b (301 + 15)) else .null, if 16 < i then .ref (b (301 + 16)) else .null, if 17 < i then .ref (b (301 + 17)) else .null, if 18 < i then .ref (b (301 + 18)) else .null, if 19 < i then .ref (b (301 + 19)) else .null, if 20 < i then .ref (b (301 + 20)) else .null, if 21 < i then .ref (b (301 + 21)) else .null, if 22 < i then .ref (b (301 + 22)) else .null, .int 0, .int 0, .int 0, .int 0, .int 0, .int 0, .int 0, .int 0, .int 0, .int 0, .int 0, .int 0, .int 0, .int 0]
theorem mObj_c {b b' : Nat → Nat} {i : Nat} (h : ∀ k, k < i → b' (301 + k) = b (301 + k)) : mObj b' i = mObj b i := by
  have e : ∀ k, (if k < i then Value.ref (b' (301 + k)) else Value.null) = (if k < i then Value.ref (b (301 + k)) else Value.null) := fun k => by
    by_cases q : k < i
    · rw [if_pos q, if_pos q, h k q]
    · rw [if_neg q, if_neg q]
  unfold mObj
  simp only [e]
def mW (w : zH) (b : Nat → Nat) (i : Nat) : zH := fun j => if j = 300 then some (.inr (11, mObj b i)) else if 301 ≤ j ∧ j < 301 + i then some (.inl (mty (j - 301), (mln (j - 301), .inl (fun _ => 0)))) else w j
theorem mW_0 {w : zH} {b : Nat → Nat} {i : Nat} : mW w b i 300 = some (.inr (11, mObj b i)) := rfl
theorem mW_n {w : zH} {b : Nat → Nat} {i j : Nat} (h0 : j ≠ 300) (h : ¬ (301 ≤ j ∧ j < 301 + i)) : mW w b i j = w j := by
  unfold mW
  rw [if_neg h0, if_neg h]
theorem mW_c {w : zH} {b b' : Nat → Nat} {i : Nat} (h : ∀ k, k < i → b' (301 + k) = b (301 + k)) : mW w b' i = mW w b i := by
  unfold mW
  rw [mObj_c h]
/-- one array more -/
theorem mW_s {w : zH} {b : Nat → Nat} {i t n : Nat} (hi : i < 23) (h1 : mty i = t) (h2 : mln i = n) (hs : (mObj b i).set i (.ref (b (301 + i))) = mObj b (i + 1)) : wU (wU (mW w b i) (301 + i) (.inl (t, (n, .inl (fun _ => 0))))) 300 (.inr (11, (mObj b i).set i (.ref (b (301 + i))))) = mW w b (i + 1) := by
  funext j
  by_cases j0 : j = 300
  · subst j0; rw [wU_s, hs]; rfl
  · rw [wU_n j0]
    by_cases j1 : j = 301 + i
    · subst j1
      rw [wU_s]
      unfold mW
      rw [if_neg j0, if_pos (by omega), show 301 + i - 301 = i by omega, h1, h2]
    · rw [wU_n j1]
      unfold mW
      rw [if_neg j0, if_neg j0]
      by_cases j2 : 301 ≤ j ∧ j < 301 + i
      · rw [if_pos j2, if_pos (by omega)]
      · rw [if_neg j2, if_neg (by omega)]
def mY0 : zM := fun f _ => if f = 28 then 40 else 0
set_option maxRecDepth 100000 in
set_option maxHeartbeats 4000000 in
theorem c_X8_restsC {G : zG} {l : Launch} (hl : l.stackTraces = false) {Z : zM} {sb : Nat → Option Nat} {mcn : Nat → Int32} {cp : Nat → Nat} {Y : zM} {th : Int32} {o : Nat → Int64} {od : Nat → UInt64} {ad : Nat → Nat} {k : Nat} (hk : k < 80) : zCt G l yX8_rests (zws yX8_rests cX8_rests 2 none) ({ frames := 0, cells := 0, slots := 0, locals := 0 }) [.ref (ad 300), .int (nI k)] (zcut (zent Z sb mcn cp G.2.2.2.1 Y th o od ad)) ad (fun r w1 ad1 => none = r ∧ zcut (zent Z sb mcn cp G.2.2.2.1 (mRest Y k) th o od ad) = w1 ∧ ad = ad1) (zNoX) := by
  refine z_body hl (by decide +kernel) (Nat.le_of_ble_eq_true rfl) (fun X O => ?_)
  refine z_aload_n O dX8_rests_0 rfl ?_
  refine z_get O (fk := 3) (fun x h => zI x (zu_RX8 x h)) rfl (by decide) (zI _ zm7_5) dX8_rests_1 (zcut_g (by decide) zg_model) rfl ?_
  refine z_iload_n O dX8_rests_4 rfl ?_
  refine z_iconst O dX8_rests_5 (v := 0) (by decide) ?_
  refine z_iast O dX8_rests_6 (zcut_g (by decide) (zg_mI (i := 3) (n := 80) rfl rfl (by decide))) (k) (rfl) (hk) (by decide) (zcut_p (by decide) (zp_mI (i := 3) (n := 80) rfl rfl (by decide))) ?_
  refine z_aload_n O dX8_rests_7 rfl ?_
  refine z_get O (fk := 4) (fun x h => zI x (zu_RX8 x h)) rfl (by decide) (zI _ zm7_6) dX8_rests_8 (zcut_g (by decide) zg_model) rfl ?_
  refine z_iload_n O dX8_rests_11 rfl ?_
  refine z_iconst O dX8_rests_12 (v := 0) (by decide) ?_
  refine z_iast O dX8_rests_13 (zcut_g (by decide) (zg_mI (i := 4) (n := 80) rfl rfl (by decide))) (k) (rfl) (hk) (by decide) (zcut_p (by decide) (zp_mI (i := 4) (n := 80) rfl rfl (by decide))) ?_
  refine z_aload_n O dX8_rests_14 rfl ?_
  refine z_get O (fk := 6) (fun x h => zI x (zu_RX8 x h)) rfl (by decide) (zI _ zm7_7) dX8_rests_15 (zcut_g (by decide) zg_model) rfl ?_
  refine z_iload_n O dX8_rests_18 rfl ?_
  refine z_iconst O dX8_rests_19 (v := 0) (by decide) ?_
  refine z_zast O dX8_rests_20 (zcut_g (by decide) (zg_mZ (i := 6) (n := 80) rfl rfl (by decide))) (k) (rfl) (hk) (by decide) (zBol_0.1) (zcut_p (by decide) (zp_mZ (i := 6) (n := 80) rfl rfl (by decide))) ?_
  refine z_aload_n O dX8_rests_21 rfl ?_
  refine z_get O (fk := 7) (fun x h => zI x (zu_RX8 x h)) rfl (by decide) (zI _ zm7_8) dX8_rests_22 (zcut_g (by decide) zg_model) rfl ?_
  refine z_iload_n O dX8_rests_25 rfl ?_
  refine z_iconst O dX8_rests_26 (v := 0) (by decide) ?_
  refine z_zast O dX8_rests_27 (zcut_g (by decide) (zg_mZ (i := 7) (n := 80) rfl rfl (by decide))) (k) (rfl) (hk) (by decide) (zBol_0.1) (zcut_p (by decide) (zp_mZ (i := 7) (n := 80) rfl rfl (by decide))) ?_
  exact z_vret O dX8_rests_28 (Nat.le_of_ble_eq_true rfl) (Nat.le_of_ble_eq_true rfl) (⟨rfl, rfl, rfl⟩)

set_option maxRecDepth 100000 in
set_option maxHeartbeats 4000000 in
theorem c_X8_emptiesC {G : zG} {l : Launch} (hl : l.stackTraces = false) {Z : zM} {sb : Nat → Option Nat} {mcn : Nat → Int32} {cp : Nat → Nat} {Y : zM} {th : Int32} {o : Nat → Int64} {od : Nat → UInt64} {ad : Nat → Nat} {k : Nat} (hk : k < 80) : zCt G l yX8_empties (zws yX8_empties cX8_empties 2 none) ({ frames := 1, cells := 0, slots := 0, locals := 21 }) [.ref (ad 300), .int (nI k)] (zcut (zent Z sb mcn cp G.2.2.2.1 Y th o od ad)) ad (fun r w1 ad1 => none = r ∧ zcut (zent Z sb mcn cp G.2.2.2.1 (mEmp Y k) th o od ad) = w1 ∧ ad = ad1) (zNoX) := by
  refine z_body hl (by decide +kernel) (Nat.le_of_ble_eq_true rfl) (fun X O => ?_)
  refine z_aload_n O dX8_empties_0 rfl ?_
  refine z_get O (fk := 0) (fun x h => zI x (zu_RX8 x h)) rfl (by decide) (zI _ zm7_10) dX8_empties_1 (zcut_g (by decide) zg_model) rfl ?_
  refine z_iload_n O dX8_empties_4 rfl ?_
  refine z_bipush O dX8_empties_5 (v := 46) (by decide) ?_
  refine z_cast O dX8_empties_7 (zcut_g (by decide) (zg_mC (i := 0) (n := 80) rfl rfl (by decide))) (k) (rfl) (hk) (by decide) (zChr_46.1) (zcut_p (by decide) (zp_mC (i := 0) (n := 80) rfl rfl (by decide))) ?_
  refine z_aload_n O dX8_empties_8 rfl ?_
  refine z_get O (fk := 1) (fun x h => zI x (zu_RX8 x h)) rfl (by decide) (zI _ zm7_11) dX8_empties_9 (zcut_g (by decide) zg_model) rfl ?_
  refine z_iload_n O dX8_empties_12 rfl ?_
  refine z_iconst O dX8_empties_13 (v := 0) (by decide) ?_
  refine z_iast O dX8_empties_14 (zcut_g (by decide) (zg_mI (i := 1) (n := 80) rfl rfl (by decide))) (k) (rfl) (hk) (by decide) (zcut_p (by decide) (zp_mI (i := 1) (n := 80) rfl rfl (by decide))) ?_
  refine z_aload_n O dX8_empties_15 rfl ?_
  refine z_get O (fk := 2) (fun x h => zI x (zu_RX8 x h)) rfl (by decide) (zI _ zm7_12) dX8_empties_16 (zcut_g (by decide) zg_model) rfl ?_
  refine z_iload_n O dX8_empties_19 rfl ?_
  refine z_iconst O dX8_empties_20 (v := (-1)) (by decide) ?_
  refine z_iast O dX8_empties_21 (zcut_g (by decide) (zg_mI (i := 2) (n := 80) rfl rfl (by decide))) (k) (rfl) (hk) (by decide) (zcut_p (by decide) (zp_mI (i := 2) (n := 80) rfl rfl (by decide))) ?_
  refine z_aload_n O dX8_empties_22 rfl ?_
  refine z_iload_n O dX8_empties_23 rfl ?_
  refine z_callV O (c_X8_restsC hl hk) zI zm7_13 zm7_14 zm7_15 zm7_16 zm7_4 ⟨rfl, by decide +kernel, by decide +kernel, (show _ = some 1 by decide +kernel)⟩ rfl (zcut_g (by decide) zg_model) ⟨Nat.le_of_ble_eq_true rfl, Nat.le_of_ble_eq_true rfl⟩ ⟨Nat.le_of_ble_eq_true rfl, Nat.le_of_ble_eq_true rfl⟩ dX8_empties_24 rfl (Nat.le_of_ble_eq_true rfl) (fun _ _ _ h => h.elim) (fun r w1 ad1 hp => ?_)
  obtain ⟨rfl, rfl, rfl⟩ := hp
  exact z_vret O dX8_empties_27 (Nat.le_of_ble_eq_true rfl) (Nat.le_of_ble_eq_true rfl) (⟨rfl, rfl, rfl⟩)

set_option maxRecDepth 100000 in
set_option maxHeartbeats 4000000 in
theorem c_X8_init {G : zG} {l : Launch} (hl : l.stackTraces = false) {w : zH} {ad : Nat → Nat} {Z : zM} {sb : Nat → Option Nat} {mcn : Nat → Int32} {cp : Nat → Nat} {o : Nat → Int64} {od : Nat → UInt64} (hw : w 300 = some (.inr (11, mObj ad 0))) (hno : ∀ j, 301 ≤ j → j < 324 → w j = none) (hlo : ∀ b, (∀ j, ¬ (301 ≤ j ∧ j < 324) → b j = ad j) → ∀ j x, j < 300 → zent Z sb mcn cp G.2.2.2.1 mY0 0 o od b j = some x → ∃ e', w j = some e' ∧ zAl G e' x) : zCt G l yX8_init (zws yX8_init cX8_init 2 none) ({ frames := 2, cells := 23, slots := 864, locals := 42 }) [.ref (ad 300)] (w) ad (fun r w1 ad1 => ∃ b, none = r ∧ zcut (zent Z sb mcn cp G.2.2.2.1 (fIter mEmp mY0 80) 0 o od b) = w1 ∧ b = ad1 ∧ ∀ j, ¬ (301 ≤ j ∧ j < 324) → b j = ad j) (zNoX) := by
  refine z_body hl (by decide +kernel) (Nat.le_of_ble_eq_true rfl) (fun X O => ?_)
  refine z_aload_n O dX8_init_0 rfl ?_
  refine z_objInit O zI zm7_17 zm0_2 zm0_3 dX8_init_1 (Nat.le_of_ble_eq_true rfl) (Nat.le_of_ble_eq_true rfl) ?_
  have hW0 : w = mW w ad 0 := by
    funext j
    unfold mW
    by_cases q : j = 300
    · subst q; rw [if_pos rfl, hw]
    · rw [if_neg q, if_neg (by omega)]
  refine zV.to (w' := mW w ad 0) (ls' := [(0, .ref (ad 300))]) (st' := []) ?_ ⟨rfl, trivial⟩ rfl hW0.symm
  refine z_aload_n O dX8_init_4 rfl ?_
  refine z_bipush O dX8_init_5 (v := 80) (by decide) ?_
  refine z_newa O (atype := .char) (w' := fun _ => wU (mW w ad 0) 301 (.inl (1, (80, .inl (fun _ => 0))))) 301 1 (by decide) (zI _ zm7_18) rfl (N := 80) (a0 := (80, .inl (fun _ => 0))) (fun _ => rfl) (by decide) (by decide) (by decide) (Nat.le_of_ble_eq_true rfl) (Nat.le_of_ble_eq_true rfl) dX8_init_7 ((mW_n (by decide) (by decide)).trans (hno 301 (by decide) (by decide))) (fun _ => wU_eq) (fun q => ?_)
  obtain ⟨b1, hb1⟩ : ∃ z, z = va_up ad 301 q := ⟨_, rfl⟩
  rw [← hb1]
  have kb1 : ∀ j, j ≠ 301 → b1 j = ad j := fun j h => by rw [hb1]; exact zup_n h
  rw [← kb1 300 (by decide), ← mW_c (w := w) (b := ad) (b' := b1) (i := 0) (fun k hk => kb1 _ (by omega))]
  refine z_putF O rfl (fk := 0) (fun x h => zI x (zu_RX8 x h)) tyX8 tyX8_ok nmX8 rfl (by decide) (zI _ zm7_10) rfl rfl dX8_init_9 rfl rfl ((wU_n (by decide)).trans mW_0) (Nat.le_of_ble_eq_true rfl) (wU_eq) ?_
  refine zV.to (w' := mW w b1 1) (ls' := [(0, .ref (b1 300))]) (st' := []) ?_ ⟨rfl, trivial⟩ rfl (mW_s (i := 0) (by decide) rfl rfl rfl).symm
  refine z_aload_n O dX8_init_12 rfl ?_
  refine z_bipush O dX8_init_13 (v := 80) (by decide) ?_
  refine z_newa O (atype := .int) (w' := fun _ => wU (mW w b1 1) 302 (.inl (0, (80, .inl (fun _ => 0))))) 302 0 (by decide) (zI _ zm7_19) rfl (N := 80) (a0 := (80, .inl (fun _ => 0))) (fun _ => rfl) (by decide) (by decide) (by decide) (Nat.le_of_ble_eq_true rfl) (Nat.le_of_ble_eq_true rfl) dX8_init_15 ((mW_n (by decide) (by decide)).trans (hno 302 (by decide) (by decide))) (fun _ => wU_eq) (fun q => ?_)
  obtain ⟨b2, hb2⟩ : ∃ z, z = va_up b1 302 q := ⟨_, rfl⟩
  rw [← hb2]
  have kb2 : ∀ j, j ≠ 302 → b2 j = b1 j := fun j h => by rw [hb2]; exact zup_n h
  rw [← kb2 300 (by decide), ← mW_c (w := w) (b := b1) (b' := b2) (i := 1) (fun k hk => kb2 _ (by omega))]
  refine z_putF O rfl (fk := 1) (fun x h => zI x (zu_RX8 x h)) tyX8 tyX8_ok nmX8 rfl (by decide) (zI _ zm7_11) rfl rfl dX8_init_17 rfl rfl ((wU_n (by decide)).trans mW_0) (Nat.le_of_ble_eq_true rfl) (wU_eq) ?_
  refine zV.to (w' := mW w b2 2) (ls' := [(0, .ref (b2 300))]) (st' := []) ?_ ⟨rfl, trivial⟩ rfl (mW_s (i := 1) (by decide) rfl rfl rfl).symm
  refine z_aload_n O dX8_init_20 rfl ?_
  refine z_bipush O dX8_init_21 (v := 80) (by decide) ?_
  refine z_newa O (atype := .int) (w' := fun _ => wU (mW w b2 2) 303 (.inl (0, (80, .inl (fun _ => 0))))) 303 0 (by decide) (zI _ zm7_19) rfl (N := 80) (a0 := (80, .inl (fun _ => 0))) (fun _ => rfl) (by decide) (by decide) (by decide) (Nat.le_of_ble_eq_true rfl) (Nat.le_of_ble_eq_true rfl) dX8_init_23 ((mW_n (by decide) (by decide)).trans (hno 303 (by decide) (by decide))) (fun _ => wU_eq) (fun q => ?_)
  obtain ⟨b3, hb3⟩ : ∃ z, z = va_up b2 303 q := ⟨_, rfl⟩
  rw [← hb3]
  have kb3 : ∀ j, j ≠ 303 → b3 j = b2 j := fun j h => by rw [hb3]; exact zup_n h
  rw [← kb3 300 (by decide), ← mW_c (w := w) (b := b2) (b' := b3) (i := 2) (fun k hk => kb3 _ (by omega))]
  refine z_putF O rfl (fk := 2) (fun x h => zI x (zu_RX8 x h)) tyX8 tyX8_ok nmX8 rfl (by decide) (zI _ zm7_12) rfl rfl dX8_init_25 rfl rfl ((wU_n (by decide)).trans mW_0) (Nat.le_of_ble_eq_true rfl) (wU_eq) ?_
  refine zV.to (w' := mW w b3 3) (ls' := [(0, .ref (b3 300))]) (st' := []) ?_ ⟨rfl, trivial⟩ rfl (mW_s (i := 2) (by decide) rfl rfl rfl).symm
  refine z_aload_n O dX8_init_28 rfl ?_
  refine z_bipush O dX8_init_29 (v := 80) (by decide) ?_
  refine z_newa O (atype := .int) (w' := fun _ => wU (mW w b3 3) 304 (.inl (0, (80, .inl (fun _ => 0))))) 304 0 (by decide) (zI _ zm7_19) rfl (N := 80) (a0 := (80, .inl (fun _ => 0))) (fun _ => rfl) (by decide) (by decide) (by decide) (Nat.le_of_ble_eq_true rfl) (Nat.le_of_ble_eq_true rfl) dX8_init_31 ((mW_n (by decide) (by decide)).trans (hno 304 (by decide) (by decide))) (fun _ => wU_eq) (fun q => ?_)
  obtain ⟨b4, hb4⟩ : ∃ z, z = va_up b3 304 q := ⟨_, rfl⟩
  rw [← hb4]
  have kb4 : ∀ j, j ≠ 304 → b4 j = b3 j := fun j h => by rw [hb4]; exact zup_n h
  rw [← kb4 300 (by decide), ← mW_c (w := w) (b := b3) (b' := b4) (i := 3) (fun k hk => kb4 _ (by omega))]
  refine z_putF O rfl (fk := 3) (fun x h => zI x (zu_RX8 x h)) tyX8 tyX8_ok nmX8 rfl (by decide) (zI _ zm7_5) rfl rfl dX8_init_33 rfl rfl ((wU_n (by decide)).trans mW_0) (Nat.le_of_ble_eq_true rfl) (wU_eq) ?_
  refine zV.to (w' := mW w b4 4) (ls' := [(0, .ref (b4 300))]) (st' := []) ?_ ⟨rfl, trivial⟩ rfl (mW_s (i := 3) (by decide) rfl rfl rfl).symm
  refine z_aload_n O dX8_init_36 rfl ?_
  refine z_bipush O dX8_init_37 (v := 80) (by decide) ?_
  refine z_newa O (atype := .int) (w' := fun _ => wU (mW w b4 4) 305 (.inl (0, (80, .inl (fun _ => 0))))) 305 0 (by decide) (zI _ zm7_19) rfl (N := 80) (a0 := (80, .inl (fun _ => 0))) (fun _ => rfl) (by decide) (by decide) (by decide) (Nat.le_of_ble_eq_true rfl) (Nat.le_of_ble_eq_true rfl) dX8_init_39 ((mW_n (by decide) (by decide)).trans (hno 305 (by decide) (by decide))) (fun _ => wU_eq) (fun q => ?_)
  obtain ⟨b5, hb5⟩ : ∃ z, z = va_up b4 305 q := ⟨_, rfl⟩
  rw [← hb5]
  have kb5 : ∀ j, j ≠ 305 → b5 j = b4 j := fun j h => by rw [hb5]; exact zup_n h
  rw [← kb5 300 (by decide), ← mW_c (w := w) (b := b4) (b' := b5) (i := 4) (fun k hk => kb5 _ (by omega))]
  refine z_putF O rfl (fk := 4) (fun x h => zI x (zu_RX8 x h)) tyX8 tyX8_ok nmX8 rfl (by decide) (zI _ zm7_6) rfl rfl dX8_init_41 rfl rfl ((wU_n (by decide)).trans mW_0) (Nat.le_of_ble_eq_true rfl) (wU_eq) ?_
  refine zV.to (w' := mW w b5 5) (ls' := [(0, .ref (b5 300))]) (st' := []) ?_ ⟨rfl, trivial⟩ rfl (mW_s (i := 4) (by decide) rfl rfl rfl).symm
  refine z_aload_n O dX8_init_44 rfl ?_
  refine z_bipush O dX8_init_45 (v := 80) (by decide) ?_
  refine z_newa O (atype := .int) (w' := fun _ => wU (mW w b5 5) 306 (.inl (0, (80, .inl (fun _ => 0))))) 306 0 (by decide) (zI _ zm7_19) rfl (N := 80) (a0 := (80, .inl (fun _ => 0))) (fun _ => rfl) (by decide) (by decide) (by decide) (Nat.le_of_ble_eq_true rfl) (Nat.le_of_ble_eq_true rfl) dX8_init_47 ((mW_n (by decide) (by decide)).trans (hno 306 (by decide) (by decide))) (fun _ => wU_eq) (fun q => ?_)
  obtain ⟨b6, hb6⟩ : ∃ z, z = va_up b5 306 q := ⟨_, rfl⟩
  rw [← hb6]
  have kb6 : ∀ j, j ≠ 306 → b6 j = b5 j := fun j h => by rw [hb6]; exact zup_n h
  rw [← kb6 300 (by decide), ← mW_c (w := w) (b := b5) (b' := b6) (i := 5) (fun k hk => kb6 _ (by omega))]
  refine z_putF O rfl (fk := 5) (fun x h => zI x (zu_RX8 x h)) tyX8 tyX8_ok nmX8 rfl (by decide) (zI _ zm7_20) rfl rfl dX8_init_49 rfl rfl ((wU_n (by decide)).trans mW_0) (Nat.le_of_ble_eq_true rfl) (wU_eq) ?_
  refine zV.to (w' := mW w b6 6) (ls' := [(0, .ref (b6 300))]) (st' := []) ?_ ⟨rfl, trivial⟩ rfl (mW_s (i := 5) (by decide) rfl rfl rfl).symm
  refine z_aload_n O dX8_init_52 rfl ?_
  refine z_bipush O dX8_init_53 (v := 80) (by decide) ?_
  refine z_newa O (atype := .boolean) (w' := fun _ => wU (mW w b6 6) 307 (.inl (2, (80, .inl (fun _ => 0))))) 307 2 (by decide) (zI _ zm7_21) rfl (N := 80) (a0 := (80, .inl (fun _ => 0))) (fun _ => rfl) (by decide) (by decide) (by decide) (Nat.le_of_ble_eq_true rfl) (Nat.le_of_ble_eq_true rfl) dX8_init_55 ((mW_n (by decide) (by decide)).trans (hno 307 (by decide) (by decide))) (fun _ => wU_eq) (fun q => ?_)
  obtain ⟨b7, hb7⟩ : ∃ z, z = va_up b6 307 q := ⟨_, rfl⟩
  rw [← hb7]
  have kb7 : ∀ j, j ≠ 307 → b7 j = b6 j := fun j h => by rw [hb7]; exact zup_n h
  rw [← kb7 300 (by decide), ← mW_c (w := w) (b := b6) (b' := b7) (i := 6) (fun k hk => kb7 _ (by omega))]
  refine z_putF O rfl (fk := 6) (fun x h => zI x (zu_RX8 x h)) tyX8 tyX8_ok nmX8 rfl (by decide) (zI _ zm7_7) rfl rfl dX8_init_57 rfl rfl ((wU_n (by decide)).trans mW_0) (Nat.le_of_ble_eq_true rfl) (wU_eq) ?_
  refine zV.to (w' := mW w b7 7) (ls' := [(0, .ref (b7 300))]) (st' := []) ?_ ⟨rfl, trivial⟩ rfl (mW_s (i := 6) (by decide) rfl rfl rfl).symm
  refine z_aload_n O dX8_init_60 rfl ?_
  refine z_bipush O dX8_init_61 (v := 80) (by decide) ?_
  refine z_newa O (atype := .boolean) (w' := fun _ => wU (mW w b7 7) 308 (.inl (2, (80, .inl (fun _ => 0))))) 308 2 (by decide) (zI _ zm7_21) rfl (N := 80) (a0 := (80, .inl (fun _ => 0))) (fun _ => rfl) (by decide) (by decide) (by decide) (Nat.le_of_ble_eq_true rfl) (Nat.le_of_ble_eq_true rfl) dX8_init_63 ((mW_n (by decide) (by decide)).trans (hno 308 (by decide) (by decide))) (fun _ => wU_eq) (fun q => ?_)
  obtain ⟨b8, hb8⟩ : ∃ z, z = va_up b7 308 q := ⟨_, rfl⟩
  rw [← hb8]
  have kb8 : ∀ j, j ≠ 308 → b8 j = b7 j := fun j h => by rw [hb8]; exact zup_n h
  rw [← kb8 300 (by decide), ← mW_c (w := w) (b := b7) (b' := b8) (i := 7) (fun k hk => kb8 _ (by omega))]
  refine z_putF O rfl (fk := 7) (fun x h => zI x (zu_RX8 x h)) tyX8 tyX8_ok nmX8 rfl (by decide) (zI _ zm7_8) rfl rfl dX8_init_65 rfl rfl ((wU_n (by decide)).trans mW_0) (Nat.le_of_ble_eq_true rfl) (wU_eq) ?_
  refine zV.to (w' := mW w b8 8) (ls' := [(0, .ref (b8 300))]) (st' := []) ?_ ⟨rfl, trivial⟩ rfl (mW_s (i := 7) (by decide) rfl rfl rfl).symm
  refine z_aload_n O dX8_init_68 rfl ?_
  refine z_bipush O dX8_init_69 (v := 80) (by decide) ?_
  refine z_newa O (atype := .boolean) (w' := fun _ => wU (mW w b8 8) 309 (.inl (2, (80, .inl (fun _ => 0))))) 309 2 (by decide) (zI _ zm7_21) rfl (N := 80) (a0 := (80, .inl (fun _ => 0))) (fun _ => rfl) (by decide) (by decide) (by decide) (Nat.le_of_ble_eq_true rfl) (Nat.le_of_ble_eq_true rfl) dX8_init_71 ((mW_n (by decide) (by decide)).trans (hno 309 (by decide) (by decide))) (fun _ => wU_eq) (fun q => ?_)
  obtain ⟨b9, hb9⟩ : ∃ z, z = va_up b8 309 q := ⟨_, rfl⟩
  rw [← hb9]
  have kb9 : ∀ j, j ≠ 309 → b9 j = b8 j := fun j h => by rw [hb9]; exact zup_n h
  rw [← kb9 300 (by decide), ← mW_c (w := w) (b := b8) (b' := b9) (i := 8) (fun k hk => kb9 _ (by omega))]
  refine z_putF O rfl (fk := 8) (fun x h => zI x (zu_RX8 x h)) tyX8 tyX8_ok nmX8 rfl (by decide) (zI _ zm7_22) rfl rfl dX8_init_73 rfl rfl ((wU_n (by decide)).trans mW_0) (Nat.le_of_ble_eq_true rfl) (wU_eq) ?_
  refine zV.to (w' := mW w b9 9) (ls' := [(0, .ref (b9 300))]) (st' := []) ?_ ⟨rfl, trivial⟩ rfl (mW_s (i := 8) (by decide) rfl rfl rfl).symm
  refine z_aload_n O dX8_init_76 rfl ?_
  refine z_bipush O dX8_init_77 (v := 12) (by decide) ?_
  refine z_newa O (atype := .char) (w' := fun _ => wU (mW w b9 9) 310 (.inl (1, (12, .inl (fun _ => 0))))) 310 1 (by decide) (zI _ zm7_18) rfl (N := 12) (a0 := (12, .inl (fun _ => 0))) (fun _ => rfl) (by decide) (by decide) (by decide) (Nat.le_of_ble_eq_true rfl) (Nat.le_of_ble_eq_true rfl) dX8_init_79 ((mW_n (by decide) (by decide)).trans (hno 310 (by decide) (by decide))) (fun _ => wU_eq) (fun q => ?_)
  obtain ⟨b10, hb10⟩ : ∃ z, z = va_up b9 310 q := ⟨_, rfl⟩
  rw [← hb10]
  have kb10 : ∀ j, j ≠ 310 → b10 j = b9 j := fun j h => by rw [hb10]; exact zup_n h
  rw [← kb10 300 (by decide), ← mW_c (w := w) (b := b9) (b' := b10) (i := 9) (fun k hk => kb10 _ (by omega))]
  refine z_putF O rfl (fk := 9) (fun x h => zI x (zu_RX8 x h)) tyX8 tyX8_ok nmX8 rfl (by decide) (zI _ zm7_23) rfl rfl dX8_init_81 rfl rfl ((wU_n (by decide)).trans mW_0) (Nat.le_of_ble_eq_true rfl) (wU_eq) ?_
  refine zV.to (w' := mW w b10 10) (ls' := [(0, .ref (b10 300))]) (st' := []) ?_ ⟨rfl, trivial⟩ rfl (mW_s (i := 9) (by decide) rfl rfl rfl).symm
  refine z_aload_n O dX8_init_84 rfl ?_
  refine z_bipush O dX8_init_85 (v := 12) (by decide) ?_
  refine z_newa O (atype := .char) (w' := fun _ => wU (mW w b10 10) 311 (.inl (1, (12, .inl (fun _ => 0))))) 311 1 (by decide) (zI _ zm7_18) rfl (N := 12) (a0 := (12, .inl (fun _ => 0))) (fun _ => rfl) (by decide) (by decide) (by decide) (Nat.le_of_ble_eq_true rfl) (Nat.le_of_ble_eq_true rfl) dX8_init_87 ((mW_n (by decide) (by decide)).trans (hno 311 (by decide) (by decide))) (fun _ => wU_eq) (fun q => ?_)
  obtain ⟨b11, hb11⟩ : ∃ z, z = va_up b10 311 q := ⟨_, rfl⟩
  rw [← hb11]
  have kb11 : ∀ j, j ≠ 311 → b11 j = b10 j := fun j h => by rw [hb11]; exact zup_n h
  rw [← kb11 300 (by decide), ← mW_c (w := w) (b := b10) (b' := b11) (i := 10) (fun k hk => kb11 _ (by omega))]
  refine z_putF O rfl (fk := 10) (fun x h => zI x (zu_RX8 x h)) tyX8 tyX8_ok nmX8 rfl (by decide) (zI _ zm7_24) rfl rfl dX8_init_89 rfl rfl ((wU_n (by decide)).trans mW_0) (Nat.le_of_ble_eq_true rfl) (wU_eq) ?_
  refine zV.to (w' := mW w b11 11) (ls' := [(0, .ref (b11 300))]) (st' := []) ?_ ⟨rfl, trivial⟩ rfl (mW_s (i := 10) (by decide) rfl rfl rfl).symm
  refine z_aload_n O dX8_init_92 rfl ?_
  refine z_bipush O dX8_init_93 (v := 12) (by decide) ?_
  refine z_newa O (atype := .int) (w' := fun _ => wU (mW w b11 11) 312 (.inl (0, (12, .inl (fun _ => 0))))) 312 0 (by decide) (zI _ zm7_19) rfl (N := 12) (a0 := (12, .inl (fun _ => 0))) (fun _ => rfl) (by decide) (by decide) (by decide) (Nat.le_of_ble_eq_true rfl) (Nat.le_of_ble_eq_true rfl) dX8_init_95 ((mW_n (by decide) (by decide)).trans (hno 312 (by decide) (by decide))) (fun _ => wU_eq) (fun q => ?_)
  obtain ⟨b12, hb12⟩ : ∃ z, z = va_up b11 312 q := ⟨_, rfl⟩
  rw [← hb12]
  have kb12 : ∀ j, j ≠ 312 → b12 j = b11 j := fun j h => by rw [hb12]; exact zup_n h
  rw [← kb12 300 (by decide), ← mW_c (w := w) (b := b11) (b' := b12) (i := 11) (fun k hk => kb12 _ (by omega))]
  refine z_putF O rfl (fk := 11) (fun x h => zI x (zu_RX8 x h)) tyX8 tyX8_ok nmX8 rfl (by decide) (zI _ zm7_25) rfl rfl dX8_init_97 rfl rfl ((wU_n (by decide)).trans mW_0) (Nat.le_of_ble_eq_true rfl) (wU_eq) ?_
  refine zV.to (w' := mW w b12 12) (ls' := [(0, .ref (b12 300))]) (st' := []) ?_ ⟨rfl, trivial⟩ rfl (mW_s (i := 11) (by decide) rfl rfl rfl).symm
  refine z_aload_n O dX8_init_100 rfl ?_
  refine z_bipush O dX8_init_101 (v := 12) (by decide) ?_
  refine z_newa O (atype := .int) (w' := fun _ => wU (mW w b12 12) 313 (.inl (0, (12, .inl (fun _ => 0))))) 313 0 (by decide) (zI _ zm7_19) rfl (N := 12) (a0 := (12, .inl (fun _ => 0))) (fun _ => rfl) (by decide) (by decide) (by decide) (Nat.le_of_ble_eq_true rfl) (Nat.le_of_ble_eq_true rfl) dX8_init_103 ((mW_n (by decide) (by decide)).trans (hno 313 (by decide) (by decide))) (fun _ => wU_eq) (fun q => ?_)
  obtain ⟨b13, hb13⟩ : ∃ z, z = va_up b12 313 q := ⟨_, rfl⟩
  rw [← hb13]
  have kb13 : ∀ j, j ≠ 313 → b13 j = b12 j := fun j h => by rw [hb13]; exact zup_n h
  rw [← kb13 300 (by decide), ← mW_c (w := w) (b := b12) (b' := b13) (i := 12) (fun k hk => kb13 _ (by omega))]
  refine z_putF O rfl (fk := 12) (fun x h => zI x (zu_RX8 x h)) tyX8 tyX8_ok nmX8 rfl (by decide) (zI _ zm7_26) rfl rfl dX8_init_105 rfl rfl ((wU_n (by decide)).trans mW_0) (Nat.le_of_ble_eq_true rfl) (wU_eq) ?_
  refine zV.to (w' := mW w b13 13) (ls' := [(0, .ref (b13 300))]) (st' := []) ?_ ⟨rfl, trivial⟩ rfl (mW_s (i := 12) (by decide) rfl rfl rfl).symm
  refine z_aload_n O dX8_init_108 rfl ?_
  refine z_bipush O dX8_init_109 (v := 12) (by decide) ?_
  refine z_newa O (atype := .int) (w' := fun _ => wU (mW w b13 13) 314 (.inl (0, (12, .inl (fun _ => 0))))) 314 0 (by decide) (zI _ zm7_19) rfl (N := 12) (a0 := (12, .inl (fun _ => 0))) (fun _ => rfl) (by decide) (by decide) (by decide) (Nat.le_of_ble_eq_true rfl) (Nat.le_of_ble_eq_true rfl) dX8_init_111 ((mW_n (by decide) (by decide)).trans (hno 314 (by decide) (by decide))) (fun _ => wU_eq) (fun q => ?_)
  obtain ⟨b14, hb14⟩ : ∃ z, z = va_up b13 314 q := ⟨_, rfl⟩
  rw [← hb14]
  have kb14 : ∀ j, j ≠ 314 → b14 j = b13 j := fun j h => by rw [hb14]; exact zup_n h
  rw [← kb14 300 (by decide), ← mW_c (w := w) (b := b13) (b' := b14) (i := 13) (fun k hk => kb14 _ (by omega))]
  refine z_putF O rfl (fk := 13) (fun x h => zI x (zu_RX8 x h)) tyX8 tyX8_ok nmX8 rfl (by decide) (zI _ zm7_27) rfl rfl dX8_init_113 rfl rfl ((wU_n (by decide)).trans mW_0) (Nat.le_of_ble_eq_true rfl) (wU_eq) ?_
  refine zV.to (w' := mW w b14 14) (ls' := [(0, .ref (b14 300))]) (st' := []) ?_ ⟨rfl, trivial⟩ rfl (mW_s (i := 13) (by decide) rfl rfl rfl).symm
  refine z_aload_n O dX8_init_116 rfl ?_
  refine z_bipush O dX8_init_117 (v := 12) (by decide) ?_
  refine z_newa O (atype := .int) (w' := fun _ => wU (mW w b14 14) 315 (.inl (0, (12, .inl (fun _ => 0))))) 315 0 (by decide) (zI _ zm7_19) rfl (N := 12) (a0 := (12, .inl (fun _ => 0))) (fun _ => rfl) (by decide) (by decide) (by decide) (Nat.le_of_ble_eq_true rfl) (Nat.le_of_ble_eq_true rfl) dX8_init_119 ((mW_n (by decide) (by decide)).trans (hno 315 (by decide) (by decide))) (fun _ => wU_eq) (fun q => ?_)
  obtain ⟨b15, hb15⟩ : ∃ z, z = va_up b14 315 q := ⟨_, rfl⟩
  rw [← hb15]
  have kb15 : ∀ j, j ≠ 315 → b15 j = b14 j := fun j h => by rw [hb15]; exact zup_n h
  rw [← kb15 300 (by decide), ← mW_c (w := w) (b := b14) (b' := b15) (i := 14) (fun k hk => kb15 _ (by omega))]
  refine z_putF O rfl (fk := 14) (fun x h => zI x (zu_RX8 x h)) tyX8 tyX8_ok nmX8 rfl (by decide) (zI _ zm7_28) rfl rfl dX8_init_121 rfl rfl ((wU_n (by decide)).trans mW_0) (Nat.le_of_ble_eq_true rfl) (wU_eq) ?_
  refine zV.to (w' := mW w b15 15) (ls' := [(0, .ref (b15 300))]) (st' := []) ?_ ⟨rfl, trivial⟩ rfl (mW_s (i := 14) (by decide) rfl rfl rfl).symm
  refine z_aload_n O dX8_init_124 rfl ?_
  refine z_bipush O dX8_init_125 (v := 6) (by decide) ?_
  refine z_newa O (atype := .int) (w' := fun _ => wU (mW w b15 15) 316 (.inl (0, (6, .inl (fun _ => 0))))) 316 0 (by decide) (zI _ zm7_19) rfl (N := 6) (a0 := (6, .inl (fun _ => 0))) (fun _ => rfl) (by decide) (by decide) (by decide) (Nat.le_of_ble_eq_true rfl) (Nat.le_of_ble_eq_true rfl) dX8_init_127 ((mW_n (by decide) (by decide)).trans (hno 316 (by decide) (by decide))) (fun _ => wU_eq) (fun q => ?_)
  obtain ⟨b16, hb16⟩ : ∃ z, z = va_up b15 316 q := ⟨_, rfl⟩
  rw [← hb16]
  have kb16 : ∀ j, j ≠ 316 → b16 j = b15 j := fun j h => by rw [hb16]; exact zup_n h
  rw [← kb16 300 (by decide), ← mW_c (w := w) (b := b15) (b' := b16) (i := 15) (fun k hk => kb16 _ (by omega))]
  refine z_putF O rfl (fk := 15) (fun x h => zI x (zu_RX8 x h)) tyX8 tyX8_ok nmX8 rfl (by decide) (zI _ zm7_29) rfl rfl dX8_init_129 rfl rfl ((wU_n (by decide)).trans mW_0) (Nat.le_of_ble_eq_true rfl) (wU_eq) ?_
  refine zV.to (w' := mW w b16 16) (ls' := [(0, .ref (b16 300))]) (st' := []) ?_ ⟨rfl, trivial⟩ rfl (mW_s (i := 15) (by decide) rfl rfl rfl).symm
  refine z_aload_n O dX8_init_132 rfl ?_
  refine z_bipush O dX8_init_133 (v := 6) (by decide) ?_
  refine z_newa O (atype := .int) (w' := fun _ => wU (mW w b16 16) 317 (.inl (0, (6, .inl (fun _ => 0))))) 317 0 (by decide) (zI _ zm7_19) rfl (N := 6) (a0 := (6, .inl (fun _ => 0))) (fun _ => rfl) (by decide) (by decide) (by decide) (Nat.le_of_ble_eq_true rfl) (Nat.le_of_ble_eq_true rfl) dX8_init_135 ((mW_n (by decide) (by decide)).trans (hno 317 (by decide) (by decide))) (fun _ => wU_eq) (fun q => ?_)
  obtain ⟨b17, hb17⟩ : ∃ z, z = va_up b16 317 q := ⟨_, rfl⟩
  rw [← hb17]
  have kb17 : ∀ j, j ≠ 317 → b17 j = b16 j := fun j h => by rw [hb17]; exact zup_n h
  rw [← kb17 300 (by decide), ← mW_c (w := w) (b := b16) (b' := b17) (i := 16) (fun k hk => kb17 _ (by omega))]
  refine z_putF O rfl (fk := 16) (fun x h => zI x (zu_RX8 x h)) tyX8 tyX8_ok nmX8 rfl (by decide) (zI _ zm7_30) rfl rfl dX8_init_137 rfl rfl ((wU_n (by decide)).trans mW_0) (Nat.le_of_ble_eq_true rfl) (wU_eq) ?_
  refine zV.to (w' := mW w b17 17) (ls' := [(0, .ref (b17 300))]) (st' := []) ?_ ⟨rfl, trivial⟩ rfl (mW_s (i := 16) (by decide) rfl rfl rfl).symm
  refine z_aload_n O dX8_init_140 rfl ?_
  refine z_bipush O dX8_init_141 (v := 6) (by decide) ?_
  refine z_newa O (atype := .int) (w' := fun _ => wU (mW w b17 17) 318 (.inl (0, (6, .inl (fun _ => 0))))) 318 0 (by decide) (zI _ zm7_19) rfl (N := 6) (a0 := (6, .inl (fun _ => 0))) (fun _ => rfl) (by decide) (by decide) (by decide) (Nat.le_of_ble_eq_true rfl) (Nat.le_of_ble_eq_true rfl) dX8_init_143 ((mW_n (by decide) (by decide)).trans (hno 318 (by decide) (by decide))) (fun _ => wU_eq) (fun q => ?_)
  obtain ⟨b18, hb18⟩ : ∃ z, z = va_up b17 318 q := ⟨_, rfl⟩
  rw [← hb18]
  have kb18 : ∀ j, j ≠ 318 → b18 j = b17 j := fun j h => by rw [hb18]; exact zup_n h
  rw [← kb18 300 (by decide), ← mW_c (w := w) (b := b17) (b' := b18) (i := 17) (fun k hk => kb18 _ (by omega))]
  refine z_putF O rfl (fk := 17) (fun x h => zI x (zu_RX8 x h)) tyX8 tyX8_ok nmX8 rfl (by decide) (zI _ zm7_31) rfl rfl dX8_init_145 rfl rfl ((wU_n (by decide)).trans mW_0) (Nat.le_of_ble_eq_true rfl) (wU_eq) ?_
  refine zV.to (w' := mW w b18 18) (ls' := [(0, .ref (b18 300))]) (st' := []) ?_ ⟨rfl, trivial⟩ rfl (mW_s (i := 17) (by decide) rfl rfl rfl).symm
  refine z_aload_n O dX8_init_148 rfl ?_
  refine z_bipush O dX8_init_149 (v := 6) (by decide) ?_
  refine z_newa O (atype := .int) (w' := fun _ => wU (mW w b18 18) 319 (.inl (0, (6, .inl (fun _ => 0))))) 319 0 (by decide) (zI _ zm7_19) rfl (N := 6) (a0 := (6, .inl (fun _ => 0))) (fun _ => rfl) (by decide) (by decide) (by decide) (Nat.le_of_ble_eq_true rfl) (Nat.le_of_ble_eq_true rfl) dX8_init_151 ((mW_n (by decide) (by decide)).trans (hno 319 (by decide) (by decide))) (fun _ => wU_eq) (fun q => ?_)
  obtain ⟨b19, hb19⟩ : ∃ z, z = va_up b18 319 q := ⟨_, rfl⟩
  rw [← hb19]
  have kb19 : ∀ j, j ≠ 319 → b19 j = b18 j := fun j h => by rw [hb19]; exact zup_n h
  rw [← kb19 300 (by decide), ← mW_c (w := w) (b := b18) (b' := b19) (i := 18) (fun k hk => kb19 _ (by omega))]
  refine z_putF O rfl (fk := 18) (fun x h => zI x (zu_RX8 x h)) tyX8 tyX8_ok nmX8 rfl (by decide) (zI _ zm7_32) rfl rfl dX8_init_153 rfl rfl ((wU_n (by decide)).trans mW_0) (Nat.le_of_ble_eq_true rfl) (wU_eq) ?_
  refine zV.to (w' := mW w b19 19) (ls' := [(0, .ref (b19 300))]) (st' := []) ?_ ⟨rfl, trivial⟩ rfl (mW_s (i := 18) (by decide) rfl rfl rfl).symm
  refine z_aload_n O dX8_init_156 rfl ?_
  refine z_bipush O dX8_init_157 (v := 12) (by decide) ?_
  refine z_newa O (atype := .int) (w' := fun _ => wU (mW w b19 19) 320 (.inl (0, (12, .inl (fun _ => 0))))) 320 0 (by decide) (zI _ zm7_19) rfl (N := 12) (a0 := (12, .inl (fun _ => 0))) (fun _ => rfl) (by decide) (by decide) (by decide) (Nat.le_of_ble_eq_true rfl) (Nat.le_of_ble_eq_true rfl) dX8_init_159 ((mW_n (by decide) (by decide)).trans (hno 320 (by decide) (by decide))) (fun _ => wU_eq) (fun q => ?_)
  obtain ⟨b20, hb20⟩ : ∃ z, z = va_up b19 320 q := ⟨_, rfl⟩
  rw [← hb20]
  have kb20 : ∀ j, j ≠ 320 → b20 j = b19 j := fun j h => by rw [hb20]; exact zup_n h
  rw [← kb20 300 (by decide), ← mW_c (w := w) (b := b19) (b' := b20) (i := 19) (fun k hk => kb20 _ (by omega))]
  refine z_putF O rfl (fk := 19) (fun x h => zI x (zu_RX8 x h)) tyX8 tyX8_ok nmX8 rfl (by decide) (zI _ zm7_33) rfl rfl dX8_init_161 rfl rfl ((wU_n (by decide)).trans mW_0) (Nat.le_of_ble_eq_true rfl) (wU_eq) ?_
  refine zV.to (w' := mW w b20 20) (ls' := [(0, .ref (b20 300))]) (st' := []) ?_ ⟨rfl, trivial⟩ rfl (mW_s (i := 19) (by decide) rfl rfl rfl).symm
  refine z_aload_n O dX8_init_164 rfl ?_
  refine z_bipush O dX8_init_165 (v := 12) (by decide) ?_
  refine z_newa O (atype := .int) (w' := fun _ => wU (mW w b20 20) 321 (.inl (0, (12, .inl (fun _ => 0))))) 321 0 (by decide) (zI _ zm7_19) rfl (N := 12) (a0 := (12, .inl (fun _ => 0))) (fun _ => rfl) (by decide) (by decide) (by decide) (Nat.le_of_ble_eq_true rfl) (Nat.le_of_ble_eq_true rfl) dX8_init_167 ((mW_n (by decide) (by decide)).trans (hno 321 (by decide) (by decide))) (fun _ => wU_eq) (fun q => ?_)
  obtain ⟨b21, hb21⟩ : ∃ z, z = va_up b20 321 q := ⟨_, rfl⟩
  rw [← hb21]
  have kb21 : ∀ j, j ≠ 321 → b21 j = b20 j := fun j h => by rw [hb21]; exact zup_n h
  rw [← kb21 300 (by decide), ← mW_c (w := w) (b := b20) (b' := b21) (i := 20) (fun k hk => kb21 _ (by omega))]
  refine z_putF O rfl (fk := 20) (fun x h => zI x (zu_RX8 x h)) tyX8 tyX8_ok nmX8 rfl (by decide) (zI _ zm7_34) rfl rfl dX8_init_169 rfl rfl ((wU_n (by decide)).trans mW_0) (Nat.le_of_ble_eq_true rfl) (wU_eq) ?_
  refine zV.to (w' := mW w b21 21) (ls' := [(0, .ref (b21 300))]) (st' := []) ?_ ⟨rfl, trivial⟩ rfl (mW_s (i := 20) (by decide) rfl rfl rfl).symm
  refine z_aload_n O dX8_init_172 rfl ?_
  refine z_bipush O dX8_init_173 (v := 12) (by decide) ?_
  refine z_newa O (atype := .int) (w' := fun _ => wU (mW w b21 21) 322 (.inl (0, (12, .inl (fun _ => 0))))) 322 0 (by decide) (zI _ zm7_19) rfl (N := 12) (a0 := (12, .inl (fun _ => 0))) (fun _ => rfl) (by decide) (by decide) (by decide) (Nat.le_of_ble_eq_true rfl) (Nat.le_of_ble_eq_true rfl) dX8_init_175 ((mW_n (by decide) (by decide)).trans (hno 322 (by decide) (by decide))) (fun _ => wU_eq) (fun q => ?_)
  obtain ⟨b22, hb22⟩ : ∃ z, z = va_up b21 322 q := ⟨_, rfl⟩
  rw [← hb22]
  have kb22 : ∀ j, j ≠ 322 → b22 j = b21 j := fun j h => by rw [hb22]; exact zup_n h
  rw [← kb22 300 (by decide), ← mW_c (w := w) (b := b21) (b' := b22) (i := 21) (fun k hk => kb22 _ (by omega))]
  refine z_putF O rfl (fk := 21) (fun x h => zI x (zu_RX8 x h)) tyX8 tyX8_ok nmX8 rfl (by decide) (zI _ zm7_35) rfl rfl dX8_init_177 rfl rfl ((wU_n (by decide)).trans mW_0) (Nat.le_of_ble_eq_true rfl) (wU_eq) ?_
  refine zV.to (w' := mW w b22 22) (ls' := [(0, .ref (b22 300))]) (st' := []) ?_ ⟨rfl, trivial⟩ rfl (mW_s (i := 21) (by decide) rfl rfl rfl).symm
  refine z_aload_n O dX8_init_180 rfl ?_
  refine z_bipush O dX8_init_181 (v := 12) (by decide) ?_
  refine z_newa O (atype := .int) (w' := fun _ => wU (mW w b22 22) 323 (.inl (0, (12, .inl (fun _ => 0))))) 323 0 (by decide) (zI _ zm7_19) rfl (N := 12) (a0 := (12, .inl (fun _ => 0))) (fun _ => rfl) (by decide) (by decide) (by decide) (Nat.le_of_ble_eq_true rfl) (Nat.le_of_ble_eq_true rfl) dX8_init_183 ((mW_n (by decide) (by decide)).trans (hno 323 (by decide) (by decide))) (fun _ => wU_eq) (fun q => ?_)
  obtain ⟨b23, hb23⟩ : ∃ z, z = va_up b22 323 q := ⟨_, rfl⟩
  rw [← hb23]
  have kb23 : ∀ j, j ≠ 323 → b23 j = b22 j := fun j h => by rw [hb23]; exact zup_n h
  rw [← kb23 300 (by decide), ← mW_c (w := w) (b := b22) (b' := b23) (i := 22) (fun k hk => kb23 _ (by omega))]
  refine z_putF O rfl (fk := 22) (fun x h => zI x (zu_RX8 x h)) tyX8 tyX8_ok nmX8 rfl (by decide) (zI _ zm7_36) rfl rfl dX8_init_185 rfl rfl ((wU_n (by decide)).trans mW_0) (Nat.le_of_ble_eq_true rfl) (wU_eq) ?_
  refine zV.to (w' := mW w b23 23) (ls' := [(0, .ref (b23 300))]) (st' := []) ?_ ⟨rfl, trivial⟩ rfl (mW_s (i := 22) (by decide) rfl rfl rfl).symm
  refine z_aload_n O dX8_init_188 rfl ?_
  refine z_iconst O dX8_init_189 (v := 0) (by decide) ?_
  refine z_put O (fk := 23) (fun x h => zI x (zu_RX8 x h)) tyX8 tyX8_ok nmX8 rfl (by decide) (zI _ zm7_37) rfl dX8_init_190 rfl rfl (mW_0) (Nat.le_of_ble_eq_true rfl) (wU_eq) ?_
  refine z_aload_n O dX8_init_193 rfl ?_
  refine z_iconst O dX8_init_194 (v := 0) (by decide) ?_
  refine z_put O (fk := 24) (fun x h => zI x (zu_RX8 x h)) tyX8 tyX8_ok nmX8 rfl (by decide) (zI _ zm7_38) rfl dX8_init_195 rfl rfl (wU_s) (Nat.le_of_ble_eq_true rfl) (wU_eq) ?_
  refine z_aload_n O dX8_init_198 rfl ?_
  refine z_iconst O dX8_init_199 (v := 0) (by decide) ?_
  refine z_put O (fk := 25) (fun x h => zI x (zu_RX8 x h)) tyX8 tyX8_ok nmX8 rfl (by decide) (zI _ zm7_39) rfl dX8_init_200 rfl rfl (wU_s) (Nat.le_of_ble_eq_true rfl) (wU_eq) ?_
  refine z_aload_n O dX8_init_203 rfl ?_
  refine z_iconst O dX8_init_204 (v := 0) (by decide) ?_
  refine z_put O (fk := 26) (fun x h => zI x (zu_RX8 x h)) tyX8 tyX8_ok nmX8 rfl (by decide) (zI _ zm7_40) rfl dX8_init_205 rfl rfl (wU_s) (Nat.le_of_ble_eq_true rfl) (wU_eq) ?_
  refine z_aload_n O dX8_init_208 rfl ?_
  refine z_iconst O dX8_init_209 (v := 0) (by decide) ?_
  refine z_put O (fk := 27) (fun x h => zI x (zu_RX8 x h)) tyX8 tyX8_ok nmX8 rfl (by decide) (zI _ zm7_41) rfl dX8_init_210 rfl rfl (wU_s) (Nat.le_of_ble_eq_true rfl) (wU_eq) ?_
  refine z_aload_n O dX8_init_213 rfl ?_
  refine z_bipush O dX8_init_214 (v := 40) (by decide) ?_
  refine z_put O (fk := 28) (fun x h => zI x (zu_RX8 x h)) tyX8 tyX8_ok nmX8 rfl (by decide) (zI _ zm7_42) rfl dX8_init_216 rfl rfl (wU_s) (Nat.le_of_ble_eq_true rfl) (wU_eq) ?_
  refine z_aload_n O dX8_init_219 rfl ?_
  refine z_iconst O dX8_init_220 (v := 0) (by decide) ?_
  refine z_put O (fk := 29) (fun x h => zI x (zu_RX8 x h)) tyX8 tyX8_ok nmX8 rfl (by decide) (zI _ zm7_43) rfl dX8_init_221 rfl rfl (wU_s) (Nat.le_of_ble_eq_true rfl) (wU_eq) ?_
  refine z_aload_n O dX8_init_224 rfl ?_
  refine z_iconst O dX8_init_225 (v := 0) (by decide) ?_
  refine z_put O (fk := 30) (fun x h => zI x (zu_RX8 x h)) tyX8 tyX8_ok nmX8 rfl (by decide) (zI _ zm7_44) rfl dX8_init_226 rfl rfl (wU_s) (Nat.le_of_ble_eq_true rfl) (wU_eq) ?_
  refine z_aload_n O dX8_init_229 rfl ?_
  refine z_iconst O dX8_init_230 (v := 0) (by decide) ?_
  refine z_put O (fk := 31) (fun x h => zI x (zu_RX8 x h)) tyX8 tyX8_ok nmX8 rfl (by decide) (zI _ zm7_45) rfl dX8_init_231 rfl rfl (wU_s) (Nat.le_of_ble_eq_true rfl) (wU_eq) ?_
  refine z_aload_n O dX8_init_234 rfl ?_
  refine z_iconst O dX8_init_235 (v := 0) (by decide) ?_
  refine z_put O (fk := 32) (fun x h => zI x (zu_RX8 x h)) tyX8 tyX8_ok nmX8 rfl (by decide) (zI _ zm7_46) rfl dX8_init_236 rfl rfl (wU_s) (Nat.le_of_ble_eq_true rfl) (wU_eq) ?_
  refine z_aload_n O dX8_init_239 rfl ?_
  refine z_iconst O dX8_init_240 (v := 0) (by decide) ?_
  refine z_put O (fk := 33) (fun x h => zI x (zu_RX8 x h)) tyX8 tyX8_ok nmX8 rfl (by decide) (zI _ zm7_47) rfl dX8_init_241 rfl rfl (wU_s) (Nat.le_of_ble_eq_true rfl) (wU_eq) ?_
  refine z_aload_n O dX8_init_244 rfl ?_
  refine z_iconst O dX8_init_245 (v := 0) (by decide) ?_
  refine z_put O (fk := 34) (fun x h => zI x (zu_RX8 x h)) tyX8 tyX8_ok nmX8 rfl (by decide) (zI _ zm7_48) rfl dX8_init_246 rfl rfl (wU_s) (Nat.le_of_ble_eq_true rfl) (wU_eq) ?_
  refine z_aload_n O dX8_init_249 rfl ?_
  refine z_iconst O dX8_init_250 (v := 0) (by decide) ?_
  refine z_put O (fk := 35) (fun x h => zI x (zu_RX8 x h)) tyX8 tyX8_ok nmX8 rfl (by decide) (zI _ zm7_49) rfl dX8_init_251 rfl rfl (wU_s) (Nat.le_of_ble_eq_true rfl) (wU_eq) ?_
  refine z_aload_n O dX8_init_254 rfl ?_
  refine z_iconst O dX8_init_255 (v := 0) (by decide) ?_
  refine z_put O (fk := 36) (fun x h => zI x (zu_RX8 x h)) tyX8 tyX8_ok nmX8 rfl (by decide) (zI _ zm7_50) rfl dX8_init_256 rfl rfl (wU_s) (Nat.le_of_ble_eq_true rfl) (wU_eq) ?_
  refine z_iconst O dX8_init_259 (v := 0) (by decide) ?_
  refine z_istore_n O dX8_init_260 (by decide) ?_
  have hb : ∀ j, ¬ (301 ≤ j ∧ j < 324) → b23 j = ad j := fun j h => by rw [kb23 j (by omega), kb22 j (by omega), kb21 j (by omega), kb20 j (by omega), kb19 j (by omega), kb18 j (by omega), kb17 j (by omega), kb16 j (by omega), kb15 j (by omega), kb14 j (by omega), kb13 j (by omega), kb12 j (by omega), kb11 j (by omega), kb10 j (by omega), kb9 j (by omega), kb8 j (by omega), kb7 j (by omega), kb6 j (by omega), kb5 j (by omega), kb4 j (by omega), kb3 j (by omega), kb2 j (by omega), kb1 j (by omega)]
  refine zV.world (w' := zcut (zent Z sb mcn cp G.2.2.2.1 mY0 0 o od b23)) (ad' := b23) ?_ (fun H hR => hR.sim fun j x hj => ?_)
  · have L : ∀ (n : Nat) (i : Nat), i ≤ 80 → 80 < i + n → zV G X 2 23 864 261 [(0, .ref (b23 300)), (1, .int (nI i))] [] (zcut (zent Z sb mcn cp G.2.2.2.1 (fIter mEmp mY0 i) 0 o od b23)) b23 := by
      intro n
      induction n with
      | zero => intro i h1 h2; omega
      | succ n ih =>
        intro i h1 h2
        refine z_iload_n O dX8_init_261 rfl ?_
        refine z_bipush O dX8_init_262 (v := 80) (by decide) ?_
        refine z_icmp_ge O dX8_init_264 (tgt := 278) (by decide) (fun h => ?_) (fun h => ?_)
        · have hi : i = 80 := by have := z_ge_ge (b := 80) (by omega) (by decide) h; omega
          subst hi
          exact z_vret O dX8_init_278 (Nat.le_of_ble_eq_true rfl) (Nat.le_of_ble_eq_true rfl) (⟨b23, rfl, rfl, rfl, hb⟩)
        · have hi : i < 80 := z_ge_lt (b := 80) (by omega) (by decide) h
          refine z_aload_n O dX8_init_267 rfl ?_
          refine z_iload_n O dX8_init_268 rfl ?_
          refine z_callV O (c_X8_emptiesC hl hi) zI zm7_51 zm7_52 zm7_53 zm7_16 zm7_9 ⟨rfl, by decide +kernel, by decide +kernel, (show _ = some 1 by decide +kernel)⟩ rfl (zcut_g (by decide) zg_model) ⟨Nat.le_of_ble_eq_true rfl, Nat.le_of_ble_eq_true rfl⟩ ⟨Nat.le_of_ble_eq_true rfl, Nat.le_of_ble_eq_true rfl⟩ dX8_init_269 rfl (Nat.le_of_ble_eq_true rfl) (fun _ _ _ h => h.elim) (fun r w1 ad1 hp => ?_)
          obtain ⟨rfl, rfl, rfl⟩ := hp
          refine z_iincN O dX8_init_272 (a := i) rfl (by decide) ?_
          refine z_goto O dX8_init_275 (tgt := 261) (by decide) ?_
          exact zV.loc (ih (i + 1) (by omega) (by omega)) ⟨rfl, rfl, trivial⟩
    exact zV.loc (L 81 0 (by omega) (by omega)) ⟨rfl, rfl, trivial⟩
  · simp only [wU_wU]
    unfold zcut at hj
    by_cases j324 : j < 324
    · rw [if_pos j324] at hj
      by_cases j300 : j < 300
      · obtain ⟨e', h1, h2⟩ := hlo b23 hb j x j300 hj
        refine ⟨e', ?_, h2⟩
        rw [wU_n (by omega), mW_n (by omega) (by omega)]
        exact h1
      · refine ⟨x, ?_, zAl.rf⟩
        by_cases j0 : j = 300
        · subst j0
          rw [wU_s, ← hj]
          rfl
        · obtain ⟨k, rfl⟩ : ∃ k, j = 301 + k := ⟨j - 301, by omega⟩
          rw [zg_marr (by omega)] at hj
          rw [wU_n (by omega), ← hj]
          unfold mW
          rw [if_neg (by omega), if_pos (by omega), show 301 + k - 301 = k by omega]
          have : k ≠ 28 := by omega
          rw [show mY0 k = fun _ => 0 from funext fun _ => if_neg this]
    · rw [if_neg j324] at hj
      cases hj
