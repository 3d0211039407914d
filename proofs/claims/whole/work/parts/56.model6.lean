def mOK (Y : zM) : Prop := zHouse Y ∧ zCnt Y 2 ∧ (∀ k, zBol (Y 7 k)) ∧ (∀ k, k < 80 → Y 0 k = 104 → ∃ j, j < 12 ∧ Y 2 k = nI j) ∧ (∀ c, c < zN Y 2 → Y 19 c = nI (Y 19 c).toNatClampNeg ∧ (Y 19 c).toNatClampNeg < 6)
theorem zCnt.fr {Y Y' : zM} {i : Nat} (h : zCnt Y i) (e : Y' (25 + i) 0 = Y (25 + i) 0) : zCnt Y' i := by
  have hn : zN Y' i = zN Y i := by unfold zN; rw [e]
  unfold zCnt
  rw [hn, e]
  exact h
theorem mOK.fr {Y Y' : zM} (h : mOK Y) (hf : zFr Y Y') (h7 : ∀ k, zBol (Y' 7 k)) : mOK Y' := by
  obtain ⟨⟨nr, nc, a1, a2, a3, a4⟩, h2, -, h4, h5⟩ := h
  refine ⟨⟨nr, nc, by rw [hf 23 (by omega)]; exact a1, by rw [hf 24 (by omega)]; exact a2, a3, a4⟩, h2.fr (by rw [hf (25 + 2) (by omega)]), h7, fun k hk => ?_, fun c hc => ?_⟩
  · rw [hf 0 (by omega), hf 2 (by omega)]; exact h4 k hk
  · rw [hf 19 (by omega)]
    rw [show zN Y' 2 = zN Y 2 by unfold zN; rw [hf (25 + 2) (by omega)]] at hc
    exact h5 c hc
theorem zFr_quiet (Y : zM) (k : Nat) : zFr Y (mQuiet Y k) := (zFr.rf.zu (by decide)).zu (by decide)
theorem zFr_msits (Y : zM) (k : Nat) : zFr Y (mSits Y k) := by
  unfold mSits
  split
  · exact (zFr_quiet Y k).zu (by decide)
  · split
    · split
      · exact ((zFr_quiet Y k).zu (by decide)).zu (by decide)
      · exact ((zFr_quiet Y k).zu (by decide)).zu (by decide)
    · split
      · split
        · exact (((zFr_quiet Y k).zu (by decide)).zu (by decide)).zu (by decide)
        · exact (((zFr_quiet Y k).zu (by decide)).zu (by decide)).zu (by decide)
      · exact zFr_quiet Y k
theorem zFr_msi (Y : zM) : ∀ i, zFr Y (fIter mSits Y i)
  | 0 => zFr.rf
  | i + 1 => (zFr_msi Y i).tr (zFr_msits _ _)
theorem mQuiet_7 {Y : zM} {k : Nat} (h : ∀ b, zBol (Y 7 b)) : ∀ b, zBol (mQuiet Y k 7 b) := by
  intro b
  unfold mQuiet
  by_cases q : b = k
  · simpa [zu, q] using zBol_0
  · simpa [zu, q] using h b
theorem mSits_7 {Y : zM} {k : Nat} (h : ∀ b, zBol (Y 7 b)) : ∀ b, zBol (mSits Y k 7 b) := by
  intro b
  have hq := mQuiet_7 (k := k) h b
  unfold mSits
  split
  · rw [zu_f (by decide)]; exact hq
  · split
    · split
      · rw [zu_f (by decide)]
        by_cases q : b = k
        · rw [q, zu_s]; exact zBol_0
        · rw [zu_k q]; exact hq
      · rw [zu_f (by decide)]
        by_cases q : b = k
        · rw [q, zu_s]; exact zBol_1
        · rw [zu_k q]; exact hq
    · split
      · split
        · rw [zu_f (by decide), zu_f (by decide), zu_f (by decide)]; exact hq
        · rw [zu_f (by decide), zu_f (by decide), zu_f (by decide)]; exact hq
      · exact hq
theorem mSi_7 {Y : zM} (h : ∀ b, zBol (Y 7 b)) : ∀ i b, zBol (fIter mSits Y i 7 b)
  | 0 => h
  | i + 1 => mSits_7 (mSi_7 h i)
def mAfter (V : zM) : zM := zu (fJudge V (fNoisy V 112) (fNoisy V 104)) 29 0 (fJudge V (fNoisy V 112) (fNoisy V 104) 29 0 + 1)
def mHear (W : zM) : zM := if fSum (W 3) 80 < W 28 0 then zu W 30 0 0 else (if W 30 0 + 1 = 5 then mCall (zu (zu W 30 0 (W 30 0 + 1)) 30 0 0) else zu W 30 0 (W 30 0 + 1))
def mTick (Y : zM) : zM := mAfter (mHear (fIter mSits (fIter fKeep Y 80) 80))
theorem zFr_mcall (Y : zM) : zFr Y (mCall Y) := by
  unfold mCall
  generalize fLast Y (zN Y 2) = q
  cases q with
  | none => exact zFr.rf.zu (by decide)
  | some c => exact (zFr.rf.zu (by decide)).zu (by decide)
theorem zFr_mhear (W : zM) : zFr W (mHear W) := by
  unfold mHear
  split
  · exact zFr.rf.zu (by decide)
  · split
    · exact ((zFr.rf.zu (by decide)).zu (by decide)).tr (zFr_mcall _)
    · exact zFr.rf.zu (by decide)
theorem zFr_mafter (V : zM) : zFr V (mAfter V) := (zFr_judge _ _ _).zu (by decide)
theorem zFr_mtick (Y : zM) : zFr Y (mTick Y) := (((zFr_keep Y 80).tr (zFr_msi _ _)).tr (zFr_mhear _)).tr (zFr_mafter _)
theorem mCall_7 (Y : zM) (b : Nat) : mCall Y 7 b = Y 7 b := by
  unfold mCall
  generalize fLast Y (zN Y 2) = q
  cases q <;> simp [zu]
theorem mTick_7 {Y : zM} (h : ∀ b, zBol (Y 7 b)) : ∀ b, zBol (mTick Y 7 b) := by
  intro b
  have h9 := mSi_7 (Y := fIter fKeep Y 80) (fun b => by rw [fKeep_7]; exact h b) 80 b
  unfold mTick mAfter
  rw [zu_f (by decide)]
  have e : mHear (fIter mSits (fIter fKeep Y 80) 80) 7 b = fIter mSits (fIter fKeep Y 80) 80 7 b := by
    unfold mHear
    split
    · rw [zu_f (by decide)]
    · split
      · rw [mCall_7, zu_f (by decide), zu_f (by decide)]
      · rw [zu_f (by decide)]
  unfold fJudge
  split
  · rw [zu_f (by decide), e]; exact h9
  · rw [e]; exact h9
theorem mOK.tick {Y : zM} (h : mOK Y) : mOK (mTick Y) := h.fr (zFr_mtick Y) (mTick_7 h.2.2.1)
theorem zu_zu {Z : zM} {F k : Nat} {v v' : Int32} : zu (zu Z F k v) F k v' = zu Z F k v' := by
  funext f j
  unfold zu
  by_cases q : f = F ∧ j = k
  · rw [if_pos q, if_pos q]
  · rw [if_neg q, if_neg q, if_neg q]
set_option maxRecDepth 100000 in
set_option maxHeartbeats 4000000 in
theorem c_X8_goes {G : zG} {l : Launch} (hl : l.stackTraces = false) {Z : zM} {sb : Nat → Option Nat} {mcn : Nat → Int32} {cp : Nat → Nat} {Y : zM} {th : Int32} {o : Nat → Int64} {od : Nat → UInt64} {ad : Nat → Nat} (hok : mOK Y) : zCt G l yX8_goes (zws yX8_goes cX8_goes 3 none) ({ frames := 4, cells := 0, slots := 0, locals := 90 }) [.ref (ad 300)] (zent Z sb mcn cp G.2.2.2.1 Y th o od ad) ad (fun r w1 ad1 => none = r ∧ zent Z sb mcn cp G.2.2.2.1 (mTick Y) th o od ad = w1 ∧ ad = ad1) (zNoX) := by
  refine z_body hl (by decide +kernel) (Nat.le_of_ble_eq_true rfl) (fun X O => ?_)
  have hend : ∀ V, zCnt V 2 → mAfter V = mTick Y → zV G X 3 0 0 99 [(0, .ref (ad 300))] [] (zent Z sb mcn cp G.2.2.2.1 V th o od ad) ad := by
    intro V hv2 hV
    refine z_aload_n O dX8_goes_99 rfl ?_
    refine z_bipush O dX8_goes_100 (v := 112) (by decide) ?_
    refine z_callV O (c_X8_noisy hl) zI zm8_66 zm8_67 zm8_68 zm7_16 zm8_55 ⟨rfl, by decide +kernel, by decide +kernel, (show _ = some 1 by decide +kernel)⟩ rfl (zg_model) ⟨Nat.le_of_ble_eq_true rfl, Nat.le_of_ble_eq_true rfl⟩ ⟨Nat.le_of_ble_eq_true rfl, Nat.le_of_ble_eq_true rfl⟩ dX8_goes_102 rfl (Nat.le_of_ble_eq_true rfl) (fun _ _ _ h => h.elim) (fun r w1 ad1 hp => ?_)
    obtain ⟨rfl, rfl, rfl⟩ := hp
    refine z_aload_n O dX8_goes_105 rfl ?_
    refine z_bipush O dX8_goes_106 (v := 104) (by decide) ?_
    refine z_callV O (c_X8_noisy hl) zI zm8_66 zm8_67 zm8_68 zm7_16 zm8_55 ⟨rfl, by decide +kernel, by decide +kernel, (show _ = some 1 by decide +kernel)⟩ rfl (zg_model) ⟨Nat.le_of_ble_eq_true rfl, Nat.le_of_ble_eq_true rfl⟩ ⟨Nat.le_of_ble_eq_true rfl, Nat.le_of_ble_eq_true rfl⟩ dX8_goes_108 rfl (Nat.le_of_ble_eq_true rfl) (fun _ _ _ h => h.elim) (fun r w1 ad1 hp => ?_)
    obtain ⟨rfl, rfl, rfl⟩ := hp
    refine z_icmp_ge O dX8_goes_111 (tgt := 118) (by decide) (fun g => ?_) (fun g => ?_)
    · have L : ∀ (n : Nat) (i : Nat), i ≤ zN V 2 → zN V 2 < i + n → zV G X 3 0 0 122 [(0, .ref (ad 300)), (1, .int 0), (2, .int (nI i))] [] (zent Z sb mcn cp G.2.2.2.1 (zu V 33 0 (V 33 0)) th o od ad) ad := by
        intro n
        induction n with
        | zero => intro i h1 h2; omega
        | succ n ih =>
          intro i h1 h2
          refine z_iload_n O dX8_goes_122 rfl ?_
          refine z_aload_n O dX8_goes_123 rfl ?_
          refine z_get O (fk := 27) (v := .int (nI (zN V 2))) (fun x h => zI x (zu_RX8 x h)) rfl (by decide) (zI _ zm7_41) dX8_goes_124 (zg_model) (by show some (Value.int (V (25 + 2) 0)) = _; rw [hv2.1]) ?_
          refine z_icmp_ge O dX8_goes_127 (tgt := 176) (by decide) (fun h => ?_) (fun h => ?_)
          · have hi : i = zN V 2 := by have := z_ge_ge (by have := hv2.2; omega) (by have := hv2.2; omega) h; omega
            subst hi
            refine z_aload_n O dX8_goes_176 rfl ?_
            refine z_dup O dX8_goes_177 rfl ?_
            refine z_get O (fk := 29) (fun x h => zI x (zu_RX8 x h)) rfl (by decide) (zI _ zm7_43) dX8_goes_178 (zg_model) rfl ?_
            refine z_iconst O dX8_goes_181 (v := 1) (by decide) ?_
            refine z_iadd O dX8_goes_182 ?_
            refine z_put O (fk := 29) (fun x h => zI x (zu_RX8 x h)) tyX8 tyX8_ok nmX8 rfl (by decide) (zI _ zm7_43) rfl dX8_goes_183 rfl rfl (zg_model) (Nat.le_of_ble_eq_true rfl) (zp_model (F := 29) (by decide) rfl) ?_
            exact z_vret O dX8_goes_186 (Nat.le_of_ble_eq_true rfl) (Nat.le_of_ble_eq_true rfl) (⟨rfl, by rw [← hV]; unfold mAfter fJudge; rw [if_neg (show ¬ fNoisy V 112 < fNoisy V 104 from Int32.not_lt.mpr g), show zu V 33 0 (V 33 0) = V from zu_id rfl], rfl⟩)
          · have hi : i < zN V 2 := z_ge_lt (by have := hv2.2; omega) (by have := hv2.2; omega) h
            refine z_aload_n O dX8_goes_130 rfl ?_
            refine z_dup O dX8_goes_131 rfl ?_
            refine z_get O (fk := 33) (fun x h => zI x (zu_RX8 x h)) rfl (by decide) (zI _ zm7_47) dX8_goes_132 (zg_model) rfl ?_
            refine z_aload_n O dX8_goes_135 rfl ?_
            refine z_get O (fk := 20) (fun x h => zI x (zu_RX8 x h)) rfl (by decide) (zI _ zm7_34) dX8_goes_136 (zg_model) rfl ?_
            refine z_iload_n O dX8_goes_139 rfl ?_
            refine z_iald O dX8_goes_140 (zg_mI (i := 20) (n := 12) rfl rfl (by decide)) (i) (rfl) (by have := hv2.2; omega) (by decide) ?_
            refine z_aload_n O dX8_goes_141 rfl ?_
            refine z_get O (fk := 22) (fun x h => zI x (zu_RX8 x h)) rfl (by decide) (zI _ zm7_36) dX8_goes_142 (zg_model) rfl ?_
            refine z_iload_n O dX8_goes_145 rfl ?_
            refine z_iald O dX8_goes_146 (zg_mI (i := 22) (n := 12) rfl rfl (by decide)) (i) (rfl) (by have := hv2.2; omega) (by decide) ?_
            refine z_iadd O dX8_goes_147 ?_
            refine z_iconst O dX8_goes_148 (v := 1) (by decide) ?_
            refine z_isub O dX8_goes_149 ?_
            refine z_aload_n O dX8_goes_150 rfl ?_
            refine z_get O (fk := 29) (fun x h => zI x (zu_RX8 x h)) rfl (by decide) (zI _ zm7_43) dX8_goes_151 (zg_model) rfl ?_
            refine z_icmp_ne O dX8_goes_154 (tgt := 165) (by decide) (fun k => ?_) (fun k => ?_)
            · refine z_iconst O dX8_goes_165 (v := 0) (by decide) ?_
              refine z_iadd O dX8_goes_166 ?_
              refine z_put O (fk := 33) (fun x h => zI x (zu_RX8 x h)) tyX8 tyX8_ok nmX8 rfl (by decide) (zI _ zm7_47) rfl dX8_goes_167 rfl rfl (zg_model) (Nat.le_of_ble_eq_true rfl) (zp_model (F := 33) (by decide) rfl) ?_
              refine z_iincN O dX8_goes_170 (a := i) rfl (by decide) ?_
              refine z_goto O dX8_goes_173 (tgt := 122) (by decide) ?_
              refine zV.to (ih (i + 1) (by omega) (by omega)) ⟨rfl, rfl, rfl, trivial⟩ rfl ?_
              rw [zu_zu]
              rw [zu_s, Int32.add_zero]
            · refine z_iload_n O dX8_goes_157 rfl ?_
              refine z_if_eq O dX8_goes_158 (tgt := 165) (by decide) (fun _ => ?_) (fun q => absurd rfl q)
              refine z_iconst O dX8_goes_165 (v := 0) (by decide) ?_
              refine z_iadd O dX8_goes_166 ?_
              refine z_put O (fk := 33) (fun x h => zI x (zu_RX8 x h)) tyX8 tyX8_ok nmX8 rfl (by decide) (zI _ zm7_47) rfl dX8_goes_167 rfl rfl (zg_model) (Nat.le_of_ble_eq_true rfl) (zp_model (F := 33) (by decide) rfl) ?_
              refine z_iincN O dX8_goes_170 (a := i) rfl (by decide) ?_
              refine z_goto O dX8_goes_173 (tgt := 122) (by decide) ?_
              refine zV.to (ih (i + 1) (by omega) (by omega)) ⟨rfl, rfl, rfl, trivial⟩ rfl ?_
              rw [zu_zu]
              rw [zu_s, Int32.add_zero]
      refine z_iconst O dX8_goes_118 (v := 0) (by decide) ?_
      refine z_istore_n O dX8_goes_119 (by decide) ?_
      refine z_iconst O dX8_goes_120 (v := 0) (by decide) ?_
      refine z_istore_n O dX8_goes_121 (by decide) ?_
      exact zV.to (L (zN V 2 + 1) 0 (by omega) (by omega)) ⟨rfl, rfl, rfl, trivial⟩ rfl (by rw [show zu V 33 0 (V 33 0) = V from zu_id rfl])
    · have L : ∀ (n : Nat) (i : Nat), i ≤ zN V 2 → zN V 2 < i + n → zV G X 3 0 0 122 [(0, .ref (ad 300)), (1, .int 1), (2, .int (nI i))] [] (zent Z sb mcn cp G.2.2.2.1 (zu V 33 0 (fJ V i)) th o od ad) ad := by
        intro n
        induction n with
        | zero => intro i h1 h2; omega
        | succ n ih =>
          intro i h1 h2
          refine z_iload_n O dX8_goes_122 rfl ?_
          refine z_aload_n O dX8_goes_123 rfl ?_
          refine z_get O (fk := 27) (v := .int (nI (zN V 2))) (fun x h => zI x (zu_RX8 x h)) rfl (by decide) (zI _ zm7_41) dX8_goes_124 (zg_model) (by show some (Value.int (V (25 + 2) 0)) = _; rw [hv2.1]) ?_
          refine z_icmp_ge O dX8_goes_127 (tgt := 176) (by decide) (fun h => ?_) (fun h => ?_)
          · have hi : i = zN V 2 := by have := z_ge_ge (by have := hv2.2; omega) (by have := hv2.2; omega) h; omega
            subst hi
            refine z_aload_n O dX8_goes_176 rfl ?_
            refine z_dup O dX8_goes_177 rfl ?_
            refine z_get O (fk := 29) (fun x h => zI x (zu_RX8 x h)) rfl (by decide) (zI _ zm7_43) dX8_goes_178 (zg_model) rfl ?_
            refine z_iconst O dX8_goes_181 (v := 1) (by decide) ?_
            refine z_iadd O dX8_goes_182 ?_
            refine z_put O (fk := 29) (fun x h => zI x (zu_RX8 x h)) tyX8 tyX8_ok nmX8 rfl (by decide) (zI _ zm7_43) rfl dX8_goes_183 rfl rfl (zg_model) (Nat.le_of_ble_eq_true rfl) (zp_model (F := 29) (by decide) rfl) ?_
            exact z_vret O dX8_goes_186 (Nat.le_of_ble_eq_true rfl) (Nat.le_of_ble_eq_true rfl) (⟨rfl, by rw [← hV]; unfold mAfter fJudge; rw [if_pos (show fNoisy V 112 < fNoisy V 104 from Int32.not_le.mp g)]; try rfl, rfl⟩)
          · have hi : i < zN V 2 := z_ge_lt (by have := hv2.2; omega) (by have := hv2.2; omega) h
            refine z_aload_n O dX8_goes_130 rfl ?_
            refine z_dup O dX8_goes_131 rfl ?_
            refine z_get O (fk := 33) (fun x h => zI x (zu_RX8 x h)) rfl (by decide) (zI _ zm7_47) dX8_goes_132 (zg_model) rfl ?_
            refine z_aload_n O dX8_goes_135 rfl ?_
            refine z_get O (fk := 20) (fun x h => zI x (zu_RX8 x h)) rfl (by decide) (zI _ zm7_34) dX8_goes_136 (zg_model) rfl ?_
            refine z_iload_n O dX8_goes_139 rfl ?_
            refine z_iald O dX8_goes_140 (zg_mI (i := 20) (n := 12) rfl rfl (by decide)) (i) (rfl) (by have := hv2.2; omega) (by decide) ?_
            refine z_aload_n O dX8_goes_141 rfl ?_
            refine z_get O (fk := 22) (fun x h => zI x (zu_RX8 x h)) rfl (by decide) (zI _ zm7_36) dX8_goes_142 (zg_model) rfl ?_
            refine z_iload_n O dX8_goes_145 rfl ?_
            refine z_iald O dX8_goes_146 (zg_mI (i := 22) (n := 12) rfl rfl (by decide)) (i) (rfl) (by have := hv2.2; omega) (by decide) ?_
            refine z_iadd O dX8_goes_147 ?_
            refine z_iconst O dX8_goes_148 (v := 1) (by decide) ?_
            refine z_isub O dX8_goes_149 ?_
            refine z_aload_n O dX8_goes_150 rfl ?_
            refine z_get O (fk := 29) (fun x h => zI x (zu_RX8 x h)) rfl (by decide) (zI _ zm7_43) dX8_goes_151 (zg_model) rfl ?_
            refine z_icmp_ne O dX8_goes_154 (tgt := 165) (by decide) (fun k => ?_) (fun k => ?_)
            · refine z_iconst O dX8_goes_165 (v := 0) (by decide) ?_
              refine z_iadd O dX8_goes_166 ?_
              refine z_put O (fk := 33) (fun x h => zI x (zu_RX8 x h)) tyX8 tyX8_ok nmX8 rfl (by decide) (zI _ zm7_47) rfl dX8_goes_167 rfl rfl (zg_model) (Nat.le_of_ble_eq_true rfl) (zp_model (F := 33) (by decide) rfl) ?_
              refine z_iincN O dX8_goes_170 (a := i) rfl (by decide) ?_
              refine z_goto O dX8_goes_173 (tgt := 122) (by decide) ?_
              refine zV.to (ih (i + 1) (by omega) (by omega)) ⟨rfl, rfl, rfl, trivial⟩ rfl ?_
              rw [zu_zu]
              rw [show fJ V (i + 1) = fJ V i from if_neg k, zu_s, Int32.add_zero]
            · refine z_iload_n O dX8_goes_157 rfl ?_
              refine z_if_eq O dX8_goes_158 (tgt := 165) (by decide) (fun q => absurd q (by decide)) (fun _ => ?_)
              refine z_iconst O dX8_goes_161 (v := 1) (by decide) ?_
              refine z_goto O dX8_goes_162 (tgt := 166) (by decide) ?_
              refine z_iadd O dX8_goes_166 ?_
              refine z_put O (fk := 33) (fun x h => zI x (zu_RX8 x h)) tyX8 tyX8_ok nmX8 rfl (by decide) (zI _ zm7_47) rfl dX8_goes_167 rfl rfl (zg_model) (Nat.le_of_ble_eq_true rfl) (zp_model (F := 33) (by decide) rfl) ?_
              refine z_iincN O dX8_goes_170 (a := i) rfl (by decide) ?_
              refine z_goto O dX8_goes_173 (tgt := 122) (by decide) ?_
              refine zV.to (ih (i + 1) (by omega) (by omega)) ⟨rfl, rfl, rfl, trivial⟩ rfl ?_
              rw [zu_zu]
              rw [show fJ V (i + 1) = fJ V i + 1 from if_pos k, zu_s]
      refine z_iconst O dX8_goes_114 (v := 1) (by decide) ?_
      refine z_goto O dX8_goes_115 (tgt := 119) (by decide) ?_
      refine z_istore_n O dX8_goes_119 (by decide) ?_
      refine z_iconst O dX8_goes_120 (v := 0) (by decide) ?_
      refine z_istore_n O dX8_goes_121 (by decide) ?_
      exact zV.to (L (zN V 2 + 1) 0 (by omega) (by omega)) ⟨rfl, rfl, rfl, trivial⟩ rfl (by rw [show zu V 33 0 (fJ V 0) = V from zu_id rfl])
  have hokW : ∀ i, mOK (fIter mSits (fIter fKeep Y 80) i) := fun i => hok.fr ((zFr_keep Y 80).tr (zFr_msi _ i)) (mSi_7 (fun b => by rw [fKeep_7]; exact hok.2.2.1 b) i)
  have L2 : ∀ (n : Nat) (i : Nat), i ≤ 80 → 80 < i + n → zV G X 3 0 0 40 [(0, .ref (ad 300)), (1, .int (nI i))] [] (zent Z sb mcn cp G.2.2.2.1 (fIter mSits (fIter fKeep Y 80) i) th o od ad) ad := by
    intro n
    induction n with
    | zero => intro i h1 h2; omega
    | succ n ih =>
      intro i h1 h2
      refine z_iload_n O dX8_goes_40 rfl ?_
      refine z_bipush O dX8_goes_41 (v := 80) (by decide) ?_
      refine z_icmp_ge O dX8_goes_43 (tgt := 57) (by decide) (fun h => ?_) (fun h => ?_)
      · have hi : i = 80 := by have := z_ge_ge (b := 80) (by omega) (by decide) h; omega
        subst hi
        have hok2 := hokW 80
        obtain ⟨W, hW⟩ : ∃ z, z = (fIter mSits (fIter fKeep Y 80) 80) := ⟨_, rfl⟩
        rw [← hW] at hok2 ⊢
        refine z_aload_n O dX8_goes_57 rfl ?_
        refine z_aload_n O dX8_goes_58 rfl ?_
        refine z_callV O (c_X8_summed hl) zI zm8_60 zm8_61 zm8_62 zm7_16 zm8_56 ⟨rfl, by decide +kernel, by decide +kernel, (show _ = some 0 by decide +kernel)⟩ rfl (zg_model) ⟨Nat.le_of_ble_eq_true rfl, Nat.le_of_ble_eq_true rfl⟩ ⟨Nat.le_of_ble_eq_true rfl, Nat.le_of_ble_eq_true rfl⟩ dX8_goes_59 rfl (Nat.le_of_ble_eq_true rfl) (fun _ _ _ h => h.elim) (fun r w1 ad1 hp => ?_)
        obtain ⟨rfl, rfl, rfl⟩ := hp
        refine z_aload_n O dX8_goes_62 rfl ?_
        refine z_get O (fk := 28) (fun x h => zI x (zu_RX8 x h)) rfl (by decide) (zI _ zm7_42) dX8_goes_63 (zg_model) rfl ?_
        refine z_icmp_lt O dX8_goes_66 (tgt := 78) (by decide) (fun g => ?_) (fun g => ?_)
        · refine z_iconst O dX8_goes_78 (v := 0) (by decide) ?_
          refine z_put O (fk := 30) (fun x h => zI x (zu_RX8 x h)) tyX8 tyX8_ok nmX8 rfl (by decide) (zI _ zm7_44) rfl dX8_goes_79 rfl rfl (zg_model) (Nat.le_of_ble_eq_true rfl) (zp_model (F := 30) (by decide) rfl) ?_
          refine z_aload_n O dX8_goes_82 rfl ?_
          refine z_get O (fk := 30) (fun x h => zI x (zu_RX8 x h)) rfl (by decide) (zI _ zm7_44) dX8_goes_83 (zg_model) rfl ?_
          refine z_iconst O dX8_goes_86 (v := 5) (by decide) ?_
          refine z_icmp_ne O dX8_goes_87 (tgt := 99) (by decide) (fun _ => ?_) (fun q => absurd ((zu_s W 30 0 0).symm.trans q) (by decide))
          exact zV.loc (hend _ (hok2.2.1.fr rfl) (by unfold mTick; rw [← hW]; unfold mHear; rw [if_pos g])) ⟨rfl, trivial⟩
        · refine z_aload_n O dX8_goes_69 rfl ?_
          refine z_get O (fk := 30) (fun x h => zI x (zu_RX8 x h)) rfl (by decide) (zI _ zm7_44) dX8_goes_70 (zg_model) rfl ?_
          refine z_iconst O dX8_goes_73 (v := 1) (by decide) ?_
          refine z_iadd O dX8_goes_74 ?_
          refine z_goto O dX8_goes_75 (tgt := 79) (by decide) ?_
          refine z_put O (fk := 30) (fun x h => zI x (zu_RX8 x h)) tyX8 tyX8_ok nmX8 rfl (by decide) (zI _ zm7_44) rfl dX8_goes_79 rfl rfl (zg_model) (Nat.le_of_ble_eq_true rfl) (zp_model (F := 30) (by decide) rfl) ?_
          refine z_aload_n O dX8_goes_82 rfl ?_
          refine z_get O (fk := 30) (fun x h => zI x (zu_RX8 x h)) rfl (by decide) (zI _ zm7_44) dX8_goes_83 (zg_model) rfl ?_
          refine z_iconst O dX8_goes_86 (v := 5) (by decide) ?_
          refine z_icmp_ne O dX8_goes_87 (tgt := 99) (by decide) (fun g2 => ?_) (fun g2 => ?_)
          · exact zV.loc (hend _ (hok2.2.1.fr rfl) (by unfold mTick; rw [← hW]; unfold mHear; rw [if_neg g, if_neg (show ¬ W 30 0 + 1 = 5 from g2)])) ⟨rfl, trivial⟩
          · refine z_aload_n O dX8_goes_90 rfl ?_
            refine z_iconst O dX8_goes_91 (v := 0) (by decide) ?_
            refine z_put O (fk := 30) (fun x h => zI x (zu_RX8 x h)) tyX8 tyX8_ok nmX8 rfl (by decide) (zI _ zm7_44) rfl dX8_goes_92 rfl rfl (zg_model) (Nat.le_of_ble_eq_true rfl) (zp_model (F := 30) (by decide) rfl) ?_
            refine z_aload_n O dX8_goes_95 rfl ?_
            refine z_callV O (c_X8_calling hl (hok2.2.1.fr rfl) hok2.2.2.2.2) zI zm8_63 zm8_64 zm8_65 zm7_16 zm8_54 ⟨rfl, by decide +kernel, by decide +kernel, (show _ = some 0 by decide +kernel)⟩ rfl (zg_model) ⟨Nat.le_of_ble_eq_true rfl, Nat.le_of_ble_eq_true rfl⟩ ⟨Nat.le_of_ble_eq_true rfl, Nat.le_of_ble_eq_true rfl⟩ dX8_goes_96 rfl (Nat.le_of_ble_eq_true rfl) (fun _ _ _ h => h.elim) (fun r w1 ad1 hp => ?_)
            obtain ⟨rfl, rfl, rfl⟩ := hp
            exact zV.loc (hend _ (hok2.2.1.fr (by rw [zFr_mcall _ (25 + 2) (by omega)]; rfl)) (by unfold mTick; rw [← hW]; unfold mHear; rw [if_neg g, if_pos (show W 30 0 + 1 = 5 from g2)])) ⟨rfl, trivial⟩
      · have hi : i < 80 := z_ge_lt (b := 80) (by omega) (by decide) h
        refine z_aload_n O dX8_goes_46 rfl ?_
        refine z_iload_n O dX8_goes_47 rfl ?_
        refine z_callV O (c_X8_sits hl (hokW i).1 (hokW i).2.1 hi ((hokW i).2.2.2.1 i hi)) zI zm8_57 zm8_58 zm8_59 zm7_16 zm8_53 ⟨rfl, by decide +kernel, by decide +kernel, (show _ = some 1 by decide +kernel)⟩ rfl (zg_model) ⟨Nat.le_of_ble_eq_true rfl, Nat.le_of_ble_eq_true rfl⟩ ⟨Nat.le_of_ble_eq_true rfl, Nat.le_of_ble_eq_true rfl⟩ dX8_goes_48 rfl (Nat.le_of_ble_eq_true rfl) (fun _ _ _ h => h.elim) (fun r w1 ad1 hp => ?_)
        obtain ⟨rfl, rfl, rfl⟩ := hp
        refine z_iincN O dX8_goes_51 (a := i) rfl (by decide) ?_
        refine z_goto O dX8_goes_54 (tgt := 40) (by decide) ?_
        exact zV.loc (ih (i + 1) (by omega) (by omega)) ⟨rfl, rfl, trivial⟩
  have L1 : ∀ (n : Nat) (i : Nat), i ≤ 80 → 80 < i + n → zV G X 3 0 0 2 [(0, .ref (ad 300)), (1, .int (nI i))] [] (zent Z sb mcn cp G.2.2.2.1 (fIter fKeep Y i) th o od ad) ad := by
    intro n
    induction n with
    | zero => intro i h1 h2; omega
    | succ n ih =>
      intro i h1 h2
      refine z_iload_n O dX8_goes_2 rfl ?_
      refine z_bipush O dX8_goes_3 (v := 80) (by decide) ?_
      refine z_icmp_ge O dX8_goes_5 (tgt := 38) (by decide) (fun h => ?_) (fun h => ?_)
      · have hi : i = 80 := by have := z_ge_ge (b := 80) (by omega) (by decide) h; omega
        subst hi
        refine z_iconst O dX8_goes_38 (v := 0) (by decide) ?_
        refine z_istore_n O dX8_goes_39 (by decide) ?_
        exact zV.loc (L2 81 0 (by omega) (by omega)) ⟨rfl, rfl, trivial⟩
      · have hi : i < 80 := z_ge_lt (b := 80) (by omega) (by decide) h
        have hb9 : zBol (fIter fKeep Y i 7 i) := by rw [fKeep_7]; exact hok.2.2.1 i
        refine z_aload_n O dX8_goes_8 rfl ?_
        refine z_get O (fk := 5) (fun x h => zI x (zu_RX8 x h)) rfl (by decide) (zI _ zm7_20) dX8_goes_9 (zg_model) rfl ?_
        refine z_iload_n O dX8_goes_12 rfl ?_
        refine z_aload_n O dX8_goes_13 rfl ?_
        refine z_get O (fk := 3) (fun x h => zI x (zu_RX8 x h)) rfl (by decide) (zI _ zm7_5) dX8_goes_14 (zg_model) rfl ?_
        refine z_iload_n O dX8_goes_17 rfl ?_
        refine z_iald O dX8_goes_18 (zg_mI (i := 3) (n := 80) rfl rfl (by decide)) (i) (rfl) (hi) (by decide) ?_
        refine z_iast O dX8_goes_19 (zg_mI (i := 5) (n := 80) rfl rfl (by decide)) (i) (rfl) (hi) (by decide) (zp_mI (i := 5) (n := 80) rfl rfl (by decide)) ?_
        refine z_aload_n O dX8_goes_20 rfl ?_
        refine z_get O (fk := 8) (fun x h => zI x (zu_RX8 x h)) rfl (by decide) (zI _ zm7_22) dX8_goes_21 (zg_model) rfl ?_
        refine z_iload_n O dX8_goes_24 rfl ?_
        refine z_aload_n O dX8_goes_25 rfl ?_
        refine z_get O (fk := 7) (fun x h => zI x (zu_RX8 x h)) rfl (by decide) (zI _ zm7_8) dX8_goes_26 (zg_model) rfl ?_
        refine z_iload_n O dX8_goes_29 rfl ?_
        refine z_zald O dX8_goes_30 (zg_mZ (i := 7) (n := 80) rfl rfl (by decide)) (i) (rfl) (hi) (by decide) ?_
        refine z_zast O dX8_goes_31 (zg_mZ (i := 8) (n := 80) rfl rfl (by decide)) (i) (rfl) (hi) (by decide) (hb9.1) (zp_mZ (i := 8) (n := 80) rfl rfl (by decide)) ?_
        refine z_iincN O dX8_goes_32 (a := i) rfl (by decide) ?_
        refine z_goto O dX8_goes_35 (tgt := 2) (by decide) ?_
        exact zV.loc (ih (i + 1) (by omega) (by omega)) ⟨rfl, rfl, trivial⟩
  refine z_iconst O dX8_goes_0 (v := 0) (by decide) ?_
  refine z_istore_n O dX8_goes_1 (by decide) ?_
  exact zV.loc (L1 81 0 (by omega) (by omega)) ⟨rfl, rfl, trivial⟩

def mRun (Y : zM) : Nat → zM
  | 0 => Y
  | i + 1 => mTick (mRun Y i)
theorem mRun_ok {Y : zM} (h : mOK Y) : ∀ i, mOK (mRun Y i)
  | 0 => h
  | i + 1 => (mRun_ok h i).tick
set_option maxRecDepth 100000 in
set_option maxHeartbeats 4000000 in
theorem c_X8_run {G : zG} {l : Launch} (hl : l.stackTraces = false) {Z : zM} {sb : Nat → Option Nat} {mcn : Nat → Int32} {cp : Nat → Nat} {Y : zM} {th : Int32} {o : Nat → Int64} {od : Nat → UInt64} {ad : Nat → Nat} (hok : mOK Y) {x : Int32} : zCt G l yX8_run (zws yX8_run cX8_run 3 (some .int)) ({ frames := 5, cells := 0, slots := 0, locals := 112 }) [.ref (ad 300), .int x] (zent Z sb mcn cp G.2.2.2.1 Y th o od ad) ad (fun r w1 ad1 => (kRun Y x = 0 ∧ some (.int (mRun Y x.toNatClampNeg 29 0)) = r ∧ zent Z sb mcn cp G.2.2.2.1 (mRun Y x.toNatClampNeg) 0 o od ad = w1 ∧ ad = ad1) ∨ (kRun Y x ≠ 0 ∧ (∃ v, some (.int v) = r) ∧ zent Z sb mcn cp G.2.2.2.1 Y (nI (kRun Y x)) o od ad = w1 ∧ ad = ad1)) (zNoX) := by
  refine z_body hl (by decide +kernel) (Nat.le_of_ble_eq_true rfl) (fun X O => ?_)
  refine z_iload_n O dX8_run_0 rfl ?_
  refine z_iconst O dX8_run_1 (v := 1) (by decide) ?_
  refine z_bipush O dX8_run_2 (v := 100) (by decide) ?_
  refine z_callS O (c_X8_in hl) zI zm7_65 zm7_66 zm7_16 zm7_56 ⟨by decide +kernel, by decide +kernel, (show _ = some 3 by decide +kernel)⟩ ⟨Nat.le_of_ble_eq_true rfl, Nat.le_of_ble_eq_true rfl⟩ ⟨Nat.le_of_ble_eq_true rfl, Nat.le_of_ble_eq_true rfl⟩ dX8_run_4 rfl (Nat.le_of_ble_eq_true rfl) (fun _ _ _ h => h.elim) (fun r w1 ad1 hp => ?_)
  rcases hp with ⟨rfl, hb, rfl, rfl⟩ | ⟨rfl, hb, rfl, rfl⟩
  · refine z_if_ne O dX8_run_7 (tgt := 16) (by decide) (fun _ => ?_) (fun q => absurd q (by decide))
    obtain ⟨t, rfl, ht⟩ := fR_nat (b := 100) (by decide) hb
    rw [nI_clamp (by omega)] at O
    refine z_aload_n O dX8_run_16 rfl ?_
    refine z_get O (fk := 23) (fun x h => zI x (zu_RX8 x h)) rfl (by decide) (zI _ zm7_37) dX8_run_17 (zg_model) rfl ?_
    refine z_if_ne O dX8_run_20 (tgt := 29) (by decide) (fun g => ?_) (fun g => ?_)
    · have L : ∀ (n : Nat) (i : Nat), i ≤ t → t < i + n → zV G X 3 0 0 31 [(0, .ref (ad 300)), (1, .int (nI t)), (2, .int (nI i))] [] (zent Z sb mcn cp G.2.2.2.1 (mRun Y i) th o od ad) ad := by
        intro n
        induction n with
        | zero => intro i h1 h2; omega
        | succ n ih =>
          intro i h1 h2
          refine z_iload_n O dX8_run_31 rfl ?_
          refine z_iload_n O dX8_run_32 rfl ?_
          refine z_icmp_ge O dX8_run_33 (tgt := 46) (by decide) (fun h => ?_) (fun h => ?_)
          · have hi : i = t := by have := z_ge_ge (by omega) (by omega) h; omega
            subst hi
            refine z_aload_n O dX8_run_46 rfl ?_
            refine z_aload_n O dX8_run_47 rfl ?_
            refine z_get O (fk := 29) (fun x h => zI x (zu_RX8 x h)) rfl (by decide) (zI _ zm7_43) dX8_run_48 (zg_model) rfl ?_
            refine z_callV O (c_X8_tells hl) zI zm8_6 zm8_7 zm8_8 zm7_16 zm7_61 ⟨rfl, by decide +kernel, by decide +kernel, (show _ = some 1 by decide +kernel)⟩ rfl (zg_model) ⟨Nat.le_of_ble_eq_true rfl, Nat.le_of_ble_eq_true rfl⟩ ⟨Nat.le_of_ble_eq_true rfl, Nat.le_of_ble_eq_true rfl⟩ dX8_run_51 rfl (Nat.le_of_ble_eq_true rfl) (fun _ _ _ h => h.elim) (fun r w1 ad1 hp => ?_)
            obtain ⟨rfl, rfl, rfl⟩ := hp
            exact z_iret O dX8_run_54 (Nat.le_of_ble_eq_true rfl) (Nat.le_of_ble_eq_true rfl) (Or.inl ⟨by unfold kRun; rw [if_neg (fun q => q hb), if_neg g], rfl, rfl, rfl⟩)
          · have hi : i < t := z_ge_lt (by omega) (by omega) h
            refine z_aload_n O dX8_run_36 rfl ?_
            refine z_callV O (c_X8_goes hl (mRun_ok hok i)) zI zm9_0 zm9_1 zm9_2 zm7_16 zm8_69 ⟨rfl, by decide +kernel, by decide +kernel, (show _ = some 0 by decide +kernel)⟩ rfl (zg_model) ⟨Nat.le_of_ble_eq_true rfl, Nat.le_of_ble_eq_true rfl⟩ ⟨Nat.le_of_ble_eq_true rfl, Nat.le_of_ble_eq_true rfl⟩ dX8_run_37 rfl (Nat.le_of_ble_eq_true rfl) (fun _ _ _ h => h.elim) (fun r w1 ad1 hp => ?_)
            obtain ⟨rfl, rfl, rfl⟩ := hp
            refine z_iincN O dX8_run_40 (a := i) rfl (by decide) ?_
            refine z_goto O dX8_run_43 (tgt := 31) (by decide) ?_
            exact zV.loc (ih (i + 1) (by omega) (by omega)) ⟨rfl, rfl, rfl, trivial⟩
      refine z_iconst O dX8_run_29 (v := 0) (by decide) ?_
      refine z_istore_n O dX8_run_30 (by decide) ?_
      exact zV.loc (L (t + 1) 0 (by omega) (by omega)) ⟨rfl, rfl, rfl, trivial⟩
    · refine z_aload_n O dX8_run_23 rfl ?_
      refine z_iconst O dX8_run_24 (v := 2) (by decide) ?_
      refine z_callV O (c_X8_fails hl) zI zm8_0 zm8_1 zm8_2 zm7_16 zm7_59 ⟨rfl, by decide +kernel, by decide +kernel, (show _ = some 1 by decide +kernel)⟩ rfl (zg_model) ⟨Nat.le_of_ble_eq_true rfl, Nat.le_of_ble_eq_true rfl⟩ ⟨Nat.le_of_ble_eq_true rfl, Nat.le_of_ble_eq_true rfl⟩ dX8_run_25 rfl (Nat.le_of_ble_eq_true rfl) (fun _ _ _ h => h.elim) (fun r w1 ad1 hp => ?_)
      obtain ⟨rfl, rfl, rfl⟩ := hp
      exact z_iret O dX8_run_28 (Nat.le_of_ble_eq_true rfl) (Nat.le_of_ble_eq_true rfl) (Or.inr ⟨by unfold kRun; rw [if_neg (fun q => q hb), if_pos g]; decide, ⟨_, rfl⟩, by unfold kRun; rw [if_neg (fun q => q hb), if_pos g]; rfl, rfl⟩)
  · refine z_if_ne O dX8_run_7 (tgt := 16) (by decide) (fun q => absurd rfl q) (fun _ => ?_)
    refine z_aload_n O dX8_run_10 rfl ?_
    refine z_iconst O dX8_run_11 (v := 1) (by decide) ?_
    refine z_callV O (c_X8_fails hl) zI zm8_0 zm8_1 zm8_2 zm7_16 zm7_59 ⟨rfl, by decide +kernel, by decide +kernel, (show _ = some 1 by decide +kernel)⟩ rfl (zg_model) ⟨Nat.le_of_ble_eq_true rfl, Nat.le_of_ble_eq_true rfl⟩ ⟨Nat.le_of_ble_eq_true rfl, Nat.le_of_ble_eq_true rfl⟩ dX8_run_12 rfl (Nat.le_of_ble_eq_true rfl) (fun _ _ _ h => h.elim) (fun r w1 ad1 hp => ?_)
    obtain ⟨rfl, rfl, rfl⟩ := hp
    exact z_iret O dX8_run_15 (Nat.le_of_ble_eq_true rfl) (Nat.le_of_ble_eq_true rfl) (Or.inr ⟨by unfold kRun; rw [if_pos hb]; decide, ⟨_, rfl⟩, by unfold kRun; rw [if_pos hb]; rfl, rfl⟩)
