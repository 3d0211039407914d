def fForce (Z : zM) (j : Nat) : Nat → Int32
  | 0 => 0
  | c + 1 => if fOn Z c (Z 29 0) ∧ fFollows Z j c then fMax (fForce Z j c) (Z 21 c) else fForce Z j c
def fNoise (Z : zM) (j : Nat) : Int32 := if Z 33 0 < 3 then fMin 9 (Z 11 j * fForce Z j (zN Z 2)) else 0
def fLast (Z : zM) : Nat → Option Nat
  | 0 => none
  | c + 1 => if Z 20 c ≤ Z 29 0 then (match fLast Z c with | none => some c | some b => if Z 20 c < Z 20 b then some b else some c) else fLast Z c
theorem fLast_lt {Z : zM} : ∀ {n b : Nat}, fLast Z n = some b → b < n
  | 0, _, h => by cases h
  | n + 1, b, h => by
    unfold fLast at h
    by_cases q : Z 20 n ≤ Z 29 0
    · rw [if_pos q] at h
      cases hb : fLast Z n with
      | none => rw [hb] at h; cases h; omega
      | some d =>
        rw [hb] at h
        have := fLast_lt hb
        dsimp only at h
        by_cases q2 : Z 20 n < Z 20 d
        · rw [if_pos q2] at h; cases h; omega
        · rw [if_neg q2] at h; cases h; omega
    · rw [if_neg q] at h
      have := fLast_lt h
      omega
def fCalled (Z : zM) : zM := match fLast Z (zN Z 2) with
  | none => Z
  | some c => zu Z 18 (Z 19 c).toNatClampNeg (Z 18 (Z 19 c).toNatClampNeg + 1)
def fHear (Z : zM) (s : Int32) : zM := if s < Z 28 0 then zu Z 30 0 0 else if Z 30 0 + 1 < 5 then zu Z 30 0 (Z 30 0 + 1) else fCalled (zu (zu (zu Z 30 0 (Z 30 0 + 1)) 30 0 0) 31 0 (Z 31 0 + 1))
def fJ (Z : zM) : Nat → Int32
  | 0 => Z 33 0
  | c + 1 => if fLastTick Z c = Z 29 0 then fJ Z c + 1 else fJ Z c
def fJudge (Z : zM) (p h : Int32) : zM := if p < h then zu Z 33 0 (fJ Z (zN Z 2)) else Z
def fSang (Z : zM) (k : Nat) : Nat → Bool
  | 0 => false
  | c + 1 => fSang Z k c || (decide ((Z 19 c).toNatClampNeg = k) && decide (Z 20 c < Z 29 0))
set_option maxRecDepth 100000 in
set_option maxHeartbeats 4000000 in
theorem c_X1_handsAreFoundOut {G : zG} {l : Launch} (hl : l.stackTraces = false) {Z : zM} {sb : Nat → Option Nat} {mcn : Nat → Int32} {cp : Nat → Nat} {Y : zM} {th : Int32} {o : Nat → Int64} {od : Nat → UInt64} {ad : Nat → Nat} : zCt G l yX1_handsAreFoundOut (zws yX1_handsAreFoundOut cX1_handsAreFoundOut 1 (some .boolean)) ({ frames := 0, cells := 0, slots := 0, locals := 0 }) [.ref (ad 4)] (zent Z sb mcn cp G.2.2.2.1 Y th o od ad) ad (fun r w1 ad1 => (some (.int 1) = r ∧ ¬ Z 33 0 < 3 ∧ zent Z sb mcn cp G.2.2.2.1 Y th o od ad = w1 ∧ ad = ad1) ∨ (some (.int 0) = r ∧ Z 33 0 < 3 ∧ zent Z sb mcn cp G.2.2.2.1 Y th o od ad = w1 ∧ ad = ad1)) (zNoX) := by
  refine z_body hl (by decide +kernel) (Nat.le_of_ble_eq_true rfl) (fun X O => ?_)
  refine z_aload_n O dX1_handsAreFoundOut_0 rfl ?_
  refine z_get O (fk := 6) (fun x h => zI x (zu_RX1 x h)) rfl (by decide) (zI _ zm0_38) dX1_handsAreFoundOut_1 (zg_ev) rfl ?_
  refine z_iconst O dX1_handsAreFoundOut_4 (v := 3) (by decide) ?_
  refine z_icmp_lt O dX1_handsAreFoundOut_5 (tgt := 12) (by decide) (fun h => ?_) (fun h => ?_)
  · refine z_iconst O dX1_handsAreFoundOut_12 (v := 0) (by decide) ?_
    exact z_zret O rfl rfl dX1_handsAreFoundOut_13 (Nat.le_of_ble_eq_true rfl) (Nat.le_of_ble_eq_true rfl) (Or.inr ⟨rfl, h, rfl, rfl⟩)
  · refine z_iconst O dX1_handsAreFoundOut_8 (v := 1) (by decide) ?_
    refine z_goto O dX1_handsAreFoundOut_9 (tgt := 13) (by decide) ?_
    exact z_zret O rfl rfl dX1_handsAreFoundOut_13 (Nat.le_of_ble_eq_true rfl) (Nat.le_of_ble_eq_true rfl) (Or.inl ⟨rfl, h, rfl, rfl⟩)

set_option maxRecDepth 100000 in
set_option maxHeartbeats 4000000 in
theorem c_X1_noiseOf {G : zG} {l : Launch} (hl : l.stackTraces = false) {Z : zM} {sb : Nat → Option Nat} {mcn : Nat → Int32} {cp : Nat → Nat} {Y : zM} {th : Int32} {o : Nat → Int64} {od : Nat → UInt64} {ad : Nat → Nat} (hL2 : zLst Z cp 2) {j : Nat} (hj : j < zN Z 0) (hj2 : j < 20) : zCt G l yX1_noiseOf (zws yX1_noiseOf cX1_noiseOf 5 (some .int)) ({ frames := 3, cells := 0, slots := 0, locals := 64 }) [.ref (ad 4), .ref (ad (200 + j))] (zent Z sb mcn cp G.2.2.2.1 Y th o od ad) ad (fun r w1 ad1 => some (.int (fNoise Z j)) = r ∧ zent Z sb mcn cp G.2.2.2.1 Y th o od ad = w1 ∧ ad = ad1) (zNoX) := by
  refine z_body hl (by decide +kernel) (Nat.le_of_ble_eq_true rfl) (fun X O => ?_)
  refine z_aload_n O dX1_noiseOf_0 rfl ?_
  refine z_callV O (c_X1_handsAreFoundOut hl) zI zm1_41 zm1_42 zm1_43 zm1_44 zm0_50 ⟨rfl, by decide +kernel, by decide +kernel, (show _ = some 0 by decide +kernel)⟩ rfl (zg_ev) ⟨Nat.le_of_ble_eq_true rfl, Nat.le_of_ble_eq_true rfl⟩ ⟨Nat.le_of_ble_eq_true rfl, Nat.le_of_ble_eq_true rfl⟩ dX1_noiseOf_1 rfl (Nat.le_of_ble_eq_true rfl) (fun _ _ _ h => h.elim) (fun r w1 ad1 hp => ?_)
  rcases hp with ⟨rfl, hf, rfl, rfl⟩ | ⟨rfl, hf, rfl, rfl⟩
  · refine z_if_eq O dX1_noiseOf_4 (tgt := 9) (by decide) (fun g => absurd g (by decide)) (fun _ => ?_)
    refine z_iconst O dX1_noiseOf_7 (v := 0) (by decide) ?_
    exact z_iret O dX1_noiseOf_8 (Nat.le_of_ble_eq_true rfl) (Nat.le_of_ble_eq_true rfl) (⟨by unfold fNoise; rw [if_neg hf], rfl, rfl⟩)
  · refine z_if_eq O dX1_noiseOf_4 (tgt := 9) (by decide) (fun _ => ?_) (fun g => absurd rfl g)
    have L : ∀ (n : Nat) (i : Nat) (acc : Int32), i ≤ zN Z 2 → zN Z 2 < i + n → acc = fForce Z j i → zV G X 5 0 0 13 [(0, .ref (ad 4)), (1, .ref (ad (200 + j))), (2, .int acc), (3, .int (nI i))] [] (zent Z sb mcn cp G.2.2.2.1 Y th o od ad) ad := by
      intro n
      induction n with
      | zero => intro i acc h1 h2 hacc; omega
      | succ n ih =>
        intro i acc h1 h2 hacc
        refine z_iload_n O dX1_noiseOf_13 rfl ?_
        refine z_aload_n O dX1_noiseOf_14 rfl ?_
        refine z_get O (fk := 0) (fun x h => zI x (zu_RX1 x h)) rfl (by decide) (zI _ zm0_32) dX1_noiseOf_15 (zg_ev) rfl ?_
        refine z_callV O (c_size_l hl (i := 2) (by decide) hL2) zI zm1_45 zm1_46 zm1_47 zm0_31 zm1_19 ⟨rfl, by decide +kernel, by decide +kernel, (show _ = some 0 by decide +kernel)⟩ rfl ((zg_list0 (i := 2) (by decide) hL2)) ⟨Nat.le_of_ble_eq_true rfl, Nat.le_of_ble_eq_true rfl⟩ ⟨Nat.le_of_ble_eq_true rfl, Nat.le_of_ble_eq_true rfl⟩ dX1_noiseOf_18 rfl (Nat.le_of_ble_eq_true rfl) (fun _ _ _ h => h.elim) (fun r w1 ad1 hp => ?_)
        obtain ⟨rfl, rfl, rfl⟩ := hp
        refine z_icmp_ge O dX1_noiseOf_21 (tgt := 74) (by decide) (fun h => ?_) (fun h => ?_)
        · have hi : i = zN Z 2 := by have := z_ge_ge (by have := hL2.2.2.2; omega) (by have := hL2.2.2.2; omega) h; omega
          subst hi
          refine z_bipush O dX1_noiseOf_74 (v := 9) (by decide) ?_
          refine z_aload_n O dX1_noiseOf_76 rfl ?_
          refine z_get O (fk := 1) (fun x h => zI x (zu_RX2 x h)) rfl (by decide) (zI _ zm1_39) dX1_noiseOf_77 (zg_hand hj hj2) rfl ?_
          refine z_iload_n O dX1_noiseOf_80 rfl ?_
          refine z_imul O dX1_noiseOf_81 ?_
          refine z_mmin O zI zm1_40 zm1_10 zm1_11 zm1_12 dX1_noiseOf_82 (Nat.le_of_ble_eq_true rfl) (Nat.le_of_ble_eq_true rfl) (Nat.le_of_ble_eq_true rfl) (Nat.le_of_ble_eq_true rfl) ?_
          exact z_iret O dX1_noiseOf_85 (Nat.le_of_ble_eq_true rfl) (Nat.le_of_ble_eq_true rfl) (⟨by unfold fNoise; rw [if_pos hf, hacc]; rfl, rfl, rfl⟩)
        · have hi : i < zN Z 2 := z_ge_lt (by have := hL2.2.2.2; omega) (by have := hL2.2.2.2; omega) h
          have hi20 : i < 20 := by have := hL2.2.2.2; omega
          refine z_aload_n O dX1_noiseOf_24 rfl ?_
          refine z_get O (fk := 0) (fun x h => zI x (zu_RX1 x h)) rfl (by decide) (zI _ zm0_32) dX1_noiseOf_25 (zg_ev) rfl ?_
          refine z_iload_n O dX1_noiseOf_28 rfl ?_
          refine z_callV O (c_get_cue hl hL2 hi) zI zm1_48 zm1_49 zm1_50 zm0_31 zm1_26 ⟨rfl, by decide +kernel, by decide +kernel, (show _ = some 1 by decide +kernel)⟩ rfl ((zg_list0 (i := 2) (by decide) hL2)) ⟨Nat.le_of_ble_eq_true rfl, Nat.le_of_ble_eq_true rfl⟩ ⟨Nat.le_of_ble_eq_true rfl, Nat.le_of_ble_eq_true rfl⟩ dX1_noiseOf_29 rfl (Nat.le_of_ble_eq_true rfl) (fun _ _ _ h => h.elim) (fun r w1 ad1 hp => ?_)
          obtain ⟨rfl, rfl, rfl⟩ := hp
          refine z_cast0 O rfl (zI _ zm1_36) (zg_cue hi hi20) dX1_noiseOf_32 ?_
          refine z_astore O dX1_noiseOf_35 (by decide) ?_
          refine z_aload O dX1_noiseOf_37 rfl ?_
          refine z_aload_n O dX1_noiseOf_39 rfl ?_
          refine z_get O (fk := 2) (fun x h => zI x (zu_RX1 x h)) rfl (by decide) (zI _ zm0_34) dX1_noiseOf_40 (zg_ev) rfl ?_
          refine z_callV O (c_X0_isOnIn hl hi hi20) zI zm1_51 zm1_52 zm1_53 zm0_14 zm0_10 ⟨rfl, by decide +kernel, by decide +kernel, (show _ = some 1 by decide +kernel)⟩ rfl (zg_cue hi hi20) ⟨Nat.le_of_ble_eq_true rfl, Nat.le_of_ble_eq_true rfl⟩ ⟨Nat.le_of_ble_eq_true rfl, Nat.le_of_ble_eq_true rfl⟩ dX1_noiseOf_43 rfl (Nat.le_of_ble_eq_true rfl) (fun _ _ _ h => h.elim) (fun r w1 ad1 hp => ?_)
          rcases hp with ⟨rfl, ho, rfl, rfl⟩ | ⟨rfl, ho, rfl, rfl⟩
          · refine z_if_eq O dX1_noiseOf_46 (tgt := 68) (by decide) (fun g => absurd g (by decide)) (fun _ => ?_)
            refine z_aload_n O dX1_noiseOf_49 rfl ?_
            refine z_aload O dX1_noiseOf_50 rfl ?_
            refine z_callV O (c_X2_follows hl hj hj2 hi hi20) zI zm1_54 zm1_55 zm1_56 zm1_57 zm1_33 ⟨rfl, by decide +kernel, by decide +kernel, (show _ = some 1 by decide +kernel)⟩ rfl (zg_hand hj hj2) ⟨Nat.le_of_ble_eq_true rfl, Nat.le_of_ble_eq_true rfl⟩ ⟨Nat.le_of_ble_eq_true rfl, Nat.le_of_ble_eq_true rfl⟩ dX1_noiseOf_52 rfl (Nat.le_of_ble_eq_true rfl) (fun _ _ _ h => h.elim) (fun r w1 ad1 hp => ?_)
            rcases hp with ⟨rfl, hw, rfl, rfl⟩ | ⟨rfl, hw, rfl, rfl⟩
            · refine z_if_eq O dX1_noiseOf_55 (tgt := 68) (by decide) (fun g => absurd g (by decide)) (fun _ => ?_)
              refine z_iload_n O dX1_noiseOf_58 rfl ?_
              refine z_aload O dX1_noiseOf_59 rfl ?_
              refine z_get O (fk := 3) (fun x h => zI x (zu_RX0 x h)) rfl (by decide) (zI _ zm1_37) dX1_noiseOf_61 (zg_cue hi hi20) rfl ?_
              refine z_mmax O zI zm1_38 zm1_14 zm1_11 zm1_15 dX1_noiseOf_64 (Nat.le_of_ble_eq_true rfl) (Nat.le_of_ble_eq_true rfl) (Nat.le_of_ble_eq_true rfl) (Nat.le_of_ble_eq_true rfl) ?_
              refine z_istore_n O dX1_noiseOf_67 (by decide) ?_
              refine z_iincN O dX1_noiseOf_68 (a := i) rfl (by decide) ?_
              refine z_goto O dX1_noiseOf_71 (tgt := 13) (by decide) ?_
              exact zV.loc (ih (i + 1) _ (by omega) (by omega) (by rw [hacc, show fForce Z j (i + 1) = fMax (fForce Z j i) (Z 21 i) from if_pos ⟨ho, hw⟩]; rfl)) ⟨rfl, rfl, rfl, rfl, trivial⟩
            · refine z_if_eq O dX1_noiseOf_55 (tgt := 68) (by decide) (fun _ => ?_) (fun g => absurd rfl g)
              refine z_iincN O dX1_noiseOf_68 (a := i) rfl (by decide) ?_
              refine z_goto O dX1_noiseOf_71 (tgt := 13) (by decide) ?_
              exact zV.loc (ih (i + 1) _ (by omega) (by omega) (by rw [hacc, show fForce Z j (i + 1) = fForce Z j i from if_neg (fun q => hw q.2)])) ⟨rfl, rfl, rfl, rfl, trivial⟩
          · refine z_if_eq O dX1_noiseOf_46 (tgt := 68) (by decide) (fun _ => ?_) (fun g => absurd rfl g)
            refine z_iincN O dX1_noiseOf_68 (a := i) rfl (by decide) ?_
            refine z_goto O dX1_noiseOf_71 (tgt := 13) (by decide) ?_
            exact zV.loc (ih (i + 1) _ (by omega) (by omega) (by rw [hacc, show fForce Z j (i + 1) = fForce Z j i from if_neg (fun q => ho q.1)])) ⟨rfl, rfl, rfl, rfl, trivial⟩
    refine z_iconst O dX1_noiseOf_9 (v := 0) (by decide) ?_
    refine z_istore_n O dX1_noiseOf_10 (by decide) ?_
    refine z_iconst O dX1_noiseOf_11 (v := 0) (by decide) ?_
    refine z_istore_n O dX1_noiseOf_12 (by decide) ?_
    exact zV.loc (L (zN Z 2 + 1) 0 0 (by omega) (by omega) rfl) ⟨rfl, rfl, rfl, rfl, trivial⟩

set_option maxRecDepth 100000 in
set_option maxHeartbeats 4000000 in
theorem c_X1_lastBegunCue {G : zG} {l : Launch} (hl : l.stackTraces = false) {Z : zM} {sb : Nat → Option Nat} {mcn : Nat → Int32} {cp : Nat → Nat} {Y : zM} {th : Int32} {o : Nat → Int64} {od : Nat → UInt64} {ad : Nat → Nat} (hL2 : zLst Z cp 2) : zCt G l yX1_lastBegunCue (zws yX1_lastBegunCue cX1_lastBegunCue 4 (some (.object "ClaqueRow$Cue"))) ({ frames := 3, cells := 0, slots := 0, locals := 64 }) [.ref (ad 4)] (zent Z sb mcn cp G.2.2.2.1 Y th o od ad) ad (fun r w1 ad1 => some (va_rf ((fLast Z (zN Z 2)).map (fun c => ad (240 + c)))) = r ∧ zent Z sb mcn cp G.2.2.2.1 Y th o od ad = w1 ∧ ad = ad1) (zNoX) := by
  refine z_body hl (by decide +kernel) (Nat.le_of_ble_eq_true rfl) (fun X O => ?_)
  have L : ∀ (n : Nat) (i : Nat), i ≤ zN Z 2 → zN Z 2 < i + n → zV G X 4 0 0 4 [(0, .ref (ad 4)), (1, va_rf ((fLast Z i).map (fun c => ad (240 + c)))), (2, .int (nI i))] [] (zent Z sb mcn cp G.2.2.2.1 Y th o od ad) ad := by
    intro n
    induction n with
    | zero => intro i h1 h2; omega
    | succ n ih =>
      intro i h1 h2
      refine z_iload_n O dX1_lastBegunCue_4 rfl ?_
      refine z_aload_n O dX1_lastBegunCue_5 rfl ?_
      refine z_get O (fk := 0) (fun x h => zI x (zu_RX1 x h)) rfl (by decide) (zI _ zm0_32) dX1_lastBegunCue_6 (zg_ev) rfl ?_
      refine z_callV O (c_size_l hl (i := 2) (by decide) hL2) zI zm1_45 zm1_46 zm1_47 zm0_31 zm1_19 ⟨rfl, by decide +kernel, by decide +kernel, (show _ = some 0 by decide +kernel)⟩ rfl ((zg_list0 (i := 2) (by decide) hL2)) ⟨Nat.le_of_ble_eq_true rfl, Nat.le_of_ble_eq_true rfl⟩ ⟨Nat.le_of_ble_eq_true rfl, Nat.le_of_ble_eq_true rfl⟩ dX1_lastBegunCue_9 rfl (Nat.le_of_ble_eq_true rfl) (fun _ _ _ h => h.elim) (fun r w1 ad1 hp => ?_)
      obtain ⟨rfl, rfl, rfl⟩ := hp
      refine z_icmp_ge O dX1_lastBegunCue_12 (tgt := 61) (by decide) (fun h => ?_) (fun h => ?_)
      · have hi : i = zN Z 2 := by have := z_ge_ge (by have := hL2.2.2.2; omega) (by have := hL2.2.2.2; omega) h; omega
        subst hi
        cases hb : fLast Z (zN Z 2) with
        | none =>
          refine z_aload_nN O dX1_lastBegunCue_61 rfl ?_
          exact z_aret O (r := none) rfl (by first | exact Or.inl ⟨_, rfl⟩ | exact Or.inr ⟨_, rfl⟩) dX1_lastBegunCue_62 (Nat.le_of_ble_eq_true rfl) (Nat.le_of_ble_eq_true rfl) (⟨by rw [hb]; rfl, rfl, rfl⟩)
        | some b =>
          refine z_aload_n O dX1_lastBegunCue_61 rfl ?_
          exact z_aret O (r := (some (ad (240 + b)))) rfl (by first | exact Or.inl ⟨_, rfl⟩ | exact Or.inr ⟨_, rfl⟩) dX1_lastBegunCue_62 (Nat.le_of_ble_eq_true rfl) (Nat.le_of_ble_eq_true rfl) (⟨by rw [hb]; rfl, rfl, rfl⟩)
      · have hi : i < zN Z 2 := z_ge_lt (by have := hL2.2.2.2; omega) (by have := hL2.2.2.2; omega) h
        have hi20 : i < 20 := by have := hL2.2.2.2; omega
        cases hb : fLast Z i with
        | none =>
          refine z_aload_n O dX1_lastBegunCue_15 rfl ?_
          refine z_get O (fk := 0) (fun x h => zI x (zu_RX1 x h)) rfl (by decide) (zI _ zm0_32) dX1_lastBegunCue_16 (zg_ev) rfl ?_
          refine z_iload_n O dX1_lastBegunCue_19 rfl ?_
          refine z_callV O (c_get_cue hl hL2 hi) zI zm1_48 zm1_49 zm1_50 zm0_31 zm1_26 ⟨rfl, by decide +kernel, by decide +kernel, (show _ = some 1 by decide +kernel)⟩ rfl ((zg_list0 (i := 2) (by decide) hL2)) ⟨Nat.le_of_ble_eq_true rfl, Nat.le_of_ble_eq_true rfl⟩ ⟨Nat.le_of_ble_eq_true rfl, Nat.le_of_ble_eq_true rfl⟩ dX1_lastBegunCue_20 rfl (Nat.le_of_ble_eq_true rfl) (fun _ _ _ h => h.elim) (fun r w1 ad1 hp => ?_)
          obtain ⟨rfl, rfl, rfl⟩ := hp
          refine z_cast0 O rfl (zI _ zm1_36) (zg_cue hi hi20) dX1_lastBegunCue_23 ?_
          refine z_astore_n O dX1_lastBegunCue_26 (by decide) ?_
          refine z_aload_n O dX1_lastBegunCue_27 rfl ?_
          refine z_get O (fk := 2) (fun x h => zI x (zu_RX0 x h)) rfl (by decide) (zI _ zm2_6) dX1_lastBegunCue_28 (zg_cue hi hi20) rfl ?_
          refine z_aload_n O dX1_lastBegunCue_31 rfl ?_
          refine z_get O (fk := 2) (fun x h => zI x (zu_RX1 x h)) rfl (by decide) (zI _ zm0_34) dX1_lastBegunCue_32 (zg_ev) rfl ?_
          refine z_icmp_gt O dX1_lastBegunCue_35 (tgt := 55) (by decide) (fun g => ?_) (fun g => ?_)
          · refine z_iincN O dX1_lastBegunCue_55 (a := i) rfl (by decide) ?_
            refine z_goto O dX1_lastBegunCue_58 (tgt := 4) (by decide) ?_
            exact zV.loc (ih (i + 1) (by omega) (by omega)) ⟨rfl, by rw [show fLast Z (i + 1) = none from by rw [fLast, if_neg (Int32.not_le.mpr g), hb]]; rfl, rfl, trivial⟩
          · refine z_aload_nN O dX1_lastBegunCue_38 rfl ?_
            refine z_ifnullN O dX1_lastBegunCue_39 (tgt := 53) (by decide) ?_
            refine z_aload_n O dX1_lastBegunCue_53 rfl ?_
            refine z_astore_n O dX1_lastBegunCue_54 (by decide) ?_
            refine z_iincN O dX1_lastBegunCue_55 (a := i) rfl (by decide) ?_
            refine z_goto O dX1_lastBegunCue_58 (tgt := 4) (by decide) ?_
            exact zV.loc (ih (i + 1) (by omega) (by omega)) ⟨rfl, by rw [show fLast Z (i + 1) = some i from by rw [fLast, if_pos (Int32.not_lt.mp g), hb]]; rfl, rfl, trivial⟩
        | some b =>
          have hbl := fLast_lt hb
          refine z_aload_n O dX1_lastBegunCue_15 rfl ?_
          refine z_get O (fk := 0) (fun x h => zI x (zu_RX1 x h)) rfl (by decide) (zI _ zm0_32) dX1_lastBegunCue_16 (zg_ev) rfl ?_
          refine z_iload_n O dX1_lastBegunCue_19 rfl ?_
          refine z_callV O (c_get_cue hl hL2 hi) zI zm1_48 zm1_49 zm1_50 zm0_31 zm1_26 ⟨rfl, by decide +kernel, by decide +kernel, (show _ = some 1 by decide +kernel)⟩ rfl ((zg_list0 (i := 2) (by decide) hL2)) ⟨Nat.le_of_ble_eq_true rfl, Nat.le_of_ble_eq_true rfl⟩ ⟨Nat.le_of_ble_eq_true rfl, Nat.le_of_ble_eq_true rfl⟩ dX1_lastBegunCue_20 rfl (Nat.le_of_ble_eq_true rfl) (fun _ _ _ h => h.elim) (fun r w1 ad1 hp => ?_)
          obtain ⟨rfl, rfl, rfl⟩ := hp
          refine z_cast0 O rfl (zI _ zm1_36) (zg_cue hi hi20) dX1_lastBegunCue_23 ?_
          refine z_astore_n O dX1_lastBegunCue_26 (by decide) ?_
          refine z_aload_n O dX1_lastBegunCue_27 rfl ?_
          refine z_get O (fk := 2) (fun x h => zI x (zu_RX0 x h)) rfl (by decide) (zI _ zm2_6) dX1_lastBegunCue_28 (zg_cue hi hi20) rfl ?_
          refine z_aload_n O dX1_lastBegunCue_31 rfl ?_
          refine z_get O (fk := 2) (fun x h => zI x (zu_RX1 x h)) rfl (by decide) (zI _ zm0_34) dX1_lastBegunCue_32 (zg_ev) rfl ?_
          refine z_icmp_gt O dX1_lastBegunCue_35 (tgt := 55) (by decide) (fun g => ?_) (fun g => ?_)
          · refine z_iincN O dX1_lastBegunCue_55 (a := i) rfl (by decide) ?_
            refine z_goto O dX1_lastBegunCue_58 (tgt := 4) (by decide) ?_
            exact zV.loc (ih (i + 1) (by omega) (by omega)) ⟨rfl, by rw [show fLast Z (i + 1) = some b from by rw [fLast, if_neg (Int32.not_le.mpr g), hb]]; rfl, rfl, trivial⟩
          · refine z_aload_n O dX1_lastBegunCue_38 rfl ?_
            refine z_ifnull O dX1_lastBegunCue_39 ?_
            refine z_aload_n O dX1_lastBegunCue_42 rfl ?_
            refine z_get O (fk := 2) (fun x h => zI x (zu_RX0 x h)) rfl (by decide) (zI _ zm2_6) dX1_lastBegunCue_43 (zg_cue hi hi20) rfl ?_
            refine z_aload_n O dX1_lastBegunCue_46 rfl ?_
            refine z_get O (fk := 2) (fun x h => zI x (zu_RX0 x h)) rfl (by decide) (zI _ zm2_6) dX1_lastBegunCue_47 (zg_cue (k := b) (by omega) (by omega)) rfl ?_
            refine z_icmp_lt O dX1_lastBegunCue_50 (tgt := 55) (by decide) (fun g2 => ?_) (fun g2 => ?_)
            · refine z_iincN O dX1_lastBegunCue_55 (a := i) rfl (by decide) ?_
              refine z_goto O dX1_lastBegunCue_58 (tgt := 4) (by decide) ?_
              exact zV.loc (ih (i + 1) (by omega) (by omega)) ⟨rfl, by rw [show fLast Z (i + 1) = some b from by rw [fLast, if_pos (Int32.not_lt.mp g), hb]; exact if_pos g2]; rfl, rfl, trivial⟩
            · refine z_aload_n O dX1_lastBegunCue_53 rfl ?_
              refine z_astore_n O dX1_lastBegunCue_54 (by decide) ?_
              refine z_iincN O dX1_lastBegunCue_55 (a := i) rfl (by decide) ?_
              refine z_goto O dX1_lastBegunCue_58 (tgt := 4) (by decide) ?_
              exact zV.loc (ih (i + 1) (by omega) (by omega)) ⟨rfl, by rw [show fLast Z (i + 1) = some i from by rw [fLast, if_pos (Int32.not_lt.mp g), hb]; exact if_neg g2]; rfl, rfl, trivial⟩
  refine z_null O dX1_lastBegunCue_0 ?_
  refine z_astore_nN O dX1_lastBegunCue_1 (by decide) ?_
  refine z_iconst O dX1_lastBegunCue_2 (v := 0) (by decide) ?_
  refine z_istore_n O dX1_lastBegunCue_3 (by decide) ?_
  exact zV.loc (L (zN Z 2 + 1) 0 (by omega) (by omega)) ⟨rfl, rfl, rfl, trivial⟩

set_option maxRecDepth 100000 in
set_option maxHeartbeats 4000000 in
theorem c_X1_hearNoise {G : zG} {l : Launch} (hl : l.stackTraces = false) {Z : zM} {sb : Nat → Option Nat} {mcn : Nat → Int32} {cp : Nat → Nat} {Y : zM} {th : Int32} {o : Nat → Int64} {od : Nat → UInt64} {ad : Nat → Nat} (hL2 : zLst Z cp 2) (hs : ∀ c, c < zN Z 2 → (Z 19 c).toNatClampNeg < zN Z 1) (hn1 : zN Z 1 ≤ 12) {x : Int32} : zCt G l yX1_hearNoise (zws yX1_hearNoise cX1_hearNoise 3 none) ({ frames := 4, cells := 0, slots := 0, locals := 87 }) [.ref (ad 4), .int x] (zent Z sb mcn cp G.2.2.2.1 Y th o od ad) ad (fun r w1 ad1 => none = r ∧ zent (fHear Z x) sb mcn cp G.2.2.2.1 Y th o od ad = w1 ∧ ad = ad1) (zNoX) := by
  refine z_body hl (by decide +kernel) (Nat.le_of_ble_eq_true rfl) (fun X O => ?_)
  refine z_iload_n O dX1_hearNoise_0 rfl ?_
  refine z_aload_n O dX1_hearNoise_1 rfl ?_
  refine z_get O (fk := 1) (fun x h => zI x (zu_RX1 x h)) rfl (by decide) (zI _ zm0_33) dX1_hearNoise_2 (zg_ev) rfl ?_
  refine z_icmp_ge O dX1_hearNoise_5 (tgt := 14) (by decide) (fun h => ?_) (fun h => ?_)
  · refine z_aload_n O dX1_hearNoise_14 rfl ?_
    refine z_dup O dX1_hearNoise_15 rfl ?_
    refine z_get O (fk := 3) (fun x h => zI x (zu_RX1 x h)) rfl (by decide) (zI _ zm0_35) dX1_hearNoise_16 (zg_ev) rfl ?_
    refine z_iconst O dX1_hearNoise_19 (v := 1) (by decide) ?_
    refine z_iadd O dX1_hearNoise_20 ?_
    refine z_put O (fk := 3) (fun x h => zI x (zu_RX1 x h)) tyX1 tyX1_ok nmX1 rfl (by decide) (zI _ zm0_35) rfl dX1_hearNoise_21 rfl rfl (zg_ev) (Nat.le_of_ble_eq_true rfl) (zp_ev (F := 30) (p := 3) (by decide) rfl) ?_
    refine z_aload_n O dX1_hearNoise_24 rfl ?_
    refine z_get O (fk := 3) (fun x h => zI x (zu_RX1 x h)) rfl (by decide) (zI _ zm0_35) dX1_hearNoise_25 (zg_ev) rfl ?_
    refine z_iconst O dX1_hearNoise_28 (v := 5) (by decide) ?_
    refine z_icmp_ge O dX1_hearNoise_29 (tgt := 33) (by decide) (fun g0 => ?_) (fun g0 => ?_)
    · have g : ¬ zu Z 30 0 (Z 30 0 + 1) 30 0 < 5 := Int32.not_lt.mpr g0
      refine z_aload_n O dX1_hearNoise_33 rfl ?_
      refine z_iconst O dX1_hearNoise_34 (v := 0) (by decide) ?_
      refine z_put O (fk := 3) (fun x h => zI x (zu_RX1 x h)) tyX1 tyX1_ok nmX1 rfl (by decide) (zI _ zm0_35) rfl dX1_hearNoise_35 rfl rfl (zg_ev) (Nat.le_of_ble_eq_true rfl) (zp_ev (F := 30) (p := 3) (by decide) rfl) ?_
      refine z_aload_n O dX1_hearNoise_38 rfl ?_
      refine z_dup O dX1_hearNoise_39 rfl ?_
      refine z_get O (fk := 4) (fun x h => zI x (zu_RX1 x h)) rfl (by decide) (zI _ zm0_36) dX1_hearNoise_40 (zg_ev) rfl ?_
      refine z_iconst O dX1_hearNoise_43 (v := 1) (by decide) ?_
      refine z_iadd O dX1_hearNoise_44 ?_
      refine z_put O (fk := 4) (fun x h => zI x (zu_RX1 x h)) tyX1 tyX1_ok nmX1 rfl (by decide) (zI _ zm0_36) rfl dX1_hearNoise_45 rfl rfl (zg_ev) (Nat.le_of_ble_eq_true rfl) (zp_ev (F := 31) (p := 4) (by decide) rfl) ?_
      refine z_aload_n O dX1_hearNoise_48 rfl ?_
      have e3 : zu (zu (zu Z 30 0 (Z 30 0 + 1)) 30 0 0) 31 0 (zu (zu Z 30 0 (Z 30 0 + 1)) 30 0 0 31 0 + 1) = zu (zu (zu Z 30 0 (Z 30 0 + 1)) 30 0 0) 31 0 (Z 31 0 + 1) := by rw [zu_f (by decide), zu_f (by decide)]
      rw [e3]
      obtain ⟨Z3, hZ3⟩ : ∃ z, z = zu (zu (zu Z 30 0 (Z 30 0 + 1)) 30 0 0) 31 0 (Z 31 0 + 1) := ⟨_, rfl⟩
      rw [← hZ3]
      have hN2 : zN Z3 2 = zN Z 2 := by rw [hZ3]; simp [zN, zu]
      have hN1 : zN Z3 1 = zN Z 1 := by rw [hZ3]; simp [zN, zu]
      have h19 : ∀ c, Z3 19 c = Z 19 c := fun c => by rw [hZ3]; simp [zu]
      have hL3 : zLst Z3 cp 2 := by
        refine ⟨?_, by rw [hN2]; exact hL2.2.1, hL2.2.2.1, by rw [hN2]; exact hL2.2.2.2⟩
        rw [hN2, ← hL2.1, hZ3]; simp [zu]
      have hfin : fHear Z x = fCalled Z3 := by unfold fHear; rw [if_neg (Int32.not_lt.mpr h), if_neg (by simpa [zu] using g), ← hZ3]
      refine z_callV O (c_X1_lastBegunCue hl hL3) zI zm2_10 zm2_11 zm2_12 zm1_44 zm2_7 ⟨rfl, by decide +kernel, by decide +kernel, (show _ = some 0 by decide +kernel)⟩ rfl (zg_ev) ⟨Nat.le_of_ble_eq_true rfl, Nat.le_of_ble_eq_true rfl⟩ ⟨Nat.le_of_ble_eq_true rfl, Nat.le_of_ble_eq_true rfl⟩ dX1_hearNoise_49 rfl (Nat.le_of_ble_eq_true rfl) (fun _ _ _ h => h.elim) (fun r w1 ad1 hp => ?_)
      obtain ⟨rfl, rfl, rfl⟩ := hp
      cases hb : fLast Z3 (zN Z3 2) with
      | none =>
        refine z_astore_nN O dX1_hearNoise_52 (by decide) ?_
        refine z_aload_nN O dX1_hearNoise_53 rfl ?_
        refine z_ifnullN O dX1_hearNoise_54 (tgt := 70) (by decide) ?_
        exact z_vret O dX1_hearNoise_70 (Nat.le_of_ble_eq_true rfl) (Nat.le_of_ble_eq_true rfl) (⟨rfl, by rw [hfin]; unfold fCalled; rw [hb], rfl⟩)
      | some c =>
        have hc := fLast_lt hb
        have hc2 : c < zN Z 2 := by rw [hN2] at hc; exact hc
        have hs2 : (Z3 19 c).toNatClampNeg < zN Z3 1 := by rw [h19, hN1]; exact hs c hc2
        have hs20 : (Z3 19 c).toNatClampNeg < 20 := by rw [hN1] at hs2; omega
        refine z_astore_n O dX1_hearNoise_52 (by decide) ?_
        refine z_aload_n O dX1_hearNoise_53 rfl ?_
        refine z_ifnull O dX1_hearNoise_54 ?_
        refine z_aload_n O dX1_hearNoise_57 rfl ?_
        refine z_get O (fk := 0) (fun x h => zI x (zu_RX0 x h)) rfl (by decide) (zI _ zm2_8) dX1_hearNoise_58 (zg_cue hc (by have := hL2.2.2.2; omega)) rfl ?_
        refine z_dup O dX1_hearNoise_61 rfl ?_
        refine z_get O (fk := 2) (fun x h => zI x (zu_RX5 x h)) rfl (by decide) (zI _ zm2_9) dX1_hearNoise_62 (zg_singer hs2 hs20) rfl ?_
        refine z_iconst O dX1_hearNoise_65 (v := 1) (by decide) ?_
        refine z_iadd O dX1_hearNoise_66 ?_
        refine z_put O (fk := 2) (fun x h => zI x (zu_RX5 x h)) tyX5 tyX5_ok nmX5 rfl (by decide) (zI _ zm2_9) rfl dX1_hearNoise_67 rfl rfl (zg_singer hs2 hs20) (Nat.le_of_ble_eq_true rfl) (zp_singer_calls hs2 hs20) ?_
        exact z_vret O dX1_hearNoise_70 (Nat.le_of_ble_eq_true rfl) (Nat.le_of_ble_eq_true rfl) (⟨rfl, by rw [hfin]; unfold fCalled; rw [hb], rfl⟩)
    · have g : zu Z 30 0 (Z 30 0 + 1) 30 0 < 5 := Int32.not_le.mp g0
      exact z_vret O dX1_hearNoise_32 (Nat.le_of_ble_eq_true rfl) (Nat.le_of_ble_eq_true rfl) (⟨rfl, by unfold fHear; rw [if_neg (Int32.not_lt.mpr h), if_pos (by simpa [zu] using g)], rfl⟩)
  · refine z_aload_n O dX1_hearNoise_8 rfl ?_
    refine z_iconst O dX1_hearNoise_9 (v := 0) (by decide) ?_
    refine z_put O (fk := 3) (fun x h => zI x (zu_RX1 x h)) tyX1 tyX1_ok nmX1 rfl (by decide) (zI _ zm0_35) rfl dX1_hearNoise_10 rfl rfl (zg_ev) (Nat.le_of_ble_eq_true rfl) (zp_ev (F := 30) (p := 3) (by decide) rfl) ?_
    exact z_vret O dX1_hearNoise_13 (Nat.le_of_ble_eq_true rfl) (Nat.le_of_ble_eq_true rfl) (⟨rfl, by unfold fHear; rw [if_pos (Int32.not_le.mp h)], rfl⟩)
