set_option maxRecDepth 100000 in
set_option maxHeartbeats 4000000 in
theorem c_X8_endEvening {G : zG} {l : Launch} (hl : l.stackTraces = false) {Z : zM} {sb : Nat → Option Nat} {mcn : Nat → Int32} {cp : Nat → Nat} {Y : zM} {th : Int32} {o : Nat → Int64} {od : Nat → UInt64} {ad : Nat → Nat} (hc1 : zCnt Y 1) (h6 : zN Y 1 ≤ 6) (hc : zCnt Y 2) (hs : ∀ c, c < zN Y 2 → Y 19 c = nI (Y 19 c).toNatClampNeg ∧ (Y 19 c).toNatClampNeg < 6) : zCt G l yX8_endEvening (zws yX8_endEvening cX8_endEvening 5 (some .int)) ({ frames := 2, cells := 0, slots := 0, locals := 42 }) [.ref (ad 300)] (zent Z sb mcn cp G.2.2.2.1 Y th o od ad) ad (fun r w1 ad1 => (kEnd Y = 0 ∧ some (.int (fSum (fDue Y) (zN Y 1))) = r ∧ zent Z sb mcn cp G.2.2.2.1 (mBeg (fIter fBill Y (zN Y 1))) 0 o od ad = w1 ∧ ad = ad1) ∨ (kEnd Y ≠ 0 ∧ (∃ v, some (.int v) = r) ∧ zent Z sb mcn cp G.2.2.2.1 Y (nI (kEnd Y)) o od ad = w1 ∧ ad = ad1)) (zNoX) := by
  refine z_body hl (by decide +kernel) (Nat.le_of_ble_eq_true rfl) (fun X O => ?_)
  refine z_aload_n O dX8_endEvening_0 rfl ?_
  refine z_get O (fk := 23) (fun x h => zI x (zu_RX8 x h)) rfl (by decide) (zI _ zm7_37) dX8_endEvening_1 (zg_model) rfl ?_
  refine z_if_ne O dX8_endEvening_4 (tgt := 13) (by decide) (fun g => ?_) (fun g => ?_)
  · have L : ∀ (n : Nat) (i : Nat) (acc : Int32), i ≤ zN Y 1 → zN Y 1 < i + n → acc = fSum (fDue Y) i → zV G X 5 0 0 17 [(0, .ref (ad 300)), (1, .int acc), (2, .int (nI i))] [] (zent Z sb mcn cp G.2.2.2.1 (fIter fBill Y i) th o od ad) ad := by
      intro n
      induction n with
      | zero => intro i acc h1 h2 hacc; omega
      | succ n ih =>
        intro i acc h1 h2 hacc
        have hn1 : zN (fIter fBill Y i) 1 = zN Y 1 := by unfold zN; rw [fBill_n (by decide)]
        have hn2 : zN (fIter fBill Y i) 2 = zN Y 2 := by unfold zN; rw [fBill_n (by decide)]
        refine z_iload_n O dX8_endEvening_17 rfl ?_
        refine z_aload_n O dX8_endEvening_18 rfl ?_
        refine z_get O (fk := 26) (v := .int (nI (zN Y 1))) (fun x h => zI x (zu_RX8 x h)) rfl (by decide) (zI _ zm7_40) dX8_endEvening_19 (zg_model) (by show some (Value.int ((fIter fBill Y i) (25 + 1) 0)) = _; rw [fBill_n (by decide), hc1.1]) ?_
        refine z_icmp_ge O dX8_endEvening_22 (tgt := 132) (by decide) (fun h => ?_) (fun h => ?_)
        · have hi : i = zN Y 1 := by have := z_ge_ge (by omega) (by omega) h; omega
          subst hi
          refine z_aload_n O dX8_endEvening_132 rfl ?_
          refine z_callV O (c_X8_begins hl (hc1.fr (fBill_n (by decide) _ _)) (by rw [hn1]; exact h6)) zI zm8_3 zm8_4 zm8_5 zm7_16 zm7_69 ⟨rfl, by decide +kernel, by decide +kernel, (show _ = some 0 by decide +kernel)⟩ rfl (zg_model) ⟨Nat.le_of_ble_eq_true rfl, Nat.le_of_ble_eq_true rfl⟩ ⟨Nat.le_of_ble_eq_true rfl, Nat.le_of_ble_eq_true rfl⟩ dX8_endEvening_133 rfl (Nat.le_of_ble_eq_true rfl) (fun _ _ _ h => h.elim) (fun r w1 ad1 hp => ?_)
          obtain ⟨rfl, rfl, rfl⟩ := hp
          refine z_aload_n O dX8_endEvening_136 rfl ?_
          refine z_iload_n O dX8_endEvening_137 rfl ?_
          refine z_callV O (c_X8_tells hl) zI zm8_6 zm8_7 zm8_8 zm7_16 zm7_61 ⟨rfl, by decide +kernel, by decide +kernel, (show _ = some 1 by decide +kernel)⟩ rfl (zg_model) ⟨Nat.le_of_ble_eq_true rfl, Nat.le_of_ble_eq_true rfl⟩ ⟨Nat.le_of_ble_eq_true rfl, Nat.le_of_ble_eq_true rfl⟩ dX8_endEvening_138 rfl (Nat.le_of_ble_eq_true rfl) (fun _ _ _ h => h.elim) (fun r w1 ad1 hp => ?_)
          obtain ⟨rfl, rfl, rfl⟩ := hp
          exact z_iret O dX8_endEvening_141 (Nat.le_of_ble_eq_true rfl) (Nat.le_of_ble_eq_true rfl) (Or.inl ⟨by unfold kEnd; rw [if_neg g], by rw [hacc], rfl, rfl⟩)
        · have hi : i < zN Y 1 := z_ge_lt (by omega) (by omega) h
          have ihO := ih
          have L2 : ∀ (n : Nat) (c : Nat), c ≤ zN Y 2 → zN Y 2 < c + n → zV G X 5 0 0 30 [(0, .ref (ad 300)), (1, .int acc), (2, .int (nI i)), (3, .int (if fSang (fIter fBill Y i) i c = true then 1 else 0)), (4, .int (nI c))] [] (zent Z sb mcn cp G.2.2.2.1 (fIter fBill Y i) th o od ad) ad := by
            intro n
            induction n with
            | zero => intro c h3 h4; omega
            | succ n ih =>
              intro c h3 h4
              refine z_iload O dX8_endEvening_30 rfl ?_
              refine z_aload_n O dX8_endEvening_32 rfl ?_
              refine z_get O (fk := 27) (v := .int (nI (zN Y 2))) (fun x h => zI x (zu_RX8 x h)) rfl (by decide) (zI _ zm7_41) dX8_endEvening_33 (zg_model) (by show some (Value.int ((fIter fBill Y i) (25 + 2) 0)) = _; rw [fBill_n (by decide), hc.1]) ?_
              refine z_icmp_ge O dX8_endEvening_36 (tgt := 80) (by decide) (fun h9 => ?_) (fun h9 => ?_)
              · have hcc : c = zN Y 2 := by have := z_ge_ge (by have := hc.2; omega) (by have := hc.2; omega) h9; omega
                subst hcc
                refine z_iload_n O dX8_endEvening_80 rfl ?_
                by_cases e : fSang (fIter fBill Y i) i (zN Y 2) = true
                · rw [if_pos e]
                  refine z_if_eq O dX8_endEvening_81 (tgt := 107) (by decide) (fun q => absurd q (by decide)) (fun _ => ?_)
                  have hd : fDue (fIter fBill Y i) i = (fIter fBill Y i) 15 i + (fIter fBill Y i) 16 i * (fIter fBill Y i) 18 i := by unfold fDue; rw [hn2, if_pos e]
                  refine z_aload_n O dX8_endEvening_84 rfl ?_
                  refine z_get O (fk := 15) (fun x h => zI x (zu_RX8 x h)) rfl (by decide) (zI _ zm7_29) dX8_endEvening_85 (zg_model) rfl ?_
                  refine z_iload_n O dX8_endEvening_88 rfl ?_
                  refine z_iald O dX8_endEvening_89 (zg_mI (i := 15) (n := 6) rfl rfl (by decide)) (i) (rfl) (by omega) (by decide) ?_
                  refine z_aload_n O dX8_endEvening_90 rfl ?_
                  refine z_get O (fk := 16) (fun x h => zI x (zu_RX8 x h)) rfl (by decide) (zI _ zm7_30) dX8_endEvening_91 (zg_model) rfl ?_
                  refine z_iload_n O dX8_endEvening_94 rfl ?_
                  refine z_iald O dX8_endEvening_95 (zg_mI (i := 16) (n := 6) rfl rfl (by decide)) (i) (rfl) (by omega) (by decide) ?_
                  refine z_aload_n O dX8_endEvening_96 rfl ?_
                  refine z_get O (fk := 18) (fun x h => zI x (zu_RX8 x h)) rfl (by decide) (zI _ zm7_32) dX8_endEvening_97 (zg_model) rfl ?_
                  refine z_iload_n O dX8_endEvening_100 rfl ?_
                  refine z_iald O dX8_endEvening_101 (zg_mI (i := 18) (n := 6) rfl rfl (by decide)) (i) (rfl) (by omega) (by decide) ?_
                  refine z_imul O dX8_endEvening_102 ?_
                  refine z_iadd O dX8_endEvening_103 ?_
                  refine z_goto O dX8_endEvening_104 (tgt := 108) (by decide) ?_
                  refine z_istore O dX8_endEvening_108 (by decide) ?_
                  refine z_aload_n O dX8_endEvening_110 rfl ?_
                  refine z_get O (fk := 17) (fun x h => zI x (zu_RX8 x h)) rfl (by decide) (zI _ zm7_31) dX8_endEvening_111 (zg_model) rfl ?_
                  refine z_iload_n O dX8_endEvening_114 rfl ?_
                  refine z_dup2_11 O dX8_endEvening_115 rfl rfl ?_
                  refine z_iald O dX8_endEvening_116 (zg_mI (i := 17) (n := 6) rfl rfl (by decide)) (i) (rfl) (by omega) (by decide) ?_
                  refine z_iload O dX8_endEvening_117 rfl ?_
                  refine z_iadd O dX8_endEvening_119 ?_
                  refine z_iast O dX8_endEvening_120 (zg_mI (i := 17) (n := 6) rfl rfl (by decide)) (i) (rfl) (by omega) (by decide) (zp_mI (i := 17) (n := 6) rfl rfl (by decide)) ?_
                  refine z_iload_n O dX8_endEvening_121 rfl ?_
                  refine z_iload O dX8_endEvening_122 rfl ?_
                  refine z_iadd O dX8_endEvening_124 ?_
                  refine z_istore_n O dX8_endEvening_125 (by decide) ?_
                  refine z_iincN O dX8_endEvening_126 (a := i) rfl (by decide) ?_
                  refine z_goto O dX8_endEvening_129 (tgt := 17) (by decide) ?_
                  refine zV.to (ihO (i + 1) _ (by omega) (by omega) rfl) ⟨rfl, ?_, rfl, trivial⟩ rfl ?_
                  · rw [hacc, show fSum (fDue Y) (i + 1) = fSum (fDue Y) i + fDue Y i from rfl, ← fDue_c (Z := Y) (Z' := (fIter fBill Y i)) (fun f k hf => fBill_n hf i k), hd]; rfl
                  · rw [show fIter fBill Y (i + 1) = zu (fIter fBill Y i) 17 i ((fIter fBill Y i) 17 i + fDue (fIter fBill Y i) i) from rfl, hd]
                · rw [if_neg e]
                  refine z_if_eq O dX8_endEvening_81 (tgt := 107) (by decide) (fun _ => ?_) (fun q => absurd rfl q)
                  have hd : fDue (fIter fBill Y i) i = 0 := by unfold fDue; rw [hn2, if_neg e]
                  refine z_iconst O dX8_endEvening_107 (v := 0) (by decide) ?_
                  refine z_istore O dX8_endEvening_108 (by decide) ?_
                  refine z_aload_n O dX8_endEvening_110 rfl ?_
                  refine z_get O (fk := 17) (fun x h => zI x (zu_RX8 x h)) rfl (by decide) (zI _ zm7_31) dX8_endEvening_111 (zg_model) rfl ?_
                  refine z_iload_n O dX8_endEvening_114 rfl ?_
                  refine z_dup2_11 O dX8_endEvening_115 rfl rfl ?_
                  refine z_iald O dX8_endEvening_116 (zg_mI (i := 17) (n := 6) rfl rfl (by decide)) (i) (rfl) (by omega) (by decide) ?_
                  refine z_iload O dX8_endEvening_117 rfl ?_
                  refine z_iadd O dX8_endEvening_119 ?_
                  refine z_iast O dX8_endEvening_120 (zg_mI (i := 17) (n := 6) rfl rfl (by decide)) (i) (rfl) (by omega) (by decide) (zp_mI (i := 17) (n := 6) rfl rfl (by decide)) ?_
                  refine z_iload_n O dX8_endEvening_121 rfl ?_
                  refine z_iload O dX8_endEvening_122 rfl ?_
                  refine z_iadd O dX8_endEvening_124 ?_
                  refine z_istore_n O dX8_endEvening_125 (by decide) ?_
                  refine z_iincN O dX8_endEvening_126 (a := i) rfl (by decide) ?_
                  refine z_goto O dX8_endEvening_129 (tgt := 17) (by decide) ?_
                  refine zV.to (ihO (i + 1) _ (by omega) (by omega) rfl) ⟨rfl, ?_, rfl, trivial⟩ rfl ?_
                  · rw [hacc, show fSum (fDue Y) (i + 1) = fSum (fDue Y) i + fDue Y i from rfl, ← fDue_c (Z := Y) (Z' := (fIter fBill Y i)) (fun f k hf => fBill_n hf i k), hd]; rfl
                  · rw [show fIter fBill Y (i + 1) = zu (fIter fBill Y i) 17 i ((fIter fBill Y i) 17 i + fDue (fIter fBill Y i) i) from rfl, hd]
              · have hcc : c < zN Y 2 := z_ge_lt (by have := hc.2; omega) (by have := hc.2; omega) h9
                refine z_iload_n O dX8_endEvening_39 rfl ?_
                by_cases e : fSang (fIter fBill Y i) i c = true
                · rw [if_pos e]
                  refine z_if_ne O dX8_endEvening_40 (tgt := 68) (by decide) (fun _ => ?_) (fun q => absurd q (by decide))
                  refine z_iconst O dX8_endEvening_68 (v := 1) (by decide) ?_
                  refine z_goto O dX8_endEvening_69 (tgt := 73) (by decide) ?_
                  refine z_istore_n O dX8_endEvening_73 (by decide) ?_
                  refine z_iincN O dX8_endEvening_74 (a := c) rfl (by decide) ?_
                  refine z_goto O dX8_endEvening_77 (tgt := 30) (by decide) ?_
                  exact zV.loc (ih (c + 1) (by omega) (by omega)) ⟨rfl, rfl, rfl, by rw [show fSang (fIter fBill Y i) i (c + 1) = true from by show (fSang (fIter fBill Y i) i c || (decide (((fIter fBill Y i) 19 c).toNatClampNeg = i) && decide ((fIter fBill Y i) 20 c < (fIter fBill Y i) 29 0))) = true; rw [e]; rfl]; rfl, rfl, trivial⟩
                · rw [if_neg e]
                  have e2 := Bool.not_eq_true _ |>.mp e
                  refine z_if_ne O dX8_endEvening_40 (tgt := 68) (by decide) (fun q => absurd rfl q) (fun _ => ?_)
                  have hcs := hs c hcc
                  refine z_aload_n O dX8_endEvening_43 rfl ?_
                  refine z_get O (fk := 19) (fun x h => zI x (zu_RX8 x h)) rfl (by decide) (zI _ zm7_33) dX8_endEvening_44 (zg_model) rfl ?_
                  refine z_iload O dX8_endEvening_47 rfl ?_
                  refine z_iald O dX8_endEvening_49 (zg_mI (i := 19) (n := 12) rfl rfl (by decide)) (c) (rfl) (by have := hc.2; omega) (by decide) ?_
                  refine z_iload_n O dX8_endEvening_50 rfl ?_
                  refine z_icmp_ne O dX8_endEvening_51 (tgt := 72) (by decide) (fun k => ?_) (fun k => ?_)
                  all_goals rw [fBill_n (by decide)] at k
                  · refine z_iconst O dX8_endEvening_72 (v := 0) (by decide) ?_
                    refine z_istore_n O dX8_endEvening_73 (by decide) ?_
                    refine z_iincN O dX8_endEvening_74 (a := c) rfl (by decide) ?_
                    refine z_goto O dX8_endEvening_77 (tgt := 30) (by decide) ?_
                    exact zV.loc (ih (c + 1) (by omega) (by omega)) ⟨rfl, rfl, rfl, by rw [show fSang (fIter fBill Y i) i (c + 1) = false from by show (fSang (fIter fBill Y i) i c || (decide (((fIter fBill Y i) 19 c).toNatClampNeg = i) && decide ((fIter fBill Y i) 20 c < (fIter fBill Y i) 29 0))) = false; rw [e2, fBill_n (by decide), show decide ((Y 19 c).toNatClampNeg = i) = false from decide_eq_false (fun q => k (by rw [hcs.1, q]))]; rfl]; rfl, rfl, trivial⟩
                  · have hi19 : (Y 19 c).toNatClampNeg = i := by rw [k]; exact nI_clamp (by omega)
                    refine z_aload_n O dX8_endEvening_54 rfl ?_
                    refine z_get O (fk := 20) (fun x h => zI x (zu_RX8 x h)) rfl (by decide) (zI _ zm7_34) dX8_endEvening_55 (zg_model) rfl ?_
                    refine z_iload O dX8_endEvening_58 rfl ?_
                    refine z_iald O dX8_endEvening_60 (zg_mI (i := 20) (n := 12) rfl rfl (by decide)) (c) (rfl) (by have := hc.2; omega) (by decide) ?_
                    refine z_aload_n O dX8_endEvening_61 rfl ?_
                    refine z_get O (fk := 29) (fun x h => zI x (zu_RX8 x h)) rfl (by decide) (zI _ zm7_43) dX8_endEvening_62 (zg_model) rfl ?_
                    refine z_icmp_ge O dX8_endEvening_65 (tgt := 72) (by decide) (fun k2 => ?_) (fun k2 => ?_)
                    · refine z_iconst O dX8_endEvening_72 (v := 0) (by decide) ?_
                      refine z_istore_n O dX8_endEvening_73 (by decide) ?_
                      refine z_iincN O dX8_endEvening_74 (a := c) rfl (by decide) ?_
                      refine z_goto O dX8_endEvening_77 (tgt := 30) (by decide) ?_
                      exact zV.loc (ih (c + 1) (by omega) (by omega)) ⟨rfl, rfl, rfl, by rw [show fSang (fIter fBill Y i) i (c + 1) = false from by show (fSang (fIter fBill Y i) i c || (decide (((fIter fBill Y i) 19 c).toNatClampNeg = i) && decide ((fIter fBill Y i) 20 c < (fIter fBill Y i) 29 0))) = false; rw [e2, show decide ((fIter fBill Y i) 20 c < (fIter fBill Y i) 29 0) = false from decide_eq_false (Int32.not_lt.mpr k2)]; simp]; rfl, rfl, trivial⟩
                    · refine z_iconst O dX8_endEvening_68 (v := 1) (by decide) ?_
                      refine z_goto O dX8_endEvening_69 (tgt := 73) (by decide) ?_
                      refine z_istore_n O dX8_endEvening_73 (by decide) ?_
                      refine z_iincN O dX8_endEvening_74 (a := c) rfl (by decide) ?_
                      refine z_goto O dX8_endEvening_77 (tgt := 30) (by decide) ?_
                      exact zV.loc (ih (c + 1) (by omega) (by omega)) ⟨rfl, rfl, rfl, by rw [show fSang (fIter fBill Y i) i (c + 1) = true from by show (fSang (fIter fBill Y i) i c || (decide (((fIter fBill Y i) 19 c).toNatClampNeg = i) && decide ((fIter fBill Y i) 20 c < (fIter fBill Y i) 29 0))) = true; rw [show decide ((fIter fBill Y i) 20 c < (fIter fBill Y i) 29 0) = true from decide_eq_true (Int32.not_le.mp k2), fBill_n (by decide), show decide ((Y 19 c).toNatClampNeg = i) = true from decide_eq_true hi19]; simp]; rfl, rfl, trivial⟩
          refine z_iconst O dX8_endEvening_25 (v := 0) (by decide) ?_
          refine z_istore_n O dX8_endEvening_26 (by decide) ?_
          refine z_iconst O dX8_endEvening_27 (v := 0) (by decide) ?_
          refine z_istore O dX8_endEvening_28 (by decide) ?_
          exact zV.loc (L2 (zN Y 2 + 1) 0 (by omega) (by omega)) ⟨rfl, rfl, rfl, rfl, rfl, trivial⟩
    refine z_iconst O dX8_endEvening_13 (v := 0) (by decide) ?_
    refine z_istore_n O dX8_endEvening_14 (by decide) ?_
    refine z_iconst O dX8_endEvening_15 (v := 0) (by decide) ?_
    refine z_istore_n O dX8_endEvening_16 (by decide) ?_
    exact zV.loc (L (zN Y 1 + 1) 0 0 (by omega) (by omega) rfl) ⟨rfl, rfl, rfl, trivial⟩
  · refine z_aload_n O dX8_endEvening_7 rfl ?_
    refine z_iconst O dX8_endEvening_8 (v := 1) (by decide) ?_
    refine z_callV O (c_X8_fails hl) zI zm8_0 zm8_1 zm8_2 zm7_16 zm7_59 ⟨rfl, by decide +kernel, by decide +kernel, (show _ = some 1 by decide +kernel)⟩ rfl (zg_model) ⟨Nat.le_of_ble_eq_true rfl, Nat.le_of_ble_eq_true rfl⟩ ⟨Nat.le_of_ble_eq_true rfl, Nat.le_of_ble_eq_true rfl⟩ dX8_endEvening_9 rfl (Nat.le_of_ble_eq_true rfl) (fun _ _ _ h => h.elim) (fun r w1 ad1 hp => ?_)
    obtain ⟨rfl, rfl, rfl⟩ := hp
    exact z_iret O dX8_endEvening_12 (Nat.le_of_ble_eq_true rfl) (Nat.le_of_ble_eq_true rfl) (Or.inr ⟨by unfold kEnd; rw [if_pos g]; decide, ⟨_, rfl⟩, by unfold kEnd; rw [if_pos g]; rfl, rfl⟩)

set_option maxRecDepth 100000 in
set_option maxHeartbeats 4000000 in
theorem c_X8_pay {G : zG} {l : Launch} (hl : l.stackTraces = false) {Z : zM} {sb : Nat → Option Nat} {mcn : Nat → Int32} {cp : Nat → Nat} {Y : zM} {th : Int32} {o : Nat → Int64} {od : Nat → UInt64} {ad : Nat → Nat} (hc : zCnt Y 1) (h6 : zN Y 1 ≤ 6) (hpos : ∀ j, j < zN Y 1 → 0 ≤ Y 17 j) {x y : Int32} : zCt G l yX8_pay (zws yX8_pay cX8_pay 4 (some .int)) ({ frames := 2, cells := 0, slots := 0, locals := 43 }) [.ref (ad 300), .int x, .int y] (zent Z sb mcn cp G.2.2.2.1 Y th o od ad) ad (fun r w1 ad1 => (kPay Y x y = 0 ∧ some (.int (fPays Y x.toNatClampNeg y 17 x.toNatClampNeg)) = r ∧ zent Z sb mcn cp G.2.2.2.1 (fPays Y x.toNatClampNeg y) 0 o od ad = w1 ∧ ad = ad1) ∨ (kPay Y x y ≠ 0 ∧ (∃ v, some (.int v) = r) ∧ zent Z sb mcn cp G.2.2.2.1 Y (nI (kPay Y x y)) o od ad = w1 ∧ ad = ad1)) (zNoX) := by
  refine z_body hl (by decide +kernel) (Nat.le_of_ble_eq_true rfl) (fun X O => ?_)
  refine z_aload_n O dX8_pay_0 rfl ?_
  refine z_iload_n O dX8_pay_1 rfl ?_
  refine z_callV O (c_X8_isSinger hl hc) zI zm8_36 zm8_37 zm8_38 zm7_16 zm7_68 ⟨rfl, by decide +kernel, by decide +kernel, (show _ = some 1 by decide +kernel)⟩ rfl (zg_model) ⟨Nat.le_of_ble_eq_true rfl, Nat.le_of_ble_eq_true rfl⟩ ⟨Nat.le_of_ble_eq_true rfl, Nat.le_of_ble_eq_true rfl⟩ dX8_pay_2 rfl (Nat.le_of_ble_eq_true rfl) (fun _ _ _ h => h.elim) (fun r w1 ad1 hp => ?_)
  rcases hp with ⟨rfl, hs, rfl, rfl⟩ | ⟨rfl, hs, rfl, rfl⟩
  · refine z_if_ne O dX8_pay_5 (tgt := 14) (by decide) (fun _ => ?_) (fun q => absurd q (by decide))
    obtain ⟨j, rfl, hj⟩ := fI_cnt (i := 1) hc hs
    have hcl : (nI j).toNatClampNeg = j := nI_clamp (by omega)
    rw [hcl] at O
    have ho := hpos j hj
    refine z_iload_n O dX8_pay_14 rfl ?_
    refine z_iconst O dX8_pay_15 (v := 1) (by decide) ?_
    refine z_ldc O (zI _ zm9_19) dX8_pay_16 ?_
    refine z_callS O (c_X8_in hl) zI zm7_65 zm7_66 zm7_16 zm7_56 ⟨by decide +kernel, by decide +kernel, (show _ = some 3 by decide +kernel)⟩ ⟨Nat.le_of_ble_eq_true rfl, Nat.le_of_ble_eq_true rfl⟩ ⟨Nat.le_of_ble_eq_true rfl, Nat.le_of_ble_eq_true rfl⟩ dX8_pay_18 rfl (Nat.le_of_ble_eq_true rfl) (fun _ _ _ h => h.elim) (fun r w1 ad1 hp => ?_)
    rcases hp with ⟨rfl, hb, rfl, rfl⟩ | ⟨rfl, hb, rfl, rfl⟩
    · refine z_if_ne O dX8_pay_21 (tgt := 30) (by decide) (fun _ => ?_) (fun q => absurd q (by decide))
      refine z_aload_n O dX8_pay_30 rfl ?_
      refine z_get O (fk := 17) (fun x h => zI x (zu_RX8 x h)) rfl (by decide) (zI _ zm7_31) dX8_pay_31 (zg_model) rfl ?_
      refine z_iload_n O dX8_pay_34 rfl ?_
      refine z_iald O dX8_pay_35 (zg_mI (i := 17) (n := 6) rfl rfl (by decide)) (j) (rfl) (by omega) (by decide) ?_
      refine z_if_ne O dX8_pay_36 (tgt := 45) (by decide) (fun g => ?_) (fun g => ?_)
      · refine z_iload_n O dX8_pay_45 rfl ?_
        refine z_aload_n O dX8_pay_46 rfl ?_
        refine z_get O (fk := 17) (fun x h => zI x (zu_RX8 x h)) rfl (by decide) (zI _ zm7_31) dX8_pay_47 (zg_model) rfl ?_
        refine z_iload_n O dX8_pay_50 rfl ?_
        refine z_iald O dX8_pay_51 (zg_mI (i := 17) (n := 6) rfl rfl (by decide)) (j) (rfl) (by omega) (by decide) ?_
        refine z_callS O (c_X8_least hl) zI zm8_44 zm8_45 zm7_16 zm7_57 ⟨by decide +kernel, by decide +kernel, (show _ = some 2 by decide +kernel)⟩ ⟨Nat.le_of_ble_eq_true rfl, Nat.le_of_ble_eq_true rfl⟩ ⟨Nat.le_of_ble_eq_true rfl, Nat.le_of_ble_eq_true rfl⟩ dX8_pay_52 rfl (Nat.le_of_ble_eq_true rfl) (fun _ _ _ h => h.elim) (fun r w1 ad1 hp => ?_)
        obtain ⟨rfl, rfl, rfl⟩ := hp
        refine z_istore_n O dX8_pay_55 (by decide) ?_
        refine z_aload_n O dX8_pay_56 rfl ?_
        refine z_get O (fk := 17) (fun x h => zI x (zu_RX8 x h)) rfl (by decide) (zI _ zm7_31) dX8_pay_57 (zg_model) rfl ?_
        refine z_iload_n O dX8_pay_60 rfl ?_
        refine z_dup2_11 O dX8_pay_61 rfl rfl ?_
        refine z_iald O dX8_pay_62 (zg_mI (i := 17) (n := 6) rfl rfl (by decide)) (j) (rfl) (by omega) (by decide) ?_
        refine z_iload_n O dX8_pay_63 rfl ?_
        refine z_isub O dX8_pay_64 ?_
        refine z_iast O dX8_pay_65 (zg_mI (i := 17) (n := 6) rfl rfl (by decide)) (j) (rfl) (by omega) (by decide) (zp_mI (i := 17) (n := 6) rfl rfl (by decide)) ?_
        refine z_aload_n O dX8_pay_66 rfl ?_
        refine z_dup O dX8_pay_67 rfl ?_
        refine z_get O (fk := 34) (fun x h => zI x (zu_RX8 x h)) rfl (by decide) (zI _ zm7_48) dX8_pay_68 (zg_model) rfl ?_
        refine z_iload_n O dX8_pay_71 rfl ?_
        refine z_iadd O dX8_pay_72 ?_
        refine z_put O (fk := 34) (fun x h => zI x (zu_RX8 x h)) tyX8 tyX8_ok nmX8 rfl (by decide) (zI _ zm7_48) rfl dX8_pay_73 rfl rfl (zg_model) (Nat.le_of_ble_eq_true rfl) (zp_model (F := 34) (by decide) rfl) ?_
        refine z_aload_n O dX8_pay_76 rfl ?_
        refine z_aload_n O dX8_pay_77 rfl ?_
        refine z_get O (fk := 17) (fun x h => zI x (zu_RX8 x h)) rfl (by decide) (zI _ zm7_31) dX8_pay_78 (zg_model) rfl ?_
        refine z_iload_n O dX8_pay_81 rfl ?_
        refine z_iald O dX8_pay_82 (zg_mI (i := 17) (n := 6) rfl rfl (by decide)) (j) (rfl) (by omega) (by decide) ?_
        refine z_callV O (c_X8_tells hl) zI zm8_6 zm8_7 zm8_8 zm7_16 zm7_61 ⟨rfl, by decide +kernel, by decide +kernel, (show _ = some 1 by decide +kernel)⟩ rfl (zg_model) ⟨Nat.le_of_ble_eq_true rfl, Nat.le_of_ble_eq_true rfl⟩ ⟨Nat.le_of_ble_eq_true rfl, Nat.le_of_ble_eq_true rfl⟩ dX8_pay_83 rfl (Nat.le_of_ble_eq_true rfl) (fun _ _ _ h => h.elim) (fun r w1 ad1 hp => ?_)
        obtain ⟨rfl, rfl, rfl⟩ := hp
        exact z_iret O dX8_pay_86 (Nat.le_of_ble_eq_true rfl) (Nat.le_of_ble_eq_true rfl) (Or.inl ⟨by unfold kPay; rw [if_neg (fun q => q hs), if_neg (fun q => q hb), hcl, if_neg (fun q => g (Int32.le_antisymm q ho))], rfl, rfl, rfl⟩)
      · refine z_aload_n O dX8_pay_39 rfl ?_
        refine z_iconst O dX8_pay_40 (v := 3) (by decide) ?_
        refine z_callV O (c_X8_fails hl) zI zm8_0 zm8_1 zm8_2 zm7_16 zm7_59 ⟨rfl, by decide +kernel, by decide +kernel, (show _ = some 1 by decide +kernel)⟩ rfl (zg_model) ⟨Nat.le_of_ble_eq_true rfl, Nat.le_of_ble_eq_true rfl⟩ ⟨Nat.le_of_ble_eq_true rfl, Nat.le_of_ble_eq_true rfl⟩ dX8_pay_41 rfl (Nat.le_of_ble_eq_true rfl) (fun _ _ _ h => h.elim) (fun r w1 ad1 hp => ?_)
        obtain ⟨rfl, rfl, rfl⟩ := hp
        exact z_iret O dX8_pay_44 (Nat.le_of_ble_eq_true rfl) (Nat.le_of_ble_eq_true rfl) (Or.inr ⟨by unfold kPay; rw [if_neg (fun q => q hs), if_neg (fun q => q hb), hcl, if_pos (by rw [g]; decide)]; decide, ⟨_, rfl⟩, by unfold kPay; rw [if_neg (fun q => q hs), if_neg (fun q => q hb), hcl, if_pos (by rw [g]; decide)]; rfl, rfl⟩)
    · refine z_if_ne O dX8_pay_21 (tgt := 30) (by decide) (fun q => absurd rfl q) (fun _ => ?_)
      refine z_aload_n O dX8_pay_24 rfl ?_
      refine z_iconst O dX8_pay_25 (v := 2) (by decide) ?_
      refine z_callV O (c_X8_fails hl) zI zm8_0 zm8_1 zm8_2 zm7_16 zm7_59 ⟨rfl, by decide +kernel, by decide +kernel, (show _ = some 1 by decide +kernel)⟩ rfl (zg_model) ⟨Nat.le_of_ble_eq_true rfl, Nat.le_of_ble_eq_true rfl⟩ ⟨Nat.le_of_ble_eq_true rfl, Nat.le_of_ble_eq_true rfl⟩ dX8_pay_26 rfl (Nat.le_of_ble_eq_true rfl) (fun _ _ _ h => h.elim) (fun r w1 ad1 hp => ?_)
      obtain ⟨rfl, rfl, rfl⟩ := hp
      exact z_iret O dX8_pay_29 (Nat.le_of_ble_eq_true rfl) (Nat.le_of_ble_eq_true rfl) (Or.inr ⟨by unfold kPay; rw [if_neg (fun q => q hs), if_pos hb]; decide, ⟨_, rfl⟩, by unfold kPay; rw [if_neg (fun q => q hs), if_pos hb]; rfl, rfl⟩)
  · refine z_if_ne O dX8_pay_5 (tgt := 14) (by decide) (fun q => absurd rfl q) (fun _ => ?_)
    refine z_aload_n O dX8_pay_8 rfl ?_
    refine z_iconst O dX8_pay_9 (v := 1) (by decide) ?_
    refine z_callV O (c_X8_fails hl) zI zm8_0 zm8_1 zm8_2 zm7_16 zm7_59 ⟨rfl, by decide +kernel, by decide +kernel, (show _ = some 1 by decide +kernel)⟩ rfl (zg_model) ⟨Nat.le_of_ble_eq_true rfl, Nat.le_of_ble_eq_true rfl⟩ ⟨Nat.le_of_ble_eq_true rfl, Nat.le_of_ble_eq_true rfl⟩ dX8_pay_10 rfl (Nat.le_of_ble_eq_true rfl) (fun _ _ _ h => h.elim) (fun r w1 ad1 hp => ?_)
    obtain ⟨rfl, rfl, rfl⟩ := hp
    exact z_iret O dX8_pay_13 (Nat.le_of_ble_eq_true rfl) (Nat.le_of_ble_eq_true rfl) (Or.inr ⟨by unfold kPay; rw [if_pos hs]; decide, ⟨_, rfl⟩, by unfold kPay; rw [if_pos hs]; rfl, rfl⟩)

set_option maxRecDepth 100000 in
set_option maxHeartbeats 4000000 in
theorem c_X8_joiningShare {G : zG} {l : Launch} (hl : l.stackTraces = false) {Z : zM} {sb : Nat → Option Nat} {mcn : Nat → Int32} {cp : Nat → Nat} {Y : zM} {th : Int32} {o : Nat → Int64} {od : Nat → UInt64} {ad : Nat → Nat} (hne : ¬ fSeated Y 112 = 0 → vf_n32 (fJs Y)) : zCt G l yX8_joiningShare (zws yX8_joiningShare cX8_joiningShare 1 (some .float)) ({ frames := 1, cells := 0, slots := 0, locals := 22 }) [.ref (ad 300)] (zent Z sb mcn cp G.2.2.2.1 Y th o od ad) ad (fun r w1 ad1 => (kJoin Y = 0 ∧ some (.float (fJs Y)) = r ∧ zent Z sb mcn cp G.2.2.2.1 Y 0 o od ad = w1 ∧ ad = ad1) ∨ (kJoin Y ≠ 0 ∧ (∃ v, some (.float v) = r) ∧ zent Z sb mcn cp G.2.2.2.1 Y (nI (kJoin Y)) o od ad = w1 ∧ ad = ad1)) (zNoX) := by
  refine z_body hl (by decide +kernel) (Nat.le_of_ble_eq_true rfl) (fun X O => ?_)
  refine z_aload_n O dX8_joiningShare_0 rfl ?_
  refine z_aload_n O dX8_joiningShare_1 rfl ?_
  refine z_callV O (c_X8_payers hl) zI zm9_44 zm9_45 zm9_46 zm7_16 zm9_42 ⟨rfl, by decide +kernel, by decide +kernel, (show _ = some 0 by decide +kernel)⟩ rfl (zg_model) ⟨Nat.le_of_ble_eq_true rfl, Nat.le_of_ble_eq_true rfl⟩ ⟨Nat.le_of_ble_eq_true rfl, Nat.le_of_ble_eq_true rfl⟩ dX8_joiningShare_2 rfl (Nat.le_of_ble_eq_true rfl) (fun _ _ _ h => h.elim) (fun r w1 ad1 hp => ?_)
  obtain ⟨rfl, rfl, rfl⟩ := hp
  refine z_if_ne O dX8_joiningShare_5 (tgt := 12) (by decide) (fun g => ?_) (fun g => ?_)
  · refine z_iconst O dX8_joiningShare_12 (v := 0) (by decide) ?_
    refine z_put O (fk := 36) (fun x h => zI x (zu_RX8 x h)) tyX8 tyX8_ok nmX8 rfl (by decide) (zI _ zm7_50) rfl dX8_joiningShare_13 rfl rfl (zg_model) (Nat.le_of_ble_eq_true rfl) (zp_thrown) ?_
    refine z_aload_n O dX8_joiningShare_16 rfl ?_
    refine z_get O (fk := 36) (fun x h => zI x (zu_RX8 x h)) rfl (by decide) (zI _ zm7_50) dX8_joiningShare_17 (zg_model) rfl ?_
    refine z_if_le O dX8_joiningShare_20 (tgt := 27) (by decide) (fun _ => ?_) (fun q => absurd (by decide) q)
    refine z_aload_n O dX8_joiningShare_27 rfl ?_
    refine z_callV O (c_X8_joiners hl) zI zm9_8 zm9_9 zm9_10 zm7_16 zm9_6 ⟨rfl, by decide +kernel, by decide +kernel, (show _ = some 0 by decide +kernel)⟩ rfl (zg_model) ⟨Nat.le_of_ble_eq_true rfl, Nat.le_of_ble_eq_true rfl⟩ ⟨Nat.le_of_ble_eq_true rfl, Nat.le_of_ble_eq_true rfl⟩ dX8_joiningShare_28 rfl (Nat.le_of_ble_eq_true rfl) (fun _ _ _ h => h.elim) (fun r w1 ad1 hp => ?_)
    obtain ⟨rfl, rfl, rfl⟩ := hp
    refine z_i2f O dX8_joiningShare_31 ?_
    refine z_aload_n O dX8_joiningShare_32 rfl ?_
    refine z_callV O (c_X8_payers hl) zI zm9_44 zm9_45 zm9_46 zm7_16 zm9_42 ⟨rfl, by decide +kernel, by decide +kernel, (show _ = some 0 by decide +kernel)⟩ rfl (zg_model) ⟨Nat.le_of_ble_eq_true rfl, Nat.le_of_ble_eq_true rfl⟩ ⟨Nat.le_of_ble_eq_true rfl, Nat.le_of_ble_eq_true rfl⟩ dX8_joiningShare_33 rfl (Nat.le_of_ble_eq_true rfl) (fun _ _ _ h => h.elim) (fun r w1 ad1 hp => ?_)
    obtain ⟨rfl, rfl, rfl⟩ := hp
    refine z_i2f O dX8_joiningShare_36 ?_
    refine z_fdiv O dX8_joiningShare_37 (hne g) ?_
    exact z_fret O dX8_joiningShare_38 (Nat.le_of_ble_eq_true rfl) (Nat.le_of_ble_eq_true rfl) (Or.inl ⟨by unfold kJoin; exact if_neg g, rfl, rfl, rfl⟩)
  · refine z_iconst O dX8_joiningShare_8 (v := 1) (by decide) ?_
    refine z_goto O dX8_joiningShare_9 (tgt := 13) (by decide) ?_
    refine z_put O (fk := 36) (fun x h => zI x (zu_RX8 x h)) tyX8 tyX8_ok nmX8 rfl (by decide) (zI _ zm7_50) rfl dX8_joiningShare_13 rfl rfl (zg_model) (Nat.le_of_ble_eq_true rfl) (zp_thrown) ?_
    refine z_aload_n O dX8_joiningShare_16 rfl ?_
    refine z_get O (fk := 36) (fun x h => zI x (zu_RX8 x h)) rfl (by decide) (zI _ zm7_50) dX8_joiningShare_17 (zg_model) rfl ?_
    refine z_if_le O dX8_joiningShare_20 (tgt := 27) (by decide) (fun q => absurd q (by decide)) (fun _ => ?_)
    refine z_fconst0 O dX8_joiningShare_23 ?_
    refine z_goto O dX8_joiningShare_24 (tgt := 38) (by decide) ?_
    exact z_fret O dX8_joiningShare_38 (Nat.le_of_ble_eq_true rfl) (Nat.le_of_ble_eq_true rfl) (Or.inr ⟨by unfold kJoin; rw [if_pos (show fSeated Y 112 = 0 from g)]; decide, ⟨_, rfl⟩, by unfold kJoin; rw [if_pos (show fSeated Y 112 = 0 from g)]; rfl, rfl⟩)

set_option maxRecDepth 100000 in
set_option maxHeartbeats 4000000 in
theorem c_X8_meanNoise {G : zG} {l : Launch} (hl : l.stackTraces = false) {Z : zM} {sb : Nat → Option Nat} {mcn : Nat → Int32} {cp : Nat → Nat} {Y : zM} {th : Int32} {o : Nat → Int64} {od : Nat → UInt64} {ad : Nat → Nat} (hz : Y 23 0 * Y 24 0 = 0 ↔ Y 23 0 = 0) (hne : ¬ Y 23 0 * Y 24 0 = 0 → vf_n64 (fMn Y)) : zCt G l yX8_meanNoise (zws yX8_meanNoise cX8_meanNoise 1 (some .double)) ({ frames := 1, cells := 0, slots := 0, locals := 22 }) [.ref (ad 300)] (zent Z sb mcn cp G.2.2.2.1 Y th o od ad) ad (fun r w1 ad1 => (kMean Y = 0 ∧ some (.double (fMn Y)) = r ∧ zent Z sb mcn cp G.2.2.2.1 Y 0 o od ad = w1 ∧ ad = ad1) ∨ (kMean Y ≠ 0 ∧ (∃ v, some (.double v) = r) ∧ zent Z sb mcn cp G.2.2.2.1 Y (nI (kMean Y)) o od ad = w1 ∧ ad = ad1)) (zNoX) := by
  refine z_body hl (by decide +kernel) (Nat.le_of_ble_eq_true rfl) (fun X O => ?_)
  refine z_aload_n O dX8_meanNoise_0 rfl ?_
  refine z_aload_n O dX8_meanNoise_1 rfl ?_
  refine z_get O (fk := 23) (fun x h => zI x (zu_RX8 x h)) rfl (by decide) (zI _ zm7_37) dX8_meanNoise_2 (zg_model) rfl ?_
  refine z_if_ne O dX8_meanNoise_5 (tgt := 12) (by decide) (fun g => ?_) (fun g => ?_)
  · refine z_iconst O dX8_meanNoise_12 (v := 0) (by decide) ?_
    refine z_put O (fk := 36) (fun x h => zI x (zu_RX8 x h)) tyX8 tyX8_ok nmX8 rfl (by decide) (zI _ zm7_50) rfl dX8_meanNoise_13 rfl rfl (zg_model) (Nat.le_of_ble_eq_true rfl) (zp_thrown) ?_
    refine z_aload_n O dX8_meanNoise_16 rfl ?_
    refine z_get O (fk := 36) (fun x h => zI x (zu_RX8 x h)) rfl (by decide) (zI _ zm7_50) dX8_meanNoise_17 (zg_model) rfl ?_
    refine z_if_le O dX8_meanNoise_20 (tgt := 27) (by decide) (fun _ => ?_) (fun q => absurd (by decide) q)
    refine z_aload_n O dX8_meanNoise_27 rfl ?_
    refine z_callV O (c_X8_summed hl) zI zm8_60 zm8_61 zm8_62 zm7_16 zm8_56 ⟨rfl, by decide +kernel, by decide +kernel, (show _ = some 0 by decide +kernel)⟩ rfl (zg_model) ⟨Nat.le_of_ble_eq_true rfl, Nat.le_of_ble_eq_true rfl⟩ ⟨Nat.le_of_ble_eq_true rfl, Nat.le_of_ble_eq_true rfl⟩ dX8_meanNoise_28 rfl (Nat.le_of_ble_eq_true rfl) (fun _ _ _ h => h.elim) (fun r w1 ad1 hp => ?_)
    obtain ⟨rfl, rfl, rfl⟩ := hp
    refine z_i2d O dX8_meanNoise_31 ?_
    refine z_aload_n O dX8_meanNoise_32 rfl ?_
    refine z_get O (fk := 23) (fun x h => zI x (zu_RX8 x h)) rfl (by decide) (zI _ zm7_37) dX8_meanNoise_33 (zg_model) rfl ?_
    refine z_aload_n O dX8_meanNoise_36 rfl ?_
    refine z_get O (fk := 24) (fun x h => zI x (zu_RX8 x h)) rfl (by decide) (zI _ zm7_38) dX8_meanNoise_37 (zg_model) rfl ?_
    refine z_imul O dX8_meanNoise_40 ?_
    refine z_i2d O dX8_meanNoise_41 ?_
    refine z_ddiv O dX8_meanNoise_42 (hne (fun q => g (hz.mp q))) ?_
    exact z_dret O dX8_meanNoise_43 (Nat.le_of_ble_eq_true rfl) (Nat.le_of_ble_eq_true rfl) (Or.inl ⟨by unfold kMean; rw [if_neg (fun q => g (hz.mp q))], rfl, rfl, rfl⟩)
  · refine z_iconst O dX8_meanNoise_8 (v := 1) (by decide) ?_
    refine z_goto O dX8_meanNoise_9 (tgt := 13) (by decide) ?_
    refine z_put O (fk := 36) (fun x h => zI x (zu_RX8 x h)) tyX8 tyX8_ok nmX8 rfl (by decide) (zI _ zm7_50) rfl dX8_meanNoise_13 rfl rfl (zg_model) (Nat.le_of_ble_eq_true rfl) (zp_thrown) ?_
    refine z_aload_n O dX8_meanNoise_16 rfl ?_
    refine z_get O (fk := 36) (fun x h => zI x (zu_RX8 x h)) rfl (by decide) (zI _ zm7_50) dX8_meanNoise_17 (zg_model) rfl ?_
    refine z_if_le O dX8_meanNoise_20 (tgt := 27) (by decide) (fun q => absurd q (by decide)) (fun _ => ?_)
    refine z_dconst0 O dX8_meanNoise_23 ?_
    refine z_goto O dX8_meanNoise_24 (tgt := 43) (by decide) ?_
    exact z_dret O dX8_meanNoise_43 (Nat.le_of_ble_eq_true rfl) (Nat.le_of_ble_eq_true rfl) (Or.inr ⟨by unfold kMean; rw [if_pos (hz.mpr g)]; decide, ⟨_, rfl⟩, by unfold kMean; rw [if_pos (hz.mpr g)]; rfl, rfl⟩)
