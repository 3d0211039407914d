theorem zu_cm {Z : zM} {F F' k k' : Nat} {v v' : Int32} (h : F ≠ F') : zu (zu Z F k v) F' k' v' = zu (zu Z F' k' v') F k v := by
  funext f j
  unfold zu
  by_cases q : f = F ∧ j = k
  · have : ¬ (f = F' ∧ j = k') := fun z => h (q.1.symm.trans z.1)
    simp [q, h]
  · by_cases p : f = F' ∧ j = k'
    · have : ¬ F' = F := fun e => h e.symm
      simp [q, p, this]
    · simp [q, p]
theorem z_l64 {x : Int32} (h : ¬ x = 0) : ¬ x.toInt64 = 0 := fun q => h (z_toInt64_0 q)
set_option maxRecDepth 100000 in
set_option maxHeartbeats 4000000 in
theorem c_X8_share {G : zG} {l : Launch} (hl : l.stackTraces = false) {Z : zM} {sb : Nat → Option Nat} {mcn : Nat → Int32} {cp : Nat → Nat} {Y : zM} {th : Int32} {o : Nat → Int64} {od : Nat → UInt64} {ad : Nat → Nat} (hc : zCnt Y 0) (hpp : 0 ≤ Y 34 0) (hP0 : ¬ fPt Y (zN Y 0) = 0) : zCt G l yX8_share (zws yX8_share cX8_share 5 (some .int)) ({ frames := 1, cells := 0, slots := 0, locals := 21 }) [.ref (ad 300)] (zent Z sb mcn cp G.2.2.2.1 Y th o od ad) ad (fun r w1 ad1 => (kShare Y = 0 ∧ some (.int (fShR Y (Y 34 0) (fPt Y (zN Y 0)) (zN Y 0))) = r ∧ zent Z sb mcn cp G.2.2.2.1 (fShare Y) 0 o od ad = w1 ∧ ad = ad1) ∨ (kShare Y ≠ 0 ∧ (∃ v, some (.int v) = r) ∧ zent Z sb mcn cp G.2.2.2.1 Y (nI (kShare Y)) o od ad = w1 ∧ ad = ad1)) (zNoX) := by
  refine z_body hl (by decide +kernel) (Nat.le_of_ble_eq_true rfl) (fun X O => ?_)
  refine z_aload_n O dX8_share_0 rfl ?_
  refine z_get O (fk := 34) (fun x h => zI x (zu_RX8 x h)) rfl (by decide) (zI _ zm7_48) dX8_share_1 (zg_model) rfl ?_
  refine z_if_ne O dX8_share_4 (tgt := 13) (by decide) (fun g => ?_) (fun g => ?_)
  · have L : ∀ (n : Nat) (i : Nat), i ≤ zN Y 0 → zN Y 0 < i + n → zV G X 5 0 0 17 [(0, .ref (ad 300)), (1, .int (fPt Y i)), (2, .int (nI i))] [] (zent Z sb mcn cp G.2.2.2.1 Y th o od ad) ad := by
      intro n
      induction n with
      | zero => intro i h1 h2; omega
      | succ n ih =>
        intro i h1 h2
        refine z_iload_n O dX8_share_17 rfl ?_
        refine z_aload_n O dX8_share_18 rfl ?_
        refine z_get O (fk := 25) (v := .int (nI (zN Y 0))) (fun x h => zI x (zu_RX8 x h)) rfl (by decide) (zI _ zm7_39) dX8_share_19 (zg_model) (by show some (Value.int (Y (25 + 0) 0)) = _; rw [hc.1]) ?_
        refine z_icmp_ge O dX8_share_22 (tgt := 42) (by decide) (fun h => ?_) (fun h => ?_)
        · have hi : i = zN Y 0 := by have := z_ge_ge (by have := hc.2; omega) (by have := hc.2; omega) h; omega
          subst hi
          obtain ⟨P, hP⟩ : ∃ z, z = fPt Y (zN Y 0) := ⟨_, rfl⟩
          rw [← hP] at hP0 ⊢
          have L2 : ∀ (n : Nat) (j : Nat), j ≤ zN Y 0 → zN Y 0 < j + n → zV G X 5 0 0 49 [(0, .ref (ad 300)), (1, .int P), (2, .int (fShR Y (Y 34 0) P j)), (3, .int (nI j))] [] (zent Z sb mcn cp G.2.2.2.1 (fShZ Y (Y 34 0) P j) th o od ad) ad := by
            intro n
            induction n with
            | zero => intro j h3 h4; omega
            | succ n ih =>
              intro j h3 h4
              refine z_iload_n O dX8_share_49 rfl ?_
              refine z_aload_n O dX8_share_50 rfl ?_
              refine z_get O (fk := 25) (v := .int (nI (zN Y 0))) (fun x h => zI x (zu_RX8 x h)) rfl (by decide) (zI _ zm7_39) dX8_share_51 (zg_model) (by show some (Value.int ((fShZ Y (Y 34 0) P j) (25 + 0) 0)) = _; rw [fShZ_n Y _ _ (by decide), hc.1]) ?_
              refine z_icmp_ge O dX8_share_54 (tgt := 100) (by decide) (fun k => ?_) (fun k => ?_)
              · have hj : j = zN Y 0 := by have := z_ge_ge (by have := hc.2; omega) (by have := hc.2; omega) k; omega
                refine z_aload_n O dX8_share_100 rfl ?_
                refine z_dup O dX8_share_101 rfl ?_
                refine z_get O (fk := 35) (v := .int (Y 35 0)) (fun x h => zI x (zu_RX8 x h)) rfl (by decide) (zI _ zm7_49) dX8_share_102 (zg_model) (by show some (Value.int ((fShZ Y (Y 34 0) P j) 35 0)) = _; rw [fShZ_n Y _ _ (by decide)]) ?_
                refine z_iload_n O dX8_share_105 rfl ?_
                refine z_iadd O dX8_share_106 ?_
                refine z_put O (fk := 35) (fun x h => zI x (zu_RX8 x h)) tyX8 tyX8_ok nmX8 rfl (by decide) (zI _ zm7_49) rfl dX8_share_107 rfl rfl (zg_model) (Nat.le_of_ble_eq_true rfl) (zp_model (F := 35) (by decide) rfl) ?_
                refine z_aload_n O dX8_share_110 rfl ?_
                refine z_iconst O dX8_share_111 (v := 0) (by decide) ?_
                refine z_put O (fk := 34) (fun x h => zI x (zu_RX8 x h)) tyX8 tyX8_ok nmX8 rfl (by decide) (zI _ zm7_48) rfl dX8_share_112 rfl rfl (zg_model) (Nat.le_of_ble_eq_true rfl) (zp_model (F := 34) (by decide) rfl) ?_
                refine z_aload_n O dX8_share_115 rfl ?_
                refine z_iload_n O dX8_share_116 rfl ?_
                refine z_callV O (c_X8_tells hl) zI zm8_6 zm8_7 zm8_8 zm7_16 zm7_61 ⟨rfl, by decide +kernel, by decide +kernel, (show _ = some 1 by decide +kernel)⟩ rfl (zg_model) ⟨Nat.le_of_ble_eq_true rfl, Nat.le_of_ble_eq_true rfl⟩ ⟨Nat.le_of_ble_eq_true rfl, Nat.le_of_ble_eq_true rfl⟩ dX8_share_117 rfl (Nat.le_of_ble_eq_true rfl) (fun _ _ _ h => h.elim) (fun r w1 ad1 hp => ?_)
                obtain ⟨rfl, rfl, rfl⟩ := hp
                exact z_iret O dX8_share_120 (Nat.le_of_ble_eq_true rfl) (Nat.le_of_ble_eq_true rfl) (Or.inl ⟨by unfold kShare; rw [if_neg (fun q => g (Int32.le_antisymm q hpp))], by rw [hj, hP], by unfold fShare; rw [hj, ← hP, zu_cm (by decide)], rfl⟩)
              · have hj : j < zN Y 0 := z_ge_lt (by have := hc.2; omega) (by have := hc.2; omega) k
                refine z_aload_n O dX8_share_57 rfl ?_
                refine z_get O (fk := 34) (v := .int (Y 34 0)) (fun x h => zI x (zu_RX8 x h)) rfl (by decide) (zI _ zm7_48) dX8_share_58 (zg_model) (by show some (Value.int ((fShZ Y (Y 34 0) P j) 34 0)) = _; rw [fShZ_n Y _ _ (by decide)]) ?_
                refine z_i2l O dX8_share_61 rfl ?_
                refine z_aload_n O dX8_share_62 rfl ?_
                refine z_get O (fk := 12) (fun x h => zI x (zu_RX8 x h)) rfl (by decide) (zI _ zm7_26) dX8_share_63 (zg_model) rfl ?_
                refine z_iload_n O dX8_share_66 rfl ?_
                refine z_iald O dX8_share_67 (zg_mI (i := 12) (n := 12) rfl rfl (by decide)) (j) (rfl) (by have := hc.2; omega) (by decide) ?_
                refine z_iconst O dX8_share_68 (v := 1) (by decide) ?_
                rw [fShZ_n Y _ _ (by decide)]
                refine z_iadd O dX8_share_69 ?_
                refine z_i2l O dX8_share_70 rfl ?_
                refine z_lmul O dX8_share_71 ?_
                refine z_iload_n O dX8_share_72 rfl ?_
                refine z_i2l O dX8_share_73 rfl ?_
                refine z_ldiv O dX8_share_74 (z_l64 hP0) ?_
                refine z_l2i O dX8_share_75 rfl ?_
                refine z_istore O dX8_share_76 (by decide) ?_
                refine z_aload_n O dX8_share_78 rfl ?_
                refine z_get O (fk := 14) (fun x h => zI x (zu_RX8 x h)) rfl (by decide) (zI _ zm7_28) dX8_share_79 (zg_model) rfl ?_
                refine z_iload_n O dX8_share_82 rfl ?_
                refine z_dup2_11 O dX8_share_83 rfl rfl ?_
                refine z_iald O dX8_share_84 (zg_mI (i := 14) (n := 12) rfl rfl (by decide)) (j) (rfl) (by have := hc.2; omega) (by decide) ?_
                refine z_iload O dX8_share_85 rfl ?_
                refine z_iadd O dX8_share_87 ?_
                refine z_iast O dX8_share_88 (zg_mI (i := 14) (n := 12) rfl rfl (by decide)) (j) (rfl) (by have := hc.2; omega) (by decide) (zp_mI (i := 14) (n := 12) rfl rfl (by decide)) ?_
                refine z_iload_n O dX8_share_89 rfl ?_
                refine z_iload O dX8_share_90 rfl ?_
                refine z_isub O dX8_share_92 ?_
                refine z_istore_n O dX8_share_93 (by decide) ?_
                refine z_iincN O dX8_share_94 (a := j) rfl (by decide) ?_
                refine z_goto O dX8_share_97 (tgt := 49) (by decide) ?_
                have hgot : ((Y 34 0).toInt64 * (Y 12 j + 1).toInt64 / P.toInt64).toInt32 = fGot Y (Y 34 0) P j := by unfold fGot fCut; rw [if_neg hP0]
                rw [hgot]
                exact zV.loc (ih (j + 1) (by omega) (by omega)) ⟨rfl, rfl, rfl, rfl, trivial⟩
          refine z_aload_n O dX8_share_42 rfl ?_
          refine z_get O (fk := 34) (fun x h => zI x (zu_RX8 x h)) rfl (by decide) (zI _ zm7_48) dX8_share_43 (zg_model) rfl ?_
          refine z_istore_n O dX8_share_46 (by decide) ?_
          refine z_iconst O dX8_share_47 (v := 0) (by decide) ?_
          refine z_istore_n O dX8_share_48 (by decide) ?_
          exact zV.loc (L2 (zN Y 0 + 1) 0 (by omega) (by omega)) ⟨rfl, rfl, rfl, rfl, trivial⟩
        · have hi : i < zN Y 0 := z_ge_lt (by have := hc.2; omega) (by have := hc.2; omega) h
          refine z_iload_n O dX8_share_25 rfl ?_
          refine z_aload_n O dX8_share_26 rfl ?_
          refine z_get O (fk := 12) (fun x h => zI x (zu_RX8 x h)) rfl (by decide) (zI _ zm7_26) dX8_share_27 (zg_model) rfl ?_
          refine z_iload_n O dX8_share_30 rfl ?_
          refine z_iald O dX8_share_31 (zg_mI (i := 12) (n := 12) rfl rfl (by decide)) (i) (rfl) (by have := hc.2; omega) (by decide) ?_
          refine z_iconst O dX8_share_32 (v := 1) (by decide) ?_
          refine z_iadd O dX8_share_33 ?_
          refine z_iadd O dX8_share_34 ?_
          refine z_istore_n O dX8_share_35 (by decide) ?_
          refine z_iincN O dX8_share_36 (a := i) rfl (by decide) ?_
          refine z_goto O dX8_share_39 (tgt := 17) (by decide) ?_
          exact zV.loc (ih (i + 1) (by omega) (by omega)) ⟨rfl, rfl, rfl, trivial⟩
    refine z_iconst O dX8_share_13 (v := 5) (by decide) ?_
    refine z_istore_n O dX8_share_14 (by decide) ?_
    refine z_iconst O dX8_share_15 (v := 0) (by decide) ?_
    refine z_istore_n O dX8_share_16 (by decide) ?_
    exact zV.loc (L (zN Y 0 + 1) 0 (by omega) (by omega)) ⟨rfl, rfl, rfl, trivial⟩
  · refine z_aload_n O dX8_share_7 rfl ?_
    refine z_iconst O dX8_share_8 (v := 1) (by decide) ?_
    refine z_callV O (c_X8_fails hl) zI zm8_0 zm8_1 zm8_2 zm7_16 zm7_59 ⟨rfl, by decide +kernel, by decide +kernel, (show _ = some 1 by decide +kernel)⟩ rfl (zg_model) ⟨Nat.le_of_ble_eq_true rfl, Nat.le_of_ble_eq_true rfl⟩ ⟨Nat.le_of_ble_eq_true rfl, Nat.le_of_ble_eq_true rfl⟩ dX8_share_9 rfl (Nat.le_of_ble_eq_true rfl) (fun _ _ _ h => h.elim) (fun r w1 ad1 hp => ?_)
    obtain ⟨rfl, rfl, rfl⟩ := hp
    exact z_iret O dX8_share_12 (Nat.le_of_ble_eq_true rfl) (Nat.le_of_ble_eq_true rfl) (Or.inr ⟨by unfold kShare; rw [if_pos (by rw [g]; decide)]; decide, ⟨_, rfl⟩, by unfold kShare; rw [if_pos (by rw [g]; decide)]; rfl, rfl⟩)

def mOf (Y : zM) (wh P : Nat) (n : Nat) : Int32 := fSum (fun j => if fBit P j = 1 then (if wh = 0 then Y 13 j else if wh = 1 then Y 11 j else 1) else 0) n
theorem mOf_0 (Y : zM) (P n : Nat) : mOf Y 0 P n = fOf Y 13 P n := rfl
theorem mOf_1 (Y : zM) (P n : Nat) : mOf Y 1 P n = fOf Y 11 P n := rfl
theorem fSum_c {f g : Nat → Int32} : ∀ n, (∀ j, j < n → f j = g j) → fSum f n = fSum g n
  | 0, _ => rfl
  | n + 1, h => by
    show fSum f n + f n = fSum g n + g n
    rw [fSum_c n (fun j hj => h j (by omega)), h n (by omega)]
theorem fSum_ext {f : Nat → Int32} {n : Nat} : ∀ m, (∀ j, n ≤ j → j < n + m → f j = 0) → fSum f (n + m) = fSum f n
  | 0, _ => rfl
  | m + 1, h => by
    show fSum f (n + m) + f (n + m) = _
    rw [h (n + m) (by omega) (by omega), fSum_ext m (fun j h1 h2 => h j h1 (by omega)), Int32.add_zero]
theorem mOf_2 (Y : zM) {P n : Nat} (hn : n ≤ 12) (hP : P < 2 ^ n) : mOf Y 2 P n = fCnt P := by
  unfold mOf fCnt
  have h := fSum_ext (f := fun j => if fBit P j = 1 then 1 else 0) (n := n) (12 - n) (fun j h1 h2 => by
    have h3 : fBit P j = 0 := by
      unfold fBit
      rw [Nat.div_eq_of_lt (Nat.lt_of_lt_of_le hP (Nat.pow_le_pow_right (by decide) h1))]
    simp [h3])
  rw [show n + (12 - n) = 12 by omega] at h
  rw [h]
  rfl
theorem nI_mul1 (x : Int32) : nI 1 * x = x := Int32.one_mul x
theorem nI_mul0 (x : Int32) : nI 0 * x = 0 := Int32.zero_mul
set_option maxRecDepth 100000 in
set_option maxHeartbeats 4000000 in
theorem c_X8_summed_ {G : zG} {l : Launch} (hl : l.stackTraces = false) {Z : zM} {sb : Nat → Option Nat} {mcn : Nat → Int32} {cp : Nat → Nat} {Y : zM} {th : Int32} {o : Nat → Int64} {od : Nat → UInt64} {ad : Nat → Nat} (hc : zCnt Y 0) {P wh : Nat} (hP : P < 2 ^ 31) (hwh : wh < 3) : zCt G l yX8_summed_ (zws yX8_summed_ cX8_summed_ 5 (some .int)) ({ frames := 0, cells := 0, slots := 0, locals := 0 }) [.ref (ad 300), .int (nI P), .int (nI wh)] (zent Z sb mcn cp G.2.2.2.1 Y th o od ad) ad (fun r w1 ad1 => some (.int (mOf Y wh P (zN Y 0))) = r ∧ zent Z sb mcn cp G.2.2.2.1 Y th o od ad = w1 ∧ ad = ad1) (zNoX) := by
  refine z_body hl (by decide +kernel) (Nat.le_of_ble_eq_true rfl) (fun X O => ?_)
  have L : ∀ (n : Nat) (i : Nat), i ≤ zN Y 0 → zN Y 0 < i + n → zV G X 5 0 0 5 [(0, .ref (ad 300)), (1, .int (nI P)), (2, .int (nI wh)), (3, .int (mOf Y wh P i)), (4, .int (nI i))] [] (zent Z sb mcn cp G.2.2.2.1 Y th o od ad) ad := by
    intro n
    induction n with
    | zero => intro i h1 h2; omega
    | succ n ih =>
      intro i h1 h2
      refine z_iload O dX8_summed__5 rfl ?_
      refine z_aload_n O dX8_summed__7 rfl ?_
      refine z_get O (fk := 25) (v := .int (nI (zN Y 0))) (fun x h => zI x (zu_RX8 x h)) rfl (by decide) (zI _ zm7_39) dX8_summed__8 (zg_model) (by show some (Value.int (Y (25 + 0) 0)) = _; rw [hc.1]) ?_
      refine z_icmp_ge O dX8_summed__11 (tgt := 60) (by decide) (fun h => ?_) (fun h => ?_)
      · have hi : i = zN Y 0 := by have := z_ge_ge (by have := hc.2; omega) (by have := hc.2; omega) h; omega
        subst hi
        refine z_iload_n O dX8_summed__60 rfl ?_
        exact z_iret O dX8_summed__61 (Nat.le_of_ble_eq_true rfl) (Nat.le_of_ble_eq_true rfl) (⟨rfl, rfl, rfl⟩)
      · have hi : i < zN Y 0 := z_ge_lt (by have := hc.2; omega) (by have := hc.2; omega) h
        refine z_iload_n O dX8_summed__14 rfl ?_
        refine z_iload_n O dX8_summed__15 rfl ?_
        refine z_iload O dX8_summed__16 rfl ?_
        refine z_ishr O dX8_summed__18 ?_
        refine z_iconst O dX8_summed__19 (v := 1) (by decide) ?_
        refine z_iand O dX8_summed__20 ?_
        rw [fBit_sh hP (by have := hc.2; omega)]
        refine z_iload_n O dX8_summed__21 rfl ?_
        refine z_if_ne O dX8_summed__22 (tgt := 35) (by decide) (fun g => ?_) (fun g => ?_)
        · refine z_iload_n O dX8_summed__35 rfl ?_
          refine z_iconst O dX8_summed__36 (v := 1) (by decide) ?_
          refine z_icmp_ne O dX8_summed__37 (tgt := 50) (by decide) (fun g2 => ?_) (fun g2 => ?_)
          · have hw : (if wh = 0 then Y 13 i else if wh = 1 then Y 11 i else 1) = 1 := by rw [if_neg (fun q => g (by rw [q]; rfl)), if_neg (fun q => g2 (by rw [q]; rfl))]
            refine z_iconst O dX8_summed__50 (v := 1) (by decide) ?_
            refine z_imul O dX8_summed__51 ?_
            refine z_iadd O dX8_summed__52 ?_
            refine z_istore_n O dX8_summed__53 (by decide) ?_
            refine z_iincN O dX8_summed__54 (a := i) rfl (by decide) ?_
            refine z_goto O dX8_summed__57 (tgt := 5) (by decide) ?_
            have hst : mOf Y wh P i + nI (fBit P i) * 1 = mOf Y wh P (i + 1) := by
              show _ = mOf Y wh P i + (if fBit P i = 1 then (if wh = 0 then Y 13 i else if wh = 1 then Y 11 i else 1) else 0)
              rcases fBit_2 P i with e | e
              · rw [e, nI_mul0]; rfl
              · rw [e, nI_mul1, if_pos rfl, hw]
            rw [hst]
            exact zV.loc (ih (i + 1) (by omega) (by omega)) ⟨rfl, rfl, rfl, rfl, rfl, trivial⟩
          · have hw1 : wh = 1 := (nI_eq (by omega) (by decide)).mp g2
            have hw : (if wh = 0 then Y 13 i else if wh = 1 then Y 11 i else 1) = Y 11 i := by rw [if_neg (fun q => g (by rw [q]; rfl)), if_pos hw1]
            refine z_aload_n O dX8_summed__40 rfl ?_
            refine z_get O (fk := 11) (fun x h => zI x (zu_RX8 x h)) rfl (by decide) (zI _ zm7_25) dX8_summed__41 (zg_model) rfl ?_
            refine z_iload O dX8_summed__44 rfl ?_
            refine z_iald O dX8_summed__46 (zg_mI (i := 11) (n := 12) rfl rfl (by decide)) (i) (rfl) (by have := hc.2; omega) (by decide) ?_
            refine z_goto O dX8_summed__47 (tgt := 51) (by decide) ?_
            refine z_imul O dX8_summed__51 ?_
            refine z_iadd O dX8_summed__52 ?_
            refine z_istore_n O dX8_summed__53 (by decide) ?_
            refine z_iincN O dX8_summed__54 (a := i) rfl (by decide) ?_
            refine z_goto O dX8_summed__57 (tgt := 5) (by decide) ?_
            have hst : mOf Y wh P i + nI (fBit P i) * Y 11 i = mOf Y wh P (i + 1) := by
              show _ = mOf Y wh P i + (if fBit P i = 1 then (if wh = 0 then Y 13 i else if wh = 1 then Y 11 i else 1) else 0)
              rcases fBit_2 P i with e | e
              · rw [e, nI_mul0]; rfl
              · rw [e, nI_mul1, if_pos rfl, hw]
            rw [hst]
            exact zV.loc (ih (i + 1) (by omega) (by omega)) ⟨rfl, rfl, rfl, rfl, rfl, trivial⟩
        · have hw0 : wh = 0 := (nI_eq (by omega) (by decide)).mp g
          have hw : (if wh = 0 then Y 13 i else if wh = 1 then Y 11 i else 1) = Y 13 i := if_pos hw0
          refine z_aload_n O dX8_summed__25 rfl ?_
          refine z_get O (fk := 13) (fun x h => zI x (zu_RX8 x h)) rfl (by decide) (zI _ zm7_27) dX8_summed__26 (zg_model) rfl ?_
          refine z_iload O dX8_summed__29 rfl ?_
          refine z_iald O dX8_summed__31 (zg_mI (i := 13) (n := 12) rfl rfl (by decide)) (i) (rfl) (by have := hc.2; omega) (by decide) ?_
          refine z_goto O dX8_summed__32 (tgt := 51) (by decide) ?_
          refine z_imul O dX8_summed__51 ?_
          refine z_iadd O dX8_summed__52 ?_
          refine z_istore_n O dX8_summed__53 (by decide) ?_
          refine z_iincN O dX8_summed__54 (a := i) rfl (by decide) ?_
          refine z_goto O dX8_summed__57 (tgt := 5) (by decide) ?_
          have hst : mOf Y wh P i + nI (fBit P i) * Y 13 i = mOf Y wh P (i + 1) := by
            show _ = mOf Y wh P i + (if fBit P i = 1 then (if wh = 0 then Y 13 i else if wh = 1 then Y 11 i else 1) else 0)
            rcases fBit_2 P i with e | e
            · rw [e, nI_mul0]; rfl
            · rw [e, nI_mul1, if_pos rfl, hw]
          rw [hst]
          exact zV.loc (ih (i + 1) (by omega) (by omega)) ⟨rfl, rfl, rfl, rfl, rfl, trivial⟩
  refine z_iconst O dX8_summed__0 (v := 0) (by decide) ?_
  refine z_istore_n O dX8_summed__1 (by decide) ?_
  refine z_iconst O dX8_summed__2 (v := 0) (by decide) ?_
  refine z_istore O dX8_summed__3 (by decide) ?_
  exact zV.loc (L (zN Y 0 + 1) 0 (by omega) (by omega)) ⟨rfl, rfl, rfl, rfl, rfl, trivial⟩

set_option maxRecDepth 100000 in
set_option maxHeartbeats 4000000 in
theorem c_X8_isBetterN {G : zG} {l : Launch} (hl : l.stackTraces = false) {Z : zM} {sb : Nat → Option Nat} {mcn : Nat → Int32} {cp : Nat → Nat} {Y : zM} {th : Int32} {o : Nat → Int64} {od : Nat → UInt64} {ad : Nat → Nat} {x : Int32} : zCt G l yX8_isBetter (zws yX8_isBetter cX8_isBetter 4 (some .boolean)) ({ frames := 0, cells := 0, slots := 0, locals := 0 }) [.ref (ad 300), .int x, .int (-1)] (zent Z sb mcn cp G.2.2.2.1 Y th o od ad) ad (fun r w1 ad1 => some (.int 1) = r ∧ zent Z sb mcn cp G.2.2.2.1 Y th o od ad = w1 ∧ ad = ad1) (zNoX) := by
  refine z_body hl (by decide +kernel) (Nat.le_of_ble_eq_true rfl) (fun X O => ?_)
  refine z_iload_n O dX8_isBetter_0 rfl ?_
  refine z_iconst O dX8_isBetter_1 (v := (-1)) (by decide) ?_
  refine z_icmp_ne O dX8_isBetter_2 (tgt := 7) (by decide) (fun q => absurd rfl q) (fun _ => ?_)
  refine z_iconst O dX8_isBetter_5 (v := 1) (by decide) ?_
  exact z_zret O rfl rfl dX8_isBetter_6 (Nat.le_of_ble_eq_true rfl) (Nat.le_of_ble_eq_true rfl) (⟨rfl, rfl, rfl⟩)

set_option maxRecDepth 100000 in
set_option maxHeartbeats 4000000 in
theorem c_X8_isBetter {G : zG} {l : Launch} (hl : l.stackTraces = false) {Z : zM} {sb : Nat → Option Nat} {mcn : Nat → Int32} {cp : Nat → Nat} {Y : zM} {th : Int32} {o : Nat → Int64} {od : Nat → UInt64} {ad : Nat → Nat} (hc : zCnt Y 0) {P Q : Nat} (hP : P < 2 ^ zN Y 0) (hQ : Q < 2 ^ zN Y 0) : zCt G l yX8_isBetter (zws yX8_isBetter cX8_isBetter 4 (some .boolean)) ({ frames := 1, cells := 0, slots := 0, locals := 24 }) [.ref (ad 300), .int (nI P), .int (nI Q)] (zent Z sb mcn cp G.2.2.2.1 Y th o od ad) ad (fun r w1 ad1 => (some (.int 1) = r ∧ fBetter Y (zN Y 0) P Q ∧ zent Z sb mcn cp G.2.2.2.1 Y th o od ad = w1 ∧ ad = ad1) ∨ (some (.int 0) = r ∧ ¬ fBetter Y (zN Y 0) P Q ∧ zent Z sb mcn cp G.2.2.2.1 Y th o od ad = w1 ∧ ad = ad1)) (zNoX) := by
  refine z_body hl (by decide +kernel) (Nat.le_of_ble_eq_true rfl) (fun X O => ?_)
  have hp4 := z_pow2 hc.2
  refine z_iload_n O dX8_isBetter_0 rfl ?_
  refine z_iconst O dX8_isBetter_1 (v := (-1)) (by decide) ?_
  refine z_icmp_ne O dX8_isBetter_2 (tgt := 7) (by decide) (fun _ => ?_) (fun q => absurd q (nI_ne_m1 Q (by omega)))
  refine z_aload_n O dX8_isBetter_7 rfl ?_
  refine z_iload_n O dX8_isBetter_8 rfl ?_
  refine z_iconst O dX8_isBetter_9 (v := 0) (by decide) ?_
  refine z_callV O (c_X8_summed_ hl hc (P := P) (wh := 0) (by omega) (by decide)) zI zm9_27 zm9_28 zm9_29 zm7_16 zm9_25 ⟨rfl, by decide +kernel, by decide +kernel, (show _ = some 2 by decide +kernel)⟩ rfl (zg_model) ⟨Nat.le_of_ble_eq_true rfl, Nat.le_of_ble_eq_true rfl⟩ ⟨Nat.le_of_ble_eq_true rfl, Nat.le_of_ble_eq_true rfl⟩ dX8_isBetter_10 rfl (Nat.le_of_ble_eq_true rfl) (fun _ _ _ h => h.elim) (fun r w1 ad1 hp => ?_)
  obtain ⟨rfl, rfl, rfl⟩ := hp
  refine z_aload_n O dX8_isBetter_13 rfl ?_
  refine z_iload_n O dX8_isBetter_14 rfl ?_
  refine z_iconst O dX8_isBetter_15 (v := 0) (by decide) ?_
  refine z_callV O (c_X8_summed_ hl hc (P := Q) (wh := 0) (by omega) (by decide)) zI zm9_27 zm9_28 zm9_29 zm7_16 zm9_25 ⟨rfl, by decide +kernel, by decide +kernel, (show _ = some 2 by decide +kernel)⟩ rfl (zg_model) ⟨Nat.le_of_ble_eq_true rfl, Nat.le_of_ble_eq_true rfl⟩ ⟨Nat.le_of_ble_eq_true rfl, Nat.le_of_ble_eq_true rfl⟩ dX8_isBetter_16 rfl (Nat.le_of_ble_eq_true rfl) (fun _ _ _ h => h.elim) (fun r w1 ad1 hp => ?_)
  obtain ⟨rfl, rfl, rfl⟩ := hp
  rw [mOf_0, mOf_0]
  refine z_icmp_eq O dX8_isBetter_19 (tgt := 43) (by decide) (fun e1 => ?_) (fun e1 => ?_)
  · refine z_aload_n O dX8_isBetter_43 rfl ?_
    refine z_iload_n O dX8_isBetter_44 rfl ?_
    refine z_iconst O dX8_isBetter_45 (v := 2) (by decide) ?_
    refine z_callV O (c_X8_summed_ hl hc (P := P) (wh := 2) (by omega) (by decide)) zI zm9_27 zm9_28 zm9_29 zm7_16 zm9_25 ⟨rfl, by decide +kernel, by decide +kernel, (show _ = some 2 by decide +kernel)⟩ rfl (zg_model) ⟨Nat.le_of_ble_eq_true rfl, Nat.le_of_ble_eq_true rfl⟩ ⟨Nat.le_of_ble_eq_true rfl, Nat.le_of_ble_eq_true rfl⟩ dX8_isBetter_46 rfl (Nat.le_of_ble_eq_true rfl) (fun _ _ _ h => h.elim) (fun r w1 ad1 hp => ?_)
    obtain ⟨rfl, rfl, rfl⟩ := hp
    refine z_aload_n O dX8_isBetter_49 rfl ?_
    refine z_iload_n O dX8_isBetter_50 rfl ?_
    refine z_iconst O dX8_isBetter_51 (v := 2) (by decide) ?_
    refine z_callV O (c_X8_summed_ hl hc (P := Q) (wh := 2) (by omega) (by decide)) zI zm9_27 zm9_28 zm9_29 zm7_16 zm9_25 ⟨rfl, by decide +kernel, by decide +kernel, (show _ = some 2 by decide +kernel)⟩ rfl (zg_model) ⟨Nat.le_of_ble_eq_true rfl, Nat.le_of_ble_eq_true rfl⟩ ⟨Nat.le_of_ble_eq_true rfl, Nat.le_of_ble_eq_true rfl⟩ dX8_isBetter_52 rfl (Nat.le_of_ble_eq_true rfl) (fun _ _ _ h => h.elim) (fun r w1 ad1 hp => ?_)
    obtain ⟨rfl, rfl, rfl⟩ := hp
    rw [mOf_2 Y hc.2 hP, mOf_2 Y hc.2 hQ]
    refine z_icmp_eq O dX8_isBetter_55 (tgt := 79) (by decide) (fun e2 => ?_) (fun e2 => ?_)
    · refine z_iload_n O dX8_isBetter_79 rfl ?_
      refine z_iload_n O dX8_isBetter_80 rfl ?_
      refine z_ixor O dX8_isBetter_81 ?_
      refine z_istore_n O dX8_isBetter_82 (by decide) ?_
      refine z_iload_n O dX8_isBetter_83 rfl ?_
      refine z_iload_n O dX8_isBetter_84 rfl ?_
      refine z_iand O dX8_isBetter_85 ?_
      refine z_iload_n O dX8_isBetter_86 rfl ?_
      refine z_ineg O dX8_isBetter_87 ?_
      refine z_iand O dX8_isBetter_88 ?_
      refine z_if_eq O dX8_isBetter_89 (tgt := 96) (by decide) (fun g3 => ?_) (fun g3 => ?_)
      · refine z_iconst O dX8_isBetter_96 (v := 0) (by decide) ?_
        exact z_zret O rfl rfl dX8_isBetter_97 (Nat.le_of_ble_eq_true rfl) (Nat.le_of_ble_eq_true rfl) (Or.inr ⟨rfl, fun q => q.elim (fun a => a.1 e1) (fun a => a.2.elim (fun c => c.1 e2) (fun c => c.2 g3)), rfl, rfl⟩)
      · refine z_iconst O dX8_isBetter_92 (v := 1) (by decide) ?_
        refine z_goto O dX8_isBetter_93 (tgt := 97) (by decide) ?_
        exact z_zret O rfl rfl dX8_isBetter_97 (Nat.le_of_ble_eq_true rfl) (Nat.le_of_ble_eq_true rfl) (Or.inl ⟨rfl, Or.inr ⟨e1, Or.inr ⟨e2, g3⟩⟩, rfl, rfl⟩)
    · refine z_aload_n O dX8_isBetter_58 rfl ?_
      refine z_iload_n O dX8_isBetter_59 rfl ?_
      refine z_iconst O dX8_isBetter_60 (v := 2) (by decide) ?_
      refine z_callV O (c_X8_summed_ hl hc (P := P) (wh := 2) (by omega) (by decide)) zI zm9_27 zm9_28 zm9_29 zm7_16 zm9_25 ⟨rfl, by decide +kernel, by decide +kernel, (show _ = some 2 by decide +kernel)⟩ rfl (zg_model) ⟨Nat.le_of_ble_eq_true rfl, Nat.le_of_ble_eq_true rfl⟩ ⟨Nat.le_of_ble_eq_true rfl, Nat.le_of_ble_eq_true rfl⟩ dX8_isBetter_61 rfl (Nat.le_of_ble_eq_true rfl) (fun _ _ _ h => h.elim) (fun r w1 ad1 hp => ?_)
      obtain ⟨rfl, rfl, rfl⟩ := hp
      refine z_aload_n O dX8_isBetter_64 rfl ?_
      refine z_iload_n O dX8_isBetter_65 rfl ?_
      refine z_iconst O dX8_isBetter_66 (v := 2) (by decide) ?_
      refine z_callV O (c_X8_summed_ hl hc (P := Q) (wh := 2) (by omega) (by decide)) zI zm9_27 zm9_28 zm9_29 zm7_16 zm9_25 ⟨rfl, by decide +kernel, by decide +kernel, (show _ = some 2 by decide +kernel)⟩ rfl (zg_model) ⟨Nat.le_of_ble_eq_true rfl, Nat.le_of_ble_eq_true rfl⟩ ⟨Nat.le_of_ble_eq_true rfl, Nat.le_of_ble_eq_true rfl⟩ dX8_isBetter_67 rfl (Nat.le_of_ble_eq_true rfl) (fun _ _ _ h => h.elim) (fun r w1 ad1 hp => ?_)
      obtain ⟨rfl, rfl, rfl⟩ := hp
      rw [mOf_2 Y hc.2 hP, mOf_2 Y hc.2 hQ]
      refine z_icmp_ge O dX8_isBetter_70 (tgt := 77) (by decide) (fun g2 => ?_) (fun g2 => ?_)
      · refine z_iconst O dX8_isBetter_77 (v := 0) (by decide) ?_
        exact z_zret O rfl rfl dX8_isBetter_78 (Nat.le_of_ble_eq_true rfl) (Nat.le_of_ble_eq_true rfl) (Or.inr ⟨rfl, fun q => q.elim (fun a => a.1 e1) (fun a => a.2.elim (fun c => absurd c.2 (Int32.not_lt.mpr g2)) (fun c => e2 c.1)), rfl, rfl⟩)
      · refine z_iconst O dX8_isBetter_73 (v := 1) (by decide) ?_
        refine z_goto O dX8_isBetter_74 (tgt := 78) (by decide) ?_
        exact z_zret O rfl rfl dX8_isBetter_78 (Nat.le_of_ble_eq_true rfl) (Nat.le_of_ble_eq_true rfl) (Or.inl ⟨rfl, Or.inr ⟨e1, Or.inl ⟨e2, Int32.not_le.mp g2⟩⟩, rfl, rfl⟩)
  · refine z_aload_n O dX8_isBetter_22 rfl ?_
    refine z_iload_n O dX8_isBetter_23 rfl ?_
    refine z_iconst O dX8_isBetter_24 (v := 0) (by decide) ?_
    refine z_callV O (c_X8_summed_ hl hc (P := P) (wh := 0) (by omega) (by decide)) zI zm9_27 zm9_28 zm9_29 zm7_16 zm9_25 ⟨rfl, by decide +kernel, by decide +kernel, (show _ = some 2 by decide +kernel)⟩ rfl (zg_model) ⟨Nat.le_of_ble_eq_true rfl, Nat.le_of_ble_eq_true rfl⟩ ⟨Nat.le_of_ble_eq_true rfl, Nat.le_of_ble_eq_true rfl⟩ dX8_isBetter_25 rfl (Nat.le_of_ble_eq_true rfl) (fun _ _ _ h => h.elim) (fun r w1 ad1 hp => ?_)
    obtain ⟨rfl, rfl, rfl⟩ := hp
    refine z_aload_n O dX8_isBetter_28 rfl ?_
    refine z_iload_n O dX8_isBetter_29 rfl ?_
    refine z_iconst O dX8_isBetter_30 (v := 0) (by decide) ?_
    refine z_callV O (c_X8_summed_ hl hc (P := Q) (wh := 0) (by omega) (by decide)) zI zm9_27 zm9_28 zm9_29 zm7_16 zm9_25 ⟨rfl, by decide +kernel, by decide +kernel, (show _ = some 2 by decide +kernel)⟩ rfl (zg_model) ⟨Nat.le_of_ble_eq_true rfl, Nat.le_of_ble_eq_true rfl⟩ ⟨Nat.le_of_ble_eq_true rfl, Nat.le_of_ble_eq_true rfl⟩ dX8_isBetter_31 rfl (Nat.le_of_ble_eq_true rfl) (fun _ _ _ h => h.elim) (fun r w1 ad1 hp => ?_)
    obtain ⟨rfl, rfl, rfl⟩ := hp
    rw [mOf_0, mOf_0]
    refine z_icmp_ge O dX8_isBetter_34 (tgt := 41) (by decide) (fun g2 => ?_) (fun g2 => ?_)
    · refine z_iconst O dX8_isBetter_41 (v := 0) (by decide) ?_
      exact z_zret O rfl rfl dX8_isBetter_42 (Nat.le_of_ble_eq_true rfl) (Nat.le_of_ble_eq_true rfl) (Or.inr ⟨rfl, fun q => q.elim (fun a => absurd a.2 (Int32.not_lt.mpr g2)) (fun a => e1 a.1), rfl, rfl⟩)
    · refine z_iconst O dX8_isBetter_37 (v := 1) (by decide) ?_
      refine z_goto O dX8_isBetter_38 (tgt := 42) (by decide) ?_
      exact z_zret O rfl rfl dX8_isBetter_42 (Nat.le_of_ble_eq_true rfl) (Nat.le_of_ble_eq_true rfl) (Or.inl ⟨rfl, Or.inl ⟨e1, Int32.not_le.mp g2⟩, rfl, rfl⟩)

def mPl (q : Nat) : Int32 := if q = 0 then -1 else nI q
theorem fOf_z (Y : zM) (F : Nat) : ∀ n, fOf Y F 0 n = 0
  | 0 => rfl
  | n + 1 => by
    show fOf Y F 0 n + (if fBit 0 n = 1 then Y F n else 0) = 0
    rw [fOf_z Y F n, show fBit 0 n = 0 by simp [fBit]]
    rfl
set_option maxRecDepth 100000 in
set_option maxHeartbeats 4000000 in
theorem c_X8_planned {G : zG} {l : Launch} (hl : l.stackTraces = false) {Z : zM} {sb : Nat → Option Nat} {mcn : Nat → Int32} {cp : Nat → Nat} {Y : zM} {th : Int32} {o : Nat → Int64} {od : Nat → UInt64} {ad : Nat → Nat} (hc : zCnt Y 0) {x wd : Int32} (hwd : 6 * x = wd) (hw0 : 0 < wd) : zCt G l yX8_planned (zws yX8_planned cX8_planned 4 (some .int)) ({ frames := 2, cells := 0, slots := 0, locals := 47 }) [.ref (ad 300), .int x] (zent Z sb mcn cp G.2.2.2.1 Y th o od ad) ad (fun r w1 ad1 => some (.int (mPl (fPlan Y (zN Y 0) wd (fBt Y (zN Y 0)) (2 ^ zN Y 0)))) = r ∧ zent Z sb mcn cp G.2.2.2.1 Y th o od ad = w1 ∧ ad = ad1) (zNoX) := by
  refine z_body hl (by decide +kernel) (Nat.le_of_ble_eq_true rfl) (fun X O => ?_)
  have hp4 := z_pow2 hc.2
  have L : ∀ (n : Nat) (i : Nat), i ≤ 2 ^ zN Y 0 → 2 ^ zN Y 0 < i + n → zV G X 4 0 0 4 [(0, .ref (ad 300)), (1, .int x), (2, .int (mPl (fPlan Y (zN Y 0) wd (fBt Y (zN Y 0)) i))), (3, .int (nI i))] [] (zent Z sb mcn cp G.2.2.2.1 Y th o od ad) ad := by
    intro n
    induction n with
    | zero => intro i h1 h2; omega
    | succ n ih =>
      intro i h1 h2
      refine z_iload_n O dX8_planned_4 rfl ?_
      refine z_iconst O dX8_planned_5 (v := 1) (by decide) ?_
      refine z_aload_n O dX8_planned_6 rfl ?_
      refine z_get O (fk := 25) (v := .int (nI (zN Y 0))) (fun x h => zI x (zu_RX8 x h)) rfl (by decide) (zI _ zm7_39) dX8_planned_7 (zg_model) (by show some (Value.int (Y (25 + 0) 0)) = _; rw [hc.1]) ?_
      refine z_ishl O dX8_planned_10 ?_
      rw [z_pow _ hc.2]
      refine z_icmp_ge O dX8_planned_11 (tgt := 44) (by decide) (fun h => ?_) (fun h => ?_)
      · have hi : i = 2 ^ zN Y 0 := by have := z_ge_ge (by omega) (by omega) h; omega
        refine z_iload_n O dX8_planned_44 rfl ?_
        exact z_iret O dX8_planned_45 (Nat.le_of_ble_eq_true rfl) (Nat.le_of_ble_eq_true rfl) (⟨by rw [hi], rfl, rfl⟩)
      · have hi : i < 2 ^ zN Y 0 := z_ge_lt (by omega) (by omega) h
        refine z_aload_n O dX8_planned_14 rfl ?_
        refine z_iload_n O dX8_planned_15 rfl ?_
        refine z_iconst O dX8_planned_16 (v := 1) (by decide) ?_
        refine z_callV O (c_X8_summed_ hl hc (P := i) (wh := 1) (by omega) (by decide)) zI zm9_27 zm9_28 zm9_29 zm7_16 zm9_25 ⟨rfl, by decide +kernel, by decide +kernel, (show _ = some 2 by decide +kernel)⟩ rfl (zg_model) ⟨Nat.le_of_ble_eq_true rfl, Nat.le_of_ble_eq_true rfl⟩ ⟨Nat.le_of_ble_eq_true rfl, Nat.le_of_ble_eq_true rfl⟩ dX8_planned_17 rfl (Nat.le_of_ble_eq_true rfl) (fun _ _ _ h => h.elim) (fun r w1 ad1 hp => ?_)
        obtain ⟨rfl, rfl, rfl⟩ := hp
        rw [mOf_1]
        refine z_bipush O dX8_planned_20 (v := 6) (by decide) ?_
        refine z_iload_n O dX8_planned_22 rfl ?_
        refine z_imul O dX8_planned_23 ?_
        refine z_icmp_lt O dX8_planned_24 (tgt := 38) (by decide) (fun g => ?_) (fun g => ?_)
        · have hw9 : (fPlan Y (zN Y 0) wd (fBt Y (zN Y 0)) (i + 1)) = (fPlan Y (zN Y 0) wd (fBt Y (zN Y 0)) i) := by
            by_cases i0 : i = 0
            · subst i0; rfl
            · rw [fPlan, if_neg (show ¬ i = 0 by omega)]; exact if_neg (fun q => absurd q.1 (Int32.not_le.mpr (by rw [← hwd]; exact g)))
          refine z_iincN O dX8_planned_38 (a := i) rfl (by decide) ?_
          refine z_goto O dX8_planned_41 (tgt := 4) (by decide) ?_
          exact zV.loc (ih (i + 1) (by omega) (by omega)) ⟨rfl, rfl, by rw [show (fPlan Y (zN Y 0) wd (fBt Y (zN Y 0)) (i + 1)) = (fPlan Y (zN Y 0) wd (fBt Y (zN Y 0)) i) from hw9]; rfl, rfl, trivial⟩
        · have gs : wd ≤ fOf Y 11 i (zN Y 0) := by rw [← hwd]; exact Int32.not_lt.mp g
          have i0 : ¬ i = 0 := fun q => by subst q; rw [fOf_z] at gs; exact absurd hw0 (Int32.not_lt.mpr gs)
          have hbl := fPlan_lt Y (zN Y 0) wd (fBt Y (zN Y 0)) i (by omega)
          obtain ⟨b, hb⟩ : ∃ z, z = (fPlan Y (zN Y 0) wd (fBt Y (zN Y 0)) i) := ⟨_, rfl⟩
          rw [← hb] at hbl ⊢
          by_cases b0 : b = 0
          · rw [show mPl b = -1 from if_pos b0]
            refine z_aload_n O dX8_planned_27 rfl ?_
            refine z_iload_n O dX8_planned_28 rfl ?_
            refine z_iload_n O dX8_planned_29 rfl ?_
            refine z_callV O (c_X8_isBetterN hl) zI zm9_31 zm9_32 zm9_33 zm7_16 zm9_26 ⟨rfl, by decide +kernel, by decide +kernel, (show _ = some 2 by decide +kernel)⟩ rfl (zg_model) ⟨Nat.le_of_ble_eq_true rfl, Nat.le_of_ble_eq_true rfl⟩ ⟨Nat.le_of_ble_eq_true rfl, Nat.le_of_ble_eq_true rfl⟩ dX8_planned_30 rfl (Nat.le_of_ble_eq_true rfl) (fun _ _ _ h => h.elim) (fun r w1 ad1 hp => ?_)
            obtain ⟨rfl, rfl, rfl⟩ := hp
            refine z_if_eq O dX8_planned_33 (tgt := 38) (by decide) (fun q => absurd q (by decide)) (fun _ => ?_)
            refine z_iload_n O dX8_planned_36 rfl ?_
            refine z_istore_n O dX8_planned_37 (by decide) ?_
            refine z_iincN O dX8_planned_38 (a := i) rfl (by decide) ?_
            refine z_goto O dX8_planned_41 (tgt := 4) (by decide) ?_
            have hst : (fPlan Y (zN Y 0) wd (fBt Y (zN Y 0)) (i + 1)) = i := by rw [fPlan, if_neg (show ¬ i = 0 by omega)]; exact if_pos ⟨gs, Or.inl (by rw [← hb]; exact b0)⟩
            exact zV.loc (ih (i + 1) (by omega) (by omega)) ⟨rfl, rfl, by rw [hst, show mPl i = nI i from if_neg i0]; rfl, rfl, trivial⟩
          · rw [show mPl b = nI b from if_neg b0]
            refine z_aload_n O dX8_planned_27 rfl ?_
            refine z_iload_n O dX8_planned_28 rfl ?_
            refine z_iload_n O dX8_planned_29 rfl ?_
            refine z_callV O (c_X8_isBetter hl hc (P := i) (Q := b) hi (by omega)) zI zm9_31 zm9_32 zm9_33 zm7_16 zm9_26 ⟨rfl, by decide +kernel, by decide +kernel, (show _ = some 2 by decide +kernel)⟩ rfl (zg_model) ⟨Nat.le_of_ble_eq_true rfl, Nat.le_of_ble_eq_true rfl⟩ ⟨Nat.le_of_ble_eq_true rfl, Nat.le_of_ble_eq_true rfl⟩ dX8_planned_30 rfl (Nat.le_of_ble_eq_true rfl) (fun _ _ _ h => h.elim) (fun r w1 ad1 hp => ?_)
            rcases hp with ⟨rfl, hbb, rfl, rfl⟩ | ⟨rfl, hbb, rfl, rfl⟩
            · refine z_if_eq O dX8_planned_33 (tgt := 38) (by decide) (fun q => absurd q (by decide)) (fun _ => ?_)
              refine z_iload_n O dX8_planned_36 rfl ?_
              refine z_istore_n O dX8_planned_37 (by decide) ?_
              refine z_iincN O dX8_planned_38 (a := i) rfl (by decide) ?_
              refine z_goto O dX8_planned_41 (tgt := 4) (by decide) ?_
              have hst : (fPlan Y (zN Y 0) wd (fBt Y (zN Y 0)) (i + 1)) = i := by rw [fPlan, if_neg (show ¬ i = 0 by omega)]; exact if_pos ⟨gs, Or.inr (by rw [← hb]; exact (fBt_iff _ _).mpr hbb)⟩
              exact zV.loc (ih (i + 1) (by omega) (by omega)) ⟨rfl, rfl, by rw [hst, show mPl i = nI i from if_neg i0]; rfl, rfl, trivial⟩
            · refine z_if_eq O dX8_planned_33 (tgt := 38) (by decide) (fun _ => ?_) (fun q => absurd rfl q)
              refine z_iincN O dX8_planned_38 (a := i) rfl (by decide) ?_
              refine z_goto O dX8_planned_41 (tgt := 4) (by decide) ?_
              have hst : (fPlan Y (zN Y 0) wd (fBt Y (zN Y 0)) (i + 1)) = b := by rw [fPlan, if_neg (show ¬ i = 0 by omega)]; rw [if_neg (fun q => q.2.elim (fun z => b0 (by rw [hb]; exact z)) (fun z => hbb ((fBt_iff _ _).mp (by rw [hb]; exact z))))]; exact hb.symm
              exact zV.loc (ih (i + 1) (by omega) (by omega)) ⟨rfl, rfl, by rw [hst, show mPl b = nI b from if_neg b0]; rfl, rfl, trivial⟩
  refine z_iconst O dX8_planned_0 (v := (-1)) (by decide) ?_
  refine z_istore_n O dX8_planned_1 (by decide) ?_
  refine z_iconst O dX8_planned_2 (v := 0) (by decide) ?_
  refine z_istore_n O dX8_planned_3 (by decide) ?_
  exact zV.loc (L (2 ^ zN Y 0 + 1) 0 (Nat.zero_le _) (by rw [Nat.zero_add]; exact Nat.lt_succ_self _)) ⟨rfl, rfl, rfl, rfl, trivial⟩

theorem hw6 : ∀ n, n < 21 → 0 < n → 0 < 6 * nI n := by decide +kernel
theorem fR_6 {x : Int32} (h : fR x 1 20) : 0 < 6 * x := by
  obtain ⟨t, rfl, ht⟩ := fR_nat (b := 20) (by decide) h
  refine hw6 t (by omega) ?_
  rcases Nat.eq_zero_or_pos t with q | q
  · subst q; exact absurd h.1 (by decide)
  · exact q
set_option maxRecDepth 100000 in
set_option maxHeartbeats 4000000 in
theorem c_X8_planCost {G : zG} {l : Launch} (hl : l.stackTraces = false) {Z : zM} {sb : Nat → Option Nat} {mcn : Nat → Int32} {cp : Nat → Nat} {Y : zM} {th : Int32} {o : Nat → Int64} {od : Nat → UInt64} {ad : Nat → Nat} (hc : zCnt Y 0) {x : Int32} : zCt G l yX8_planCost (zws yX8_planCost cX8_planCost 3 (some .int)) ({ frames := 3, cells := 0, slots := 0, locals := 70 }) [.ref (ad 300), .int x] (zent Z sb mcn cp G.2.2.2.1 Y th o od ad) ad (fun r w1 ad1 => (kCost Y x = 0 ∧ some (.int (fOf Y 13 (fBest Y x) (zN Y 0))) = r ∧ zent Z sb mcn cp G.2.2.2.1 Y 0 o od ad = w1 ∧ ad = ad1) ∨ (kCost Y x ≠ 0 ∧ (∃ v, some (.int v) = r) ∧ zent Z sb mcn cp G.2.2.2.1 Y (nI (kCost Y x)) o od ad = w1 ∧ ad = ad1)) (zNoX) := by
  refine z_body hl (by decide +kernel) (Nat.le_of_ble_eq_true rfl) (fun X O => ?_)
  refine z_iload_n O dX8_planCost_0 rfl ?_
  refine z_iconst O dX8_planCost_1 (v := 1) (by decide) ?_
  refine z_bipush O dX8_planCost_2 (v := 20) (by decide) ?_
  refine z_callS O (c_X8_in hl) zI zm7_65 zm7_66 zm7_16 zm7_56 ⟨by decide +kernel, by decide +kernel, (show _ = some 3 by decide +kernel)⟩ ⟨Nat.le_of_ble_eq_true rfl, Nat.le_of_ble_eq_true rfl⟩ ⟨Nat.le_of_ble_eq_true rfl, Nat.le_of_ble_eq_true rfl⟩ dX8_planCost_4 rfl (Nat.le_of_ble_eq_true rfl) (fun _ _ _ h => h.elim) (fun r w1 ad1 hp => ?_)
  rcases hp with ⟨rfl, hb, rfl, rfl⟩ | ⟨rfl, hb, rfl, rfl⟩
  · refine z_if_ne O dX8_planCost_7 (tgt := 16) (by decide) (fun _ => ?_) (fun q => absurd q (by decide))
    refine z_aload_n O dX8_planCost_16 rfl ?_
    refine z_iload_n O dX8_planCost_17 rfl ?_
    refine z_callV O (c_X8_planned hl hc (wd := 6 * x) rfl (fR_6 hb)) zI zm9_34 zm9_35 zm9_36 zm7_16 zm9_30 ⟨rfl, by decide +kernel, by decide +kernel, (show _ = some 1 by decide +kernel)⟩ rfl (zg_model) ⟨Nat.le_of_ble_eq_true rfl, Nat.le_of_ble_eq_true rfl⟩ ⟨Nat.le_of_ble_eq_true rfl, Nat.le_of_ble_eq_true rfl⟩ dX8_planCost_18 rfl (Nat.le_of_ble_eq_true rfl) (fun _ _ _ h => h.elim) (fun r w1 ad1 hp => ?_)
    obtain ⟨rfl, rfl, rfl⟩ := hp
    rw [show fPlan Y (zN Y 0) (6 * x) (fBt Y (zN Y 0)) (2 ^ zN Y 0) = fBest Y x from rfl]
    have hb4 : fBest Y x < 4096 := Nat.lt_of_lt_of_le (fPlan_lt _ _ _ _ _ (Nat.two_pow_pos _)) (z_pow2 hc.2)
    by_cases e : fBest Y x = 0
    · rw [show mPl (fBest Y x) = -1 from if_pos e]
      refine z_istore_n O dX8_planCost_21 (by decide) ?_
      refine z_iload_n O dX8_planCost_22 rfl ?_
      refine z_iconst O dX8_planCost_23 (v := (-1)) (by decide) ?_
      refine z_icmp_ne O dX8_planCost_24 (tgt := 35) (by decide) (fun q => absurd rfl q) (fun _ => ?_)
      refine z_aload_n O dX8_planCost_27 rfl ?_
      refine z_iconst O dX8_planCost_28 (v := 2) (by decide) ?_
      refine z_callV O (c_X8_fails hl) zI zm8_0 zm8_1 zm8_2 zm7_16 zm7_59 ⟨rfl, by decide +kernel, by decide +kernel, (show _ = some 1 by decide +kernel)⟩ rfl (zg_model) ⟨Nat.le_of_ble_eq_true rfl, Nat.le_of_ble_eq_true rfl⟩ ⟨Nat.le_of_ble_eq_true rfl, Nat.le_of_ble_eq_true rfl⟩ dX8_planCost_29 rfl (Nat.le_of_ble_eq_true rfl) (fun _ _ _ h => h.elim) (fun r w1 ad1 hp => ?_)
      obtain ⟨rfl, rfl, rfl⟩ := hp
      refine z_goto O dX8_planCost_32 (tgt := 45) (by decide) ?_
      exact z_iret O dX8_planCost_45 (Nat.le_of_ble_eq_true rfl) (Nat.le_of_ble_eq_true rfl) (Or.inr ⟨by unfold kCost; rw [if_neg (fun q => q hb), if_pos e]; decide, ⟨_, rfl⟩, by unfold kCost; rw [if_neg (fun q => q hb), if_pos e]; rfl, rfl⟩)
    · rw [show mPl (fBest Y x) = nI (fBest Y x) from if_neg e]
      refine z_istore_n O dX8_planCost_21 (by decide) ?_
      refine z_iload_n O dX8_planCost_22 rfl ?_
      refine z_iconst O dX8_planCost_23 (v := (-1)) (by decide) ?_
      refine z_icmp_ne O dX8_planCost_24 (tgt := 35) (by decide) (fun _ => ?_) (fun q => absurd q (nI_ne_m1 _ (by omega)))
      refine z_aload_n O dX8_planCost_35 rfl ?_
      refine z_aload_n O dX8_planCost_36 rfl ?_
      refine z_iload_n O dX8_planCost_37 rfl ?_
      refine z_iconst O dX8_planCost_38 (v := 0) (by decide) ?_
      refine z_callV O (c_X8_summed_ hl hc (P := fBest Y x) (wh := 0) (by omega) (by decide)) zI zm9_27 zm9_28 zm9_29 zm7_16 zm9_25 ⟨rfl, by decide +kernel, by decide +kernel, (show _ = some 2 by decide +kernel)⟩ rfl (zg_model) ⟨Nat.le_of_ble_eq_true rfl, Nat.le_of_ble_eq_true rfl⟩ ⟨Nat.le_of_ble_eq_true rfl, Nat.le_of_ble_eq_true rfl⟩ dX8_planCost_39 rfl (Nat.le_of_ble_eq_true rfl) (fun _ _ _ h => h.elim) (fun r w1 ad1 hp => ?_)
      obtain ⟨rfl, rfl, rfl⟩ := hp
      refine z_callV O (c_X8_tells hl) zI zm8_6 zm8_7 zm8_8 zm7_16 zm7_61 ⟨rfl, by decide +kernel, by decide +kernel, (show _ = some 1 by decide +kernel)⟩ rfl (zg_model) ⟨Nat.le_of_ble_eq_true rfl, Nat.le_of_ble_eq_true rfl⟩ ⟨Nat.le_of_ble_eq_true rfl, Nat.le_of_ble_eq_true rfl⟩ dX8_planCost_42 rfl (Nat.le_of_ble_eq_true rfl) (fun _ _ _ h => h.elim) (fun r w1 ad1 hp => ?_)
      obtain ⟨rfl, rfl, rfl⟩ := hp
      exact z_iret O dX8_planCost_45 (Nat.le_of_ble_eq_true rfl) (Nat.le_of_ble_eq_true rfl) (Or.inl ⟨by unfold kCost; rw [if_neg (fun q => q hb), if_neg e], rfl, rfl, rfl⟩)
  · refine z_if_ne O dX8_planCost_7 (tgt := 16) (by decide) (fun q => absurd rfl q) (fun _ => ?_)
    refine z_aload_n O dX8_planCost_10 rfl ?_
    refine z_iconst O dX8_planCost_11 (v := 1) (by decide) ?_
    refine z_callV O (c_X8_fails hl) zI zm8_0 zm8_1 zm8_2 zm7_16 zm7_59 ⟨rfl, by decide +kernel, by decide +kernel, (show _ = some 1 by decide +kernel)⟩ rfl (zg_model) ⟨Nat.le_of_ble_eq_true rfl, Nat.le_of_ble_eq_true rfl⟩ ⟨Nat.le_of_ble_eq_true rfl, Nat.le_of_ble_eq_true rfl⟩ dX8_planCost_12 rfl (Nat.le_of_ble_eq_true rfl) (fun _ _ _ h => h.elim) (fun r w1 ad1 hp => ?_)
    obtain ⟨rfl, rfl, rfl⟩ := hp
    exact z_iret O dX8_planCost_15 (Nat.le_of_ble_eq_true rfl) (Nat.le_of_ble_eq_true rfl) (Or.inr ⟨by unfold kCost; rw [if_pos hb]; decide, ⟨_, rfl⟩, by unfold kCost; rw [if_pos hb]; rfl, rfl⟩)

set_option maxRecDepth 100000 in
set_option maxHeartbeats 4000000 in
theorem c_X8_isPlanned {G : zG} {l : Launch} (hl : l.stackTraces = false) {Z : zM} {sb : Nat → Option Nat} {mcn : Nat → Int32} {cp : Nat → Nat} {Y : zM} {th : Int32} {o : Nat → Int64} {od : Nat → UInt64} {ad : Nat → Nat} (hc : zCnt Y 0) {x y : Int32} : zCt G l yX8_isPlanned (zws yX8_isPlanned cX8_isPlanned 4 (some .boolean)) ({ frames := 3, cells := 0, slots := 0, locals := 70 }) [.ref (ad 300), .int x, .int y] (zent Z sb mcn cp G.2.2.2.1 Y th o od ad) ad (fun r w1 ad1 => (kPlanned Y x y = 0 ∧ some (.int (if fBit (fBest Y x) y.toNatClampNeg = 1 then 1 else 0)) = r ∧ zent Z sb mcn cp G.2.2.2.1 Y 0 o od ad = w1 ∧ ad = ad1) ∨ (kPlanned Y x y ≠ 0 ∧ (∃ v, some (.int v) = r) ∧ zent Z sb mcn cp G.2.2.2.1 Y (nI (kPlanned Y x y)) o od ad = w1 ∧ ad = ad1)) (zNoX) := by
  refine z_body hl (by decide +kernel) (Nat.le_of_ble_eq_true rfl) (fun X O => ?_)
  refine z_aload_n O dX8_isPlanned_0 rfl ?_
  refine z_iload_n O dX8_isPlanned_1 rfl ?_
  refine z_iconst O dX8_isPlanned_2 (v := 1) (by decide) ?_
  refine z_bipush O dX8_isPlanned_3 (v := 20) (by decide) ?_
  refine z_callS O (c_X8_in hl) zI zm7_65 zm7_66 zm7_16 zm7_56 ⟨by decide +kernel, by decide +kernel, (show _ = some 3 by decide +kernel)⟩ ⟨Nat.le_of_ble_eq_true rfl, Nat.le_of_ble_eq_true rfl⟩ ⟨Nat.le_of_ble_eq_true rfl, Nat.le_of_ble_eq_true rfl⟩ dX8_isPlanned_5 rfl (Nat.le_of_ble_eq_true rfl) (fun _ _ _ h => h.elim) (fun r w1 ad1 hp => ?_)
  rcases hp with ⟨rfl, hb, rfl, rfl⟩ | ⟨rfl, hb, rfl, rfl⟩
  · refine z_if_ne O dX8_isPlanned_8 (tgt := 15) (by decide) (fun _ => ?_) (fun q => absurd q (by decide))
    refine z_aload_n O dX8_isPlanned_15 rfl ?_
    refine z_iload_n O dX8_isPlanned_16 rfl ?_
    refine z_callV O (c_X8_isHand hl hc) zI zm8_21 zm8_22 zm8_23 zm7_16 zm7_67 ⟨rfl, by decide +kernel, by decide +kernel, (show _ = some 1 by decide +kernel)⟩ rfl (zg_model) ⟨Nat.le_of_ble_eq_true rfl, Nat.le_of_ble_eq_true rfl⟩ ⟨Nat.le_of_ble_eq_true rfl, Nat.le_of_ble_eq_true rfl⟩ dX8_isPlanned_17 rfl (Nat.le_of_ble_eq_true rfl) (fun _ _ _ h => h.elim) (fun r w1 ad1 hp => ?_)
    rcases hp with ⟨rfl, hh, rfl, rfl⟩ | ⟨rfl, hh, rfl, rfl⟩
    · refine z_if_eq O dX8_isPlanned_20 (tgt := 27) (by decide) (fun q => absurd q (by decide)) (fun _ => ?_)
      refine z_iconst O dX8_isPlanned_23 (v := 0) (by decide) ?_
      refine z_goto O dX8_isPlanned_24 (tgt := 28) (by decide) ?_
      refine z_callV O (c_X8_failsIf hl (x := 0)) zI zm8_32 zm8_33 zm8_34 zm7_16 zm7_63 ⟨rfl, by decide +kernel, by decide +kernel, (show _ = some 1 by decide +kernel)⟩ rfl (zg_model) ⟨Nat.le_of_ble_eq_true rfl, Nat.le_of_ble_eq_true rfl⟩ ⟨Nat.le_of_ble_eq_true rfl, Nat.le_of_ble_eq_true rfl⟩ dX8_isPlanned_28 rfl (Nat.le_of_ble_eq_true rfl) (fun _ _ _ h => h.elim) (fun r w1 ad1 hp => ?_)
      rcases hp with ⟨rfl, hb0, rfl, rfl⟩ | ⟨rfl, hb0, rfl, rfl⟩
      · exact absurd hb0 (by decide)
      · obtain ⟨j, rfl, hj⟩ := fI_cnt (i := 0) hc hh
        have hj12 : j < 12 := by have := hc.2; omega
        have hcl : (nI j).toNatClampNeg = j := nI_clamp (by omega)
        rw [hcl] at O
        refine z_if_eq O dX8_isPlanned_31 (tgt := 36) (by decide) (fun _ => ?_) (fun q => absurd rfl q)
        refine z_aload_n O dX8_isPlanned_36 rfl ?_
        refine z_iload_n O dX8_isPlanned_37 rfl ?_
        refine z_callV O (c_X8_planned hl hc (wd := 6 * x) rfl (fR_6 hb)) zI zm9_34 zm9_35 zm9_36 zm7_16 zm9_30 ⟨rfl, by decide +kernel, by decide +kernel, (show _ = some 1 by decide +kernel)⟩ rfl (zg_model) ⟨Nat.le_of_ble_eq_true rfl, Nat.le_of_ble_eq_true rfl⟩ ⟨Nat.le_of_ble_eq_true rfl, Nat.le_of_ble_eq_true rfl⟩ dX8_isPlanned_38 rfl (Nat.le_of_ble_eq_true rfl) (fun _ _ _ h => h.elim) (fun r w1 ad1 hp => ?_)
        obtain ⟨rfl, rfl, rfl⟩ := hp
        rw [show fPlan Y (zN Y 0) (6 * x) (fBt Y (zN Y 0)) (2 ^ zN Y 0) = fBest Y x from rfl]
        have hb4 : fBest Y x < 4096 := Nat.lt_of_lt_of_le (fPlan_lt _ _ _ _ _ (Nat.two_pow_pos _)) (z_pow2 hc.2)
        by_cases e : fBest Y x = 0
        · rw [show mPl (fBest Y x) = -1 from if_pos e]
          refine z_istore_n O dX8_isPlanned_41 (by decide) ?_
          refine z_aload_n O dX8_isPlanned_42 rfl ?_
          refine z_iload_n O dX8_isPlanned_43 rfl ?_
          refine z_iconst O dX8_isPlanned_44 (v := (-1)) (by decide) ?_
          refine z_icmp_ne O dX8_isPlanned_45 (tgt := 52) (by decide) (fun q => absurd rfl q) (fun _ => ?_)
          refine z_iconst O dX8_isPlanned_48 (v := 3) (by decide) ?_
          refine z_goto O dX8_isPlanned_49 (tgt := 53) (by decide) ?_
          refine z_callV O (c_X8_failsIf hl (x := 3)) zI zm8_32 zm8_33 zm8_34 zm7_16 zm7_63 ⟨rfl, by decide +kernel, by decide +kernel, (show _ = some 1 by decide +kernel)⟩ rfl (zg_model) ⟨Nat.le_of_ble_eq_true rfl, Nat.le_of_ble_eq_true rfl⟩ ⟨Nat.le_of_ble_eq_true rfl, Nat.le_of_ble_eq_true rfl⟩ dX8_isPlanned_53 rfl (Nat.le_of_ble_eq_true rfl) (fun _ _ _ h => h.elim) (fun r w1 ad1 hp => ?_)
          rcases hp with ⟨rfl, hb1, rfl, rfl⟩ | ⟨rfl, hb1, rfl, rfl⟩
          · refine z_if_ne O dX8_isPlanned_56 (tgt := 72) (by decide) (fun _ => ?_) (fun q => absurd q (by decide))
            refine z_iconst O dX8_isPlanned_72 (v := 0) (by decide) ?_
            exact z_zret O rfl rfl dX8_isPlanned_73 (Nat.le_of_ble_eq_true rfl) (Nat.le_of_ble_eq_true rfl) (Or.inr ⟨by unfold kPlanned; rw [if_neg (fun q => q hb), if_neg (fun q => q hh), if_pos e]; decide, ⟨_, rfl⟩, by unfold kPlanned; rw [if_neg (fun q => q hb), if_neg (fun q => q hh), if_pos e]; rfl, rfl⟩)
          · exact absurd (by decide) hb1
        · rw [show mPl (fBest Y x) = nI (fBest Y x) from if_neg e]
          refine z_istore_n O dX8_isPlanned_41 (by decide) ?_
          refine z_aload_n O dX8_isPlanned_42 rfl ?_
          refine z_iload_n O dX8_isPlanned_43 rfl ?_
          refine z_iconst O dX8_isPlanned_44 (v := (-1)) (by decide) ?_
          refine z_icmp_ne O dX8_isPlanned_45 (tgt := 52) (by decide) (fun _ => ?_) (fun q => absurd q (nI_ne_m1 _ (by omega)))
          refine z_iconst O dX8_isPlanned_52 (v := 0) (by decide) ?_
          refine z_callV O (c_X8_failsIf hl (x := 0)) zI zm8_32 zm8_33 zm8_34 zm7_16 zm7_63 ⟨rfl, by decide +kernel, by decide +kernel, (show _ = some 1 by decide +kernel)⟩ rfl (zg_model) ⟨Nat.le_of_ble_eq_true rfl, Nat.le_of_ble_eq_true rfl⟩ ⟨Nat.le_of_ble_eq_true rfl, Nat.le_of_ble_eq_true rfl⟩ dX8_isPlanned_53 rfl (Nat.le_of_ble_eq_true rfl) (fun _ _ _ h => h.elim) (fun r w1 ad1 hp => ?_)
          rcases hp with ⟨rfl, hb1, rfl, rfl⟩ | ⟨rfl, hb1, rfl, rfl⟩
          · exact absurd hb1 (by decide)
          · refine z_if_ne O dX8_isPlanned_56 (tgt := 72) (by decide) (fun q => absurd rfl q) (fun _ => ?_)
            refine z_iload_n O dX8_isPlanned_59 rfl ?_
            refine z_iload_n O dX8_isPlanned_60 rfl ?_
            refine z_ishr O dX8_isPlanned_61 ?_
            refine z_iconst O dX8_isPlanned_62 (v := 1) (by decide) ?_
            refine z_iand O dX8_isPlanned_63 ?_
            rw [fBit_sh (by omega) (by omega)]
            rcases fBit_2 (fBest Y x) j with k | k
            · rw [k]
              refine z_iconst O dX8_isPlanned_64 (v := 1) (by decide) ?_
              refine z_icmp_ne O dX8_isPlanned_65 (tgt := 72) (by decide) (fun _ => ?_) (fun q => absurd q (by decide))
              refine z_iconst O dX8_isPlanned_72 (v := 0) (by decide) ?_
              exact z_zret O rfl rfl dX8_isPlanned_73 (Nat.le_of_ble_eq_true rfl) (Nat.le_of_ble_eq_true rfl) (Or.inl ⟨by unfold kPlanned; rw [if_neg (fun q => q hb), if_neg (fun q => q hh), if_neg e], by rw [k]; rfl, rfl, rfl⟩)
            · rw [k]
              refine z_iconst O dX8_isPlanned_64 (v := 1) (by decide) ?_
              refine z_icmp_ne O dX8_isPlanned_65 (tgt := 72) (by decide) (fun q => absurd rfl q) (fun _ => ?_)
              refine z_iconst O dX8_isPlanned_68 (v := 1) (by decide) ?_
              refine z_goto O dX8_isPlanned_69 (tgt := 73) (by decide) ?_
              exact z_zret O rfl rfl dX8_isPlanned_73 (Nat.le_of_ble_eq_true rfl) (Nat.le_of_ble_eq_true rfl) (Or.inl ⟨by unfold kPlanned; rw [if_neg (fun q => q hb), if_neg (fun q => q hh), if_neg e], by rw [k]; rfl, rfl, rfl⟩)
    · refine z_if_eq O dX8_isPlanned_20 (tgt := 27) (by decide) (fun _ => ?_) (fun q => absurd rfl q)
      refine z_iconst O dX8_isPlanned_27 (v := 2) (by decide) ?_
      refine z_callV O (c_X8_failsIf hl (x := 2)) zI zm8_32 zm8_33 zm8_34 zm7_16 zm7_63 ⟨rfl, by decide +kernel, by decide +kernel, (show _ = some 1 by decide +kernel)⟩ rfl (zg_model) ⟨Nat.le_of_ble_eq_true rfl, Nat.le_of_ble_eq_true rfl⟩ ⟨Nat.le_of_ble_eq_true rfl, Nat.le_of_ble_eq_true rfl⟩ dX8_isPlanned_28 rfl (Nat.le_of_ble_eq_true rfl) (fun _ _ _ h => h.elim) (fun r w1 ad1 hp => ?_)
      rcases hp with ⟨rfl, hb0, rfl, rfl⟩ | ⟨rfl, hb0, rfl, rfl⟩
      · refine z_if_eq O dX8_isPlanned_31 (tgt := 36) (by decide) (fun q => absurd q (by decide)) (fun _ => ?_)
        refine z_iconst O dX8_isPlanned_34 (v := 0) (by decide) ?_
        exact z_zret O rfl rfl dX8_isPlanned_35 (Nat.le_of_ble_eq_true rfl) (Nat.le_of_ble_eq_true rfl) (Or.inr ⟨by unfold kPlanned; rw [if_neg (fun q => q hb), if_pos hh]; decide, ⟨_, rfl⟩, by unfold kPlanned; rw [if_neg (fun q => q hb), if_pos hh]; rfl, rfl⟩)
      · exact absurd (by decide) hb0
  · refine z_if_ne O dX8_isPlanned_8 (tgt := 15) (by decide) (fun q => absurd rfl q) (fun _ => ?_)
    refine z_iconst O dX8_isPlanned_11 (v := 1) (by decide) ?_
    refine z_goto O dX8_isPlanned_12 (tgt := 28) (by decide) ?_
    refine z_callV O (c_X8_failsIf hl (x := 1)) zI zm8_32 zm8_33 zm8_34 zm7_16 zm7_63 ⟨rfl, by decide +kernel, by decide +kernel, (show _ = some 1 by decide +kernel)⟩ rfl (zg_model) ⟨Nat.le_of_ble_eq_true rfl, Nat.le_of_ble_eq_true rfl⟩ ⟨Nat.le_of_ble_eq_true rfl, Nat.le_of_ble_eq_true rfl⟩ dX8_isPlanned_28 rfl (Nat.le_of_ble_eq_true rfl) (fun _ _ _ h => h.elim) (fun r w1 ad1 hp => ?_)
    rcases hp with ⟨rfl, hb0, rfl, rfl⟩ | ⟨rfl, hb0, rfl, rfl⟩
    · refine z_if_eq O dX8_isPlanned_31 (tgt := 36) (by decide) (fun q => absurd q (by decide)) (fun _ => ?_)
      refine z_iconst O dX8_isPlanned_34 (v := 0) (by decide) ?_
      exact z_zret O rfl rfl dX8_isPlanned_35 (Nat.le_of_ble_eq_true rfl) (Nat.le_of_ble_eq_true rfl) (Or.inr ⟨by unfold kPlanned; rw [if_pos hb]; decide, ⟨_, rfl⟩, by unfold kPlanned; rw [if_pos hb]; rfl, rfl⟩)
    · exact absurd (by decide) hb0

theorem mK10 : ∀ a, a < 8 → ∀ b, b < 10 → 10 * nI a + nI b = nI (a * 10 + b) := by decide +kernel
set_option maxRecDepth 100000 in
set_option maxHeartbeats 4000000 in
theorem c_X8_checksum {G : zG} {l : Launch} (hl : l.stackTraces = false) {Z : zM} {sb : Nat → Option Nat} {mcn : Nat → Int32} {cp : Nat → Nat} {Y : zM} {th : Int32} {o : Nat → Int64} {od : Nat → UInt64} {ad : Nat → Nat} (hh : zHouse Y) (hc : zCnt Y 0) : zCt G l yX8_checksum (zws yX8_checksum cX8_checksum 5 (some .long)) ({ frames := 0, cells := 0, slots := 0, locals := 0 }) [.ref (ad 300)] (zent Z sb mcn cp G.2.2.2.1 Y th o od ad) ad (fun r w1 ad1 => some (.long (fSum64 Y)) = r ∧ zent Z sb mcn cp G.2.2.2.1 Y 0 o od ad = w1 ∧ ad = ad1) (zNoX) := by
  refine z_body hl (by decide +kernel) (Nat.le_of_ble_eq_true rfl) (fun X O => ?_)
  obtain ⟨d1, d2, d3, d4⟩ := zHouse_dim hh
  obtain ⟨nr, hnr⟩ : ∃ z, z = (Y 23 0).toNatClampNeg := ⟨_, rfl⟩
  obtain ⟨nc, hnc⟩ : ∃ z, z = (Y 24 0).toNatClampNeg := ⟨_, rfl⟩
  rw [← hnr] at d1 d3
  rw [← hnc] at d2 d4
  have L : ∀ (n : Nat) (a : Nat), a ≤ nr → nr < a + n → zV G X 5 0 0 11 [(0, .ref (ad 300)), (1, .long (fKr Y nc a)), (3, .int (nI a))] [] (zent Z sb mcn cp G.2.2.2.1 Y 0 o od ad) ad := by
    intro n
    induction n with
    | zero => intro a h1 h2; omega
    | succ n ih =>
      intro a h1 h2
      refine z_iload_n O dX8_checksum_11 rfl ?_
      refine z_aload_n O dX8_checksum_12 rfl ?_
      refine z_get O (fk := 23) (v := .int (nI nr)) (fun x h => zI x (zu_RX8 x h)) rfl (by decide) (zI _ zm7_37) dX8_checksum_13 (zg_model) (by show some (Value.int (Y 23 0)) = _; rw [d1]) ?_
      refine z_icmp_ge O dX8_checksum_16 (tgt := 63) (by decide) (fun h => ?_) (fun h => ?_)
      · have hi : a = nr := by have := z_ge_ge (by omega) (by omega) h; omega
        subst hi
        obtain ⟨S, hS⟩ : ∃ z, z = 31 * (31 * (31 * (31 * fKr Y nc a + (Y 31 0).toInt64) + (Y 32 0).toInt64) + (Y 34 0).toInt64) + (Y 35 0).toInt64 := ⟨_, rfl⟩
        have L3 : ∀ (n : Nat) (j : Nat), j ≤ zN Y 0 → zN Y 0 < j + n → zV G X 5 0 0 107 [(0, .ref (ad 300)), (1, .long (fKh Y S j)), (3, .int (nI j))] [] (zent Z sb mcn cp G.2.2.2.1 Y 0 o od ad) ad := by
          intro n
          induction n with
          | zero => intro j h5 h6; omega
          | succ n ih =>
            intro j h5 h6
            refine z_iload_n O dX8_checksum_107 rfl ?_
            refine z_aload_n O dX8_checksum_108 rfl ?_
            refine z_get O (fk := 25) (v := .int (nI (zN Y 0))) (fun x h => zI x (zu_RX8 x h)) rfl (by decide) (zI _ zm7_39) dX8_checksum_109 (zg_model) (by show some (Value.int (Y (25 + 0) 0)) = _; rw [hc.1]) ?_
            refine z_icmp_ge O dX8_checksum_112 (tgt := 135) (by decide) (fun g => ?_) (fun g => ?_)
            · have hj : j = zN Y 0 := by have := z_ge_ge (by have := hc.2; omega) (by have := hc.2; omega) g; omega
              refine z_lload_n O dX8_checksum_135 rfl ?_
              exact z_lret O dX8_checksum_136 (Nat.le_of_ble_eq_true rfl) (Nat.le_of_ble_eq_true rfl) (⟨by unfold fSum64; rw [← hnc, ← hnr, ← hS, hj], rfl, rfl⟩)
            · have hj : j < zN Y 0 := z_ge_lt (by have := hc.2; omega) (by have := hc.2; omega) g
              refine z_ldc2 O (zI _ zm9_41) dX8_checksum_115 ?_
              refine z_lload_n O dX8_checksum_118 rfl ?_
              refine z_lmul O dX8_checksum_119 ?_
              refine z_aload_n O dX8_checksum_120 rfl ?_
              refine z_get O (fk := 14) (fun x h => zI x (zu_RX8 x h)) rfl (by decide) (zI _ zm7_28) dX8_checksum_121 (zg_model) rfl ?_
              refine z_iload_n O dX8_checksum_124 rfl ?_
              refine z_iald O dX8_checksum_125 (zg_mI (i := 14) (n := 12) rfl rfl (by decide)) (j) (rfl) (by have := hc.2; omega) (by decide) ?_
              refine z_i2l O dX8_checksum_126 rfl ?_
              refine z_ladd O dX8_checksum_127 ?_
              refine z_lstore_n O dX8_checksum_128 (by decide) ?_
              refine z_iincN O dX8_checksum_129 (a := j) rfl (by decide) ?_
              refine z_goto O dX8_checksum_132 (tgt := 107) (by decide) ?_
              exact zV.loc (ih (j + 1) (by omega) (by omega)) ⟨rfl, rfl, rfl, trivial⟩
        refine z_ldc2 O (zI _ zm9_41) dX8_checksum_63 ?_
        refine z_ldc2 O (zI _ zm9_41) dX8_checksum_66 ?_
        refine z_ldc2 O (zI _ zm9_41) dX8_checksum_69 ?_
        refine z_ldc2 O (zI _ zm9_41) dX8_checksum_72 ?_
        refine z_lload_n O dX8_checksum_75 rfl ?_
        refine z_lmul O dX8_checksum_76 ?_
        refine z_aload_n O dX8_checksum_77 rfl ?_
        refine z_get O (fk := 31) (fun x h => zI x (zu_RX8 x h)) rfl (by decide) (zI _ zm7_45) dX8_checksum_78 (zg_model) rfl ?_
        refine z_i2l O dX8_checksum_81 rfl ?_
        refine z_ladd O dX8_checksum_82 ?_
        refine z_lmul O dX8_checksum_83 ?_
        refine z_aload_n O dX8_checksum_84 rfl ?_
        refine z_get O (fk := 32) (fun x h => zI x (zu_RX8 x h)) rfl (by decide) (zI _ zm7_46) dX8_checksum_85 (zg_model) rfl ?_
        refine z_i2l O dX8_checksum_88 rfl ?_
        refine z_ladd O dX8_checksum_89 ?_
        refine z_lmul O dX8_checksum_90 ?_
        refine z_aload_n O dX8_checksum_91 rfl ?_
        refine z_get O (fk := 34) (fun x h => zI x (zu_RX8 x h)) rfl (by decide) (zI _ zm7_48) dX8_checksum_92 (zg_model) rfl ?_
        refine z_i2l O dX8_checksum_95 rfl ?_
        refine z_ladd O dX8_checksum_96 ?_
        refine z_lmul O dX8_checksum_97 ?_
        refine z_aload_n O dX8_checksum_98 rfl ?_
        refine z_get O (fk := 35) (fun x h => zI x (zu_RX8 x h)) rfl (by decide) (zI _ zm7_49) dX8_checksum_99 (zg_model) rfl ?_
        refine z_i2l O dX8_checksum_102 rfl ?_
        refine z_ladd O dX8_checksum_103 ?_
        refine z_lstore_n O dX8_checksum_104 (by decide) ?_
        refine z_iconst O dX8_checksum_105 (v := 0) (by decide) ?_
        refine z_istore_n O dX8_checksum_106 (by decide) ?_
        rw [← hS]
        exact zV.loc (L3 (zN Y 0 + 1) 0 (by omega) (by omega)) ⟨rfl, rfl, rfl, trivial⟩
      · have hi : a < nr := z_ge_lt (by omega) (by omega) h
        have ihO := ih
        have L2 : ∀ (n : Nat) (b : Nat), b ≤ nc → nc < b + n → zV G X 5 0 0 22 [(0, .ref (ad 300)), (1, .long (fKs Y a (fKr Y nc a) b)), (3, .int (nI a)), (4, .int (nI b))] [] (zent Z sb mcn cp G.2.2.2.1 Y 0 o od ad) ad := by
          intro n
          induction n with
          | zero => intro b h3 h4; omega
          | succ n ih =>
            intro b h3 h4
            refine z_iload O dX8_checksum_22 rfl ?_
            refine z_aload_n O dX8_checksum_24 rfl ?_
            refine z_get O (fk := 24) (v := .int (nI nc)) (fun x h => zI x (zu_RX8 x h)) rfl (by decide) (zI _ zm7_38) dX8_checksum_25 (zg_model) (by show some (Value.int (Y 24 0)) = _; rw [d2]) ?_
            refine z_icmp_ge O dX8_checksum_28 (tgt := 57) (by decide) (fun h9 => ?_) (fun h9 => ?_)
            · have hj : b = nc := by have := z_ge_ge (by omega) (by omega) h9; omega
              subst hj
              refine z_iincN O dX8_checksum_57 (a := a) rfl (by decide) ?_
              refine z_goto O dX8_checksum_60 (tgt := 11) (by decide) ?_
              exact zV.loc (ihO (a + 1) (by omega) (by omega)) ⟨rfl, rfl, rfl, trivial⟩
            · have hj : b < nc := z_ge_lt (by omega) (by omega) h9
              have hix : 10 * nI a + nI b = nI (a * 10 + b) := mK10 a (by omega) b (by omega)
              refine z_ldc2 O (zI _ zm9_41) dX8_checksum_31 ?_
              refine z_lload_n O dX8_checksum_34 rfl ?_
              refine z_lmul O dX8_checksum_35 ?_
              refine z_aload_n O dX8_checksum_36 rfl ?_
              refine z_get O (fk := 3) (fun x h => zI x (zu_RX8 x h)) rfl (by decide) (zI _ zm7_5) dX8_checksum_37 (zg_model) rfl ?_
              refine z_bipush O dX8_checksum_40 (v := 10) (by decide) ?_
              refine z_iload_n O dX8_checksum_42 rfl ?_
              refine z_imul O dX8_checksum_43 ?_
              refine z_iload O dX8_checksum_44 rfl ?_
              refine z_iadd O dX8_checksum_46 ?_
              refine z_iald O dX8_checksum_47 (zg_mI (i := 3) (n := 80) rfl rfl (by decide)) (a * 10 + b) (hix) (by omega) (by decide) ?_
              refine z_i2l O dX8_checksum_48 rfl ?_
              refine z_ladd O dX8_checksum_49 ?_
              refine z_lstore_n O dX8_checksum_50 (by decide) ?_
              refine z_iincN O dX8_checksum_51 (a := b) rfl (by decide) ?_
              refine z_goto O dX8_checksum_54 (tgt := 22) (by decide) ?_
              exact zV.loc (ih (b + 1) (by omega) (by omega)) ⟨rfl, rfl, rfl, rfl, trivial⟩
        refine z_iconst O dX8_checksum_19 (v := 0) (by decide) ?_
        refine z_istore O dX8_checksum_20 (by decide) ?_
        exact zV.loc (L2 (nc + 1) 0 (by omega) (by omega)) ⟨rfl, rfl, rfl, rfl, trivial⟩
  refine z_aload_n O dX8_checksum_0 rfl ?_
  refine z_iconst O dX8_checksum_1 (v := 0) (by decide) ?_
  refine z_put O (fk := 36) (fun x h => zI x (zu_RX8 x h)) tyX8 tyX8_ok nmX8 rfl (by decide) (zI _ zm7_50) rfl dX8_checksum_2 rfl rfl (zg_model) (Nat.le_of_ble_eq_true rfl) (zp_thrown) ?_
  refine z_ldc2 O (zI _ zm9_40) dX8_checksum_5 ?_
  refine z_lstore_n O dX8_checksum_8 (by decide) ?_
  refine z_iconst O dX8_checksum_9 (v := 0) (by decide) ?_
  refine z_istore_n O dX8_checksum_10 (by decide) ?_
  exact zV.loc (L (nr + 1) 0 (by omega) (by omega)) ⟨rfl, rfl, rfl, trivial⟩
