def fShare (Z : zM) : zM := zu (zu (fShZ Z (Z 34 0) (fPt Z (zN Z 0)) (zN Z 0)) 34 0 0) 35 0 (Z 35 0 + fShR Z (Z 34 0) (fPt Z (zN Z 0)) (zN Z 0))
set_option maxRecDepth 100000 in
set_option maxHeartbeats 4000000 in
theorem c_X7_share {G : zG} {l : Launch} (hl : l.stackTraces = false) {Z : zM} {sb : Nat → Option Nat} {mcn : Nat → Int32} {cp : Nat → Nat} {Y : zM} {th : Int32} {o : Nat → Int64} {od : Nat → UInt64} {ad : Nat → Nat} (hL : zLst Z cp 0) : zCt G l yX7_share (zws yX7_share cX7_share 2 (some .int)) ({ frames := 6, cells := 1, slots := 6, locals := 90 }) [.ref (ad 0)] (zent Z sb mcn cp G.2.2.2.1 Y th o od ad) ad (fun r w1 ad1 => kShare Z = 0 ∧ some (.int (fShR Z (Z 34 0) (fPt Z (zN Z 0)) (zN Z 0))) = r ∧ zent (fShare Z) sb mcn cp G.2.2.2.1 Y th o od ad = w1 ∧ ad = ad1) (zPX ["java/lang/UnsupportedOperationException"] (kShare Z) (zent Z sb mcn cp G.2.2.2.1 Y th o od ad) ad) := by
  refine z_body hl (by decide +kernel) (Nat.le_of_ble_eq_true rfl) (fun X O => ?_)
  refine z_aload_n O dX7_share_0 rfl ?_
  refine z_get O (fk := 4) (fun x h => zI x (zu_RX7 x h)) rfl (by decide) (zI _ zm4_0) dX7_share_1 (zg_x) rfl ?_
  refine z_if_gt O dX7_share_4 (tgt := 17) (by decide) (fun g => ?_) (fun g => ?_)
  · refine z_aload_n O dX7_share_17 rfl ?_
    refine z_get O (fk := 1) (fun x h => zI x (zu_RX7 x h)) rfl (by decide) (zI _ zm3_64) dX7_share_18 (zg_x) rfl ?_
    refine z_aload_n O dX7_share_21 rfl ?_
    refine z_get O (fk := 4) (fun x h => zI x (zu_RX7 x h)) rfl (by decide) (zI _ zm4_0) dX7_share_22 (zg_x) rfl ?_
    refine z_callV O (c_X6_shareOut hl hL (x := Z 34 0)) zI zm6_36 zm6_37 zm6_38 zm3_29 zm3_30 ⟨rfl, by decide +kernel, by decide +kernel, (show _ = some 1 by decide +kernel)⟩ rfl (zg_tr) ⟨Nat.le_of_ble_eq_true rfl, Nat.le_of_ble_eq_true rfl⟩ ⟨Nat.le_of_ble_eq_true rfl, Nat.le_of_ble_eq_true rfl⟩ dX7_share_25 rfl (Nat.le_of_ble_eq_true rfl) (fun _ _ _ h => h.elim) (fun r w1 ad1 hp => ?_)
    obtain ⟨rfl, rfl, rfl⟩ := hp
    obtain ⟨P, hP⟩ : ∃ z, z = fPt Z (zN Z 0) := ⟨_, rfl⟩
    rw [← hP]
    refine z_istore_n O dX7_share_28 (by decide) ?_
    refine z_aload_n O dX7_share_29 rfl ?_
    refine z_iconst O dX7_share_30 (v := 0) (by decide) ?_
    refine z_put O (fk := 4) (fun x h => zI x (zu_RX7 x h)) tyX7 tyX7_ok nmX7 rfl (by decide) (zI _ zm4_0) rfl dX7_share_31 rfl rfl (zg_x) (Nat.le_of_ble_eq_true rfl) (zp_x (F := 34) (p := 4) (Or.inl rfl) rfl) ?_
    refine z_aload_n O dX7_share_34 rfl ?_
    refine z_dup O dX7_share_35 rfl ?_
    refine z_get O (fk := 5) (v := .int (Z 35 0)) (fun x h => zI x (zu_RX7 x h)) rfl (by decide) (zI _ zm4_1) dX7_share_36 (zg_x) (by show some (Value.int (zu (fShZ Z (Z 34 0) P (zN Z 0)) 34 0 0 35 0)) = _; rw [zu_f (by decide), fShZ_n Z _ _ (by decide)]) ?_
    refine z_iload_n O dX7_share_39 rfl ?_
    refine z_iadd O dX7_share_40 ?_
    refine z_put O (fk := 5) (fun x h => zI x (zu_RX7 x h)) tyX7 tyX7_ok nmX7 rfl (by decide) (zI _ zm4_1) rfl dX7_share_41 rfl rfl (zg_x) (Nat.le_of_ble_eq_true rfl) (zp_x (F := 35) (p := 5) (Or.inr rfl) rfl) ?_
    refine z_iload_n O dX7_share_44 rfl ?_
    exact z_iret O dX7_share_45 (Nat.le_of_ble_eq_true rfl) (Nat.le_of_ble_eq_true rfl) (⟨by unfold kShare; rw [if_neg (Int32.not_le.mpr g)], by rw [hP], by unfold fShare; rw [hP], rfl⟩)
  · exact z_throw O (text := "the purse is empty") zI (by decide +kernel) (by decide +kernel) zm4_43 zm4_44 zt_82 zbad_82 zok_82 (by decide +kernel) dX7_share_7 dX7_share_10 dX7_share_11 dX7_share_13 dX7_share_16 (Nat.le_of_ble_eq_true rfl) (Nat.le_of_ble_eq_true rfl) (Nat.le_of_ble_eq_true rfl) (Nat.le_of_ble_eq_true rfl) (Nat.le_of_ble_eq_true rfl) (Nat.le_of_ble_eq_true rfl) (⟨⟨rfl, rfl⟩, by unfold kShare; rw [if_pos (Int32.not_lt.mp g)]; exact ⟨by decide, rfl⟩⟩)

def fKs (Z : zM) (a : Nat) (acc : Int64) : Nat → Int64
  | 0 => acc
  | b + 1 => 31 * fKs Z a acc b + (Z 3 (a * 10 + b)).toInt64
def fKr (Z : zM) (nc : Nat) : Nat → Int64
  | 0 => 7
  | a + 1 => fKs Z a (fKr Z nc a) nc
def fKh (Z : zM) (acc : Int64) : Nat → Int64
  | 0 => acc
  | j + 1 => 31 * fKh Z acc j + (Z 14 j).toInt64
def fSum64 (Z : zM) : Int64 := fKh Z (31 * (31 * (31 * (31 * fKr Z (Z 24 0).toNatClampNeg (Z 23 0).toNatClampNeg + (Z 31 0).toInt64) + (Z 32 0).toInt64) + (Z 34 0).toInt64) + (Z 35 0).toInt64) (zN Z 0)
set_option maxRecDepth 100000 in
set_option maxHeartbeats 4000000 in
theorem c_X7_checksum {G : zG} {l : Launch} (hl : l.stackTraces = false) {Z : zM} {sb : Nat → Option Nat} {mcn : Nat → Int32} {cp : Nat → Nat} {Y : zM} {th : Int32} {o : Nat → Int64} {od : Nat → UInt64} {ad : Nat → Nat} (hh : zHouse Z) (hL : zLst Z cp 0) : zCt G l yX7_checksum (zws yX7_checksum cX7_checksum 6 (some .long)) ({ frames := 3, cells := 0, slots := 0, locals := 64 }) [.ref (ad 0)] (zent Z sb mcn cp G.2.2.2.1 Y th o od ad) ad (fun r w1 ad1 => some (.long (fSum64 Z)) = r ∧ zent Z sb mcn cp G.2.2.2.1 Y th o od ad = w1 ∧ ad = ad1) (zNoX) := by
  refine z_body hl (by decide +kernel) (Nat.le_of_ble_eq_true rfl) (fun X O => ?_)
  obtain ⟨d1, d2, d3, d4⟩ := zHouse_dim hh
  obtain ⟨nr, hnr⟩ : ∃ z, z = (Z 23 0).toNatClampNeg := ⟨_, rfl⟩
  obtain ⟨nc, hnc⟩ : ∃ z, z = (Z 24 0).toNatClampNeg := ⟨_, rfl⟩
  rw [← hnr] at d1 d3
  rw [← hnc] at d2 d4
  have L : ∀ (n : Nat) (a : Nat), a ≤ nr → nr < a + n → zV G X 6 0 0 6 [(0, .ref (ad 0)), (1, .long (fKr Z nc a)), (3, .int (nI a))] [] (zent Z sb mcn cp G.2.2.2.1 Y th o od ad) ad := by
    intro n
    induction n with
    | zero => intro a h1 h2; omega
    | succ n ih =>
      intro a h1 h2
      refine z_iload_n O dX7_checksum_6 rfl ?_
      refine z_aload_n O dX7_checksum_7 rfl ?_
      refine z_get O (fk := 0) (fun x h => zI x (zu_RX7 x h)) rfl (by decide) (zI _ zm3_61) dX7_checksum_8 (zg_x) rfl ?_
      refine z_get O (fk := 1) (v := .int (nI nr)) (fun x h => zI x (zu_RX3 x h)) rfl (by decide) (zI _ zm5_60) dX7_checksum_11 (zg_house) (by show some (Value.int (Z 23 0)) = _; rw [d1]) ?_
      refine z_icmp_ge O dX7_checksum_14 (tgt := 78) (by decide) (fun h => ?_) (fun h => ?_)
      · have hi : a = nr := by have := z_ge_ge (by omega) (by omega) h; omega
        subst hi
        obtain ⟨S, hS⟩ : ∃ z, z = 31 * (31 * (31 * (31 * fKr Z nc a + (Z 31 0).toInt64) + (Z 32 0).toInt64) + (Z 34 0).toInt64) + (Z 35 0).toInt64 := ⟨_, rfl⟩
        have L3 : ∀ (n : Nat) (j : Nat), j ≤ zN Z 0 → zN Z 0 < j + n → zV G X 6 0 0 134 [(0, .ref (ad 0)), (1, .long (fKh Z S j)), (3, .int (nI j))] [] (zent Z sb mcn cp G.2.2.2.1 Y th o od ad) ad := by
          intro n
          induction n with
          | zero => intro j h5 h6; omega
          | succ n ih =>
            intro j h5 h6
            refine z_iload_n O dX7_checksum_134 rfl ?_
            refine z_aload_n O dX7_checksum_135 rfl ?_
            refine z_get O (fk := 1) (fun x h => zI x (zu_RX7 x h)) rfl (by decide) (zI _ zm3_64) dX7_checksum_136 (zg_x) rfl ?_
            refine z_get O (fk := 0) (fun x h => zI x (zu_RX6 x h)) rfl (by decide) (zI _ zm4_40) dX7_checksum_139 (zg_tr) rfl ?_
            refine z_callV O (c_size_l hl (i := 0) (by decide) hL) zI zm4_16 zm1_46 zm1_47 zm0_31 zm1_19 ⟨rfl, by decide +kernel, by decide +kernel, (show _ = some 0 by decide +kernel)⟩ rfl ((zg_list0 (i := 0) (by decide) hL)) ⟨Nat.le_of_ble_eq_true rfl, Nat.le_of_ble_eq_true rfl⟩ ⟨Nat.le_of_ble_eq_true rfl, Nat.le_of_ble_eq_true rfl⟩ dX7_checksum_142 rfl (Nat.le_of_ble_eq_true rfl) (fun _ _ _ h => h.elim) (fun r w1 ad1 hp => ?_)
            obtain ⟨rfl, rfl, rfl⟩ := hp
            refine z_icmp_ge O dX7_checksum_145 (tgt := 179) (by decide) (fun g => ?_) (fun g => ?_)
            · have hj : j = zN Z 0 := by have := z_ge_ge (by have := hL.2.2.2; omega) (by have := hL.2.2.2; omega) g; omega
              refine z_lload_n O dX7_checksum_179 rfl ?_
              exact z_lret O dX7_checksum_180 (Nat.le_of_ble_eq_true rfl) (Nat.le_of_ble_eq_true rfl) (⟨by unfold fSum64; rw [← hnc, ← hnr, ← hS, hj], rfl, rfl⟩)
            · have hj : j < zN Z 0 := z_ge_lt (by have := hL.2.2.2; omega) (by have := hL.2.2.2; omega) g
              have hj20 : j < 20 := by have := hL.2.2.2; omega
              refine z_ldc2 O (zI _ zm6_58) dX7_checksum_148 ?_
              refine z_lload_n O dX7_checksum_151 rfl ?_
              refine z_lmul O dX7_checksum_152 ?_
              refine z_aload_n O dX7_checksum_153 rfl ?_
              refine z_get O (fk := 1) (fun x h => zI x (zu_RX7 x h)) rfl (by decide) (zI _ zm3_64) dX7_checksum_154 (zg_x) rfl ?_
              refine z_get O (fk := 0) (fun x h => zI x (zu_RX6 x h)) rfl (by decide) (zI _ zm4_40) dX7_checksum_157 (zg_tr) rfl ?_
              refine z_iload_n O dX7_checksum_160 rfl ?_
              refine z_callV O (c_get_hand hl hL hj) zI zm4_17 zm1_49 zm1_50 zm0_31 zm1_26 ⟨rfl, by decide +kernel, by decide +kernel, (show _ = some 1 by decide +kernel)⟩ rfl ((zg_list0 (i := 0) (by decide) hL)) ⟨Nat.le_of_ble_eq_true rfl, Nat.le_of_ble_eq_true rfl⟩ ⟨Nat.le_of_ble_eq_true rfl, Nat.le_of_ble_eq_true rfl⟩ dX7_checksum_161 rfl (Nat.le_of_ble_eq_true rfl) (fun _ _ _ h => h.elim) (fun r w1 ad1 hp => ?_)
              obtain ⟨rfl, rfl, rfl⟩ := hp
              refine z_cast0 O rfl (zI _ zm5_29) (zg_hand hj hj20) dX7_checksum_164 ?_
              refine z_get O (fk := 4) (fun x h => zI x (zu_RX2 x h)) rfl (by decide) (zI _ zm6_40) dX7_checksum_167 (zg_hand hj hj20) rfl ?_
              refine z_i2l O dX7_checksum_170 rfl ?_
              refine z_ladd O dX7_checksum_171 ?_
              refine z_lstore_n O dX7_checksum_172 (by decide) ?_
              refine z_iincN O dX7_checksum_173 (a := j) rfl (by decide) ?_
              refine z_goto O dX7_checksum_176 (tgt := 134) (by decide) ?_
              exact zV.loc (ih (j + 1) (by omega) (by omega)) ⟨rfl, rfl, rfl, trivial⟩
        refine z_ldc2 O (zI _ zm6_58) dX7_checksum_78 ?_
        refine z_lload_n O dX7_checksum_81 rfl ?_
        refine z_lmul O dX7_checksum_82 ?_
        refine z_aload_n O dX7_checksum_83 rfl ?_
        refine z_get O (fk := 3) (fun x h => zI x (zu_RX7 x h)) rfl (by decide) (zI _ zm3_69) dX7_checksum_84 (zg_x) rfl ?_
        refine z_get O (fk := 4) (fun x h => zI x (zu_RX1 x h)) rfl (by decide) (zI _ zm6_12) dX7_checksum_87 (zg_ev) rfl ?_
        refine z_i2l O dX7_checksum_90 rfl ?_
        refine z_ladd O dX7_checksum_91 ?_
        refine z_lstore_n O dX7_checksum_92 (by decide) ?_
        refine z_ldc2 O (zI _ zm6_58) dX7_checksum_93 ?_
        refine z_lload_n O dX7_checksum_96 rfl ?_
        refine z_lmul O dX7_checksum_97 ?_
        refine z_aload_n O dX7_checksum_98 rfl ?_
        refine z_get O (fk := 3) (fun x h => zI x (zu_RX7 x h)) rfl (by decide) (zI _ zm3_69) dX7_checksum_99 (zg_x) rfl ?_
        refine z_get O (fk := 5) (fun x h => zI x (zu_RX1 x h)) rfl (by decide) (zI _ zm6_7) dX7_checksum_102 (zg_ev) rfl ?_
        refine z_i2l O dX7_checksum_105 rfl ?_
        refine z_ladd O dX7_checksum_106 ?_
        refine z_lstore_n O dX7_checksum_107 (by decide) ?_
        refine z_ldc2 O (zI _ zm6_58) dX7_checksum_108 ?_
        refine z_lload_n O dX7_checksum_111 rfl ?_
        refine z_lmul O dX7_checksum_112 ?_
        refine z_aload_n O dX7_checksum_113 rfl ?_
        refine z_get O (fk := 4) (fun x h => zI x (zu_RX7 x h)) rfl (by decide) (zI _ zm4_0) dX7_checksum_114 (zg_x) rfl ?_
        refine z_i2l O dX7_checksum_117 rfl ?_
        refine z_ladd O dX7_checksum_118 ?_
        refine z_lstore_n O dX7_checksum_119 (by decide) ?_
        refine z_ldc2 O (zI _ zm6_58) dX7_checksum_120 ?_
        refine z_lload_n O dX7_checksum_123 rfl ?_
        refine z_lmul O dX7_checksum_124 ?_
        refine z_aload_n O dX7_checksum_125 rfl ?_
        refine z_get O (fk := 5) (fun x h => zI x (zu_RX7 x h)) rfl (by decide) (zI _ zm4_1) dX7_checksum_126 (zg_x) rfl ?_
        refine z_i2l O dX7_checksum_129 rfl ?_
        refine z_ladd O dX7_checksum_130 ?_
        refine z_lstore_n O dX7_checksum_131 (by decide) ?_
        refine z_iconst O dX7_checksum_132 (v := 0) (by decide) ?_
        refine z_istore_n O dX7_checksum_133 (by decide) ?_
        rw [← hS]
        exact zV.loc (L3 (zN Z 0 + 1) 0 (by omega) (by omega)) ⟨rfl, rfl, rfl, trivial⟩
      · have hi : a < nr := z_ge_lt (by omega) (by omega) h
        have ihO := ih
        have L2 : ∀ (n : Nat) (b : Nat), b ≤ nc → nc < b + n → zV G X 6 0 0 20 [(0, .ref (ad 0)), (1, .long (fKs Z a (fKr Z nc a) b)), (3, .int (nI a)), (4, .int (nI b))] [] (zent Z sb mcn cp G.2.2.2.1 Y th o od ad) ad := by
          intro n
          induction n with
          | zero => intro b h3 h4; omega
          | succ n ih =>
            intro b h3 h4
            refine z_iload O dX7_checksum_20 rfl ?_
            refine z_aload_n O dX7_checksum_22 rfl ?_
            refine z_get O (fk := 0) (fun x h => zI x (zu_RX7 x h)) rfl (by decide) (zI _ zm3_61) dX7_checksum_23 (zg_x) rfl ?_
            refine z_get O (fk := 2) (v := .int (nI nc)) (fun x h => zI x (zu_RX3 x h)) rfl (by decide) (zI _ zm6_57) dX7_checksum_26 (zg_house) (by show some (Value.int (Z 24 0)) = _; rw [d2]) ?_
            refine z_icmp_ge O dX7_checksum_29 (tgt := 72) (by decide) (fun h9 => ?_) (fun h9 => ?_)
            · have hj : b = nc := by have := z_ge_ge (by omega) (by omega) h9; omega
              subst hj
              refine z_iincN O dX7_checksum_72 (a := a) rfl (by decide) ?_
              refine z_goto O dX7_checksum_75 (tgt := 6) (by decide) ?_
              exact zV.loc (ihO (a + 1) (by omega) (by omega)) ⟨rfl, rfl, rfl, trivial⟩
            · have hj : b < nc := z_ge_lt (by omega) (by omega) h9
              have hk : a * 10 + b < 80 := by omega
              refine z_aload_n O dX7_checksum_32 rfl ?_
              refine z_get O (fk := 0) (fun x h => zI x (zu_RX7 x h)) rfl (by decide) (zI _ zm3_61) dX7_checksum_33 (zg_x) rfl ?_
              refine z_iload_n O dX7_checksum_36 rfl ?_
              refine z_iload O dX7_checksum_37 rfl ?_
              refine z_callV O (c_X3_seatOrNull hl hh (x := nI a) (y := nI b)) zI zm4_32 zm0_68 zm0_69 zm1_0 zm0_62 ⟨rfl, by decide +kernel, by decide +kernel, (show _ = some 2 by decide +kernel)⟩ rfl (zg_house) ⟨Nat.le_of_ble_eq_true rfl, Nat.le_of_ble_eq_true rfl⟩ ⟨Nat.le_of_ble_eq_true rfl, Nat.le_of_ble_eq_true rfl⟩ dX7_checksum_39 rfl (Nat.le_of_ble_eq_true rfl) (fun _ _ _ h => h.elim) (fun r w1 ad1 hp => ?_)
              obtain ⟨rfl, rfl, rfl⟩ := hp
              rw [fPl_in d1 d2 d3 d4 hi hj]
              refine z_astore O dX7_checksum_42 (by decide) ?_
              refine z_ldc2 O (zI _ zm6_58) dX7_checksum_44 ?_
              refine z_lload_n O dX7_checksum_47 rfl ?_
              refine z_lmul O dX7_checksum_48 ?_
              refine z_aload O dX7_checksum_49 rfl ?_
              refine z_ifnonnull O dX7_checksum_51 (tgt := 58) (by decide) ?_
              refine z_aload O dX7_checksum_58 rfl ?_
              refine z_get O (fk := 3) (fun x h => zI x (zu_RX4 x h)) rfl (by decide) (zI _ zm5_69) dX7_checksum_60 (zg_seat (k := a * 10 + b) hk) rfl ?_
              refine z_i2l O dX7_checksum_63 rfl ?_
              refine z_ladd O dX7_checksum_64 ?_
              refine z_lstore_n O dX7_checksum_65 (by decide) ?_
              refine z_iincN O dX7_checksum_66 (a := b) rfl (by decide) ?_
              refine z_goto O dX7_checksum_69 (tgt := 20) (by decide) ?_
              exact zV.loc (ih (b + 1) (by omega) (by omega)) ⟨rfl, rfl, rfl, rfl, trivial⟩
        refine z_iconst O dX7_checksum_17 (v := 0) (by decide) ?_
        refine z_istore O dX7_checksum_18 (by decide) ?_
        exact zV.loc (L2 (nc + 1) 0 (by omega) (by omega)) ⟨rfl, rfl, rfl, rfl, trivial⟩
  refine z_ldc2 O (zI _ zm6_56) dX7_checksum_0 ?_
  refine z_lstore_n O dX7_checksum_3 (by decide) ?_
  refine z_iconst O dX7_checksum_4 (v := 0) (by decide) ?_
  refine z_istore_n O dX7_checksum_5 (by decide) ?_
  exact zV.loc (L (nr + 1) 0 (by omega) (by omega)) ⟨rfl, rfl, rfl, trivial⟩

def fJs (Z : zM) : UInt32 := FP.fdiv (FP.i2f (fJoined Z)) (FP.i2f (fSeated Z 112))
def fMn (Z : zM) : UInt64 := FP.ddiv (FP.i2d (fSum (Z 3) 80)) (FP.i2d (Z 23 0 * Z 24 0))
set_option maxRecDepth 100000 in
set_option maxHeartbeats 4000000 in
theorem c_X7_joiningShare {G : zG} {l : Launch} (hl : l.stackTraces = false) {Z : zM} {sb : Nat → Option Nat} {mcn : Nat → Int32} {cp : Nat → Nat} {Y : zM} {th : Int32} {o : Nat → Int64} {od : Nat → UInt64} {ad : Nat → Nat} (hne : ¬ fSeated Z 112 = 0 → vf_n32 (fJs Z)) : zCt G l yX7_joiningShare (zws yX7_joiningShare cX7_joiningShare 2 (some .float)) ({ frames := 6, cells := 1, slots := 6, locals := 82 }) [.ref (ad 0)] (zent Z sb mcn cp G.2.2.2.1 Y th o od ad) ad (fun r w1 ad1 => kJoin Z = 0 ∧ some (.float (fJs Z)) = r ∧ zent Z sb mcn cp G.2.2.2.1 Y th o od ad = w1 ∧ ad = ad1) (zPX ["java/lang/ArithmeticException"] (kJoin Z) (zent Z sb mcn cp G.2.2.2.1 Y th o od ad) ad) := by
  refine z_body hl (by decide +kernel) (Nat.le_of_ble_eq_true rfl) (fun X O => ?_)
  refine z_aload_n O dX7_joiningShare_0 rfl ?_
  refine z_get O (fk := 0) (fun x h => zI x (zu_RX7 x h)) rfl (by decide) (zI _ zm3_61) dX7_joiningShare_1 (zg_x) rfl ?_
  refine z_bipush O dX7_joiningShare_4 (v := 112) (by decide) ?_
  refine z_callV O (c_X3_countSeated hl (ch := 112)) zI zm6_63 zm6_64 zm6_65 zm1_0 zm3_1 ⟨rfl, by decide +kernel, by decide +kernel, (show _ = some 1 by decide +kernel)⟩ rfl (zg_house) ⟨Nat.le_of_ble_eq_true rfl, Nat.le_of_ble_eq_true rfl⟩ ⟨Nat.le_of_ble_eq_true rfl, Nat.le_of_ble_eq_true rfl⟩ dX7_joiningShare_6 rfl (Nat.le_of_ble_eq_true rfl) (fun _ _ _ h => h.elim) (fun r w1 ad1 hp => ?_)
  obtain ⟨rfl, rfl, rfl⟩ := hp
  refine z_istore_n O dX7_joiningShare_9 (by decide) ?_
  refine z_iload_n O dX7_joiningShare_10 rfl ?_
  refine z_if_ne O dX7_joiningShare_11 (tgt := 24) (by decide) (fun h => ?_) (fun h => ?_)
  · refine z_aload_n O dX7_joiningShare_24 rfl ?_
    refine z_get O (fk := 0) (fun x h => zI x (zu_RX7 x h)) rfl (by decide) (zI _ zm3_61) dX7_joiningShare_25 (zg_x) rfl ?_
    refine z_callV O (c_X3_countJoined hl) zI zm6_3 zm6_4 zm6_5 zm1_0 zm2_69 ⟨rfl, by decide +kernel, by decide +kernel, (show _ = some 0 by decide +kernel)⟩ rfl (zg_house) ⟨Nat.le_of_ble_eq_true rfl, Nat.le_of_ble_eq_true rfl⟩ ⟨Nat.le_of_ble_eq_true rfl, Nat.le_of_ble_eq_true rfl⟩ dX7_joiningShare_28 rfl (Nat.le_of_ble_eq_true rfl) (fun _ _ _ h => h.elim) (fun r w1 ad1 hp => ?_)
    obtain ⟨rfl, rfl, rfl⟩ := hp
    refine z_i2f O dX7_joiningShare_31 ?_
    refine z_iload_n O dX7_joiningShare_32 rfl ?_
    refine z_i2f O dX7_joiningShare_33 ?_
    refine z_fdiv O dX7_joiningShare_34 (hne h) ?_
    exact z_fret O dX7_joiningShare_35 (Nat.le_of_ble_eq_true rfl) (Nat.le_of_ble_eq_true rfl) (⟨by unfold kJoin; rw [if_neg h], rfl, rfl, rfl⟩)
  · exact z_throw O (text := "there are no payers") zI (by decide +kernel) (by decide +kernel) zm6_61 zm6_62 zt_242 zbad_242 zok_242 (by decide +kernel) dX7_joiningShare_14 dX7_joiningShare_17 dX7_joiningShare_18 dX7_joiningShare_20 dX7_joiningShare_23 (Nat.le_of_ble_eq_true rfl) (Nat.le_of_ble_eq_true rfl) (Nat.le_of_ble_eq_true rfl) (Nat.le_of_ble_eq_true rfl) (Nat.le_of_ble_eq_true rfl) (Nat.le_of_ble_eq_true rfl) (⟨⟨rfl, rfl⟩, by unfold kJoin; rw [if_pos h]; exact ⟨by decide, rfl⟩⟩)

set_option maxRecDepth 100000 in
set_option maxHeartbeats 4000000 in
theorem c_X7_meanNoise {G : zG} {l : Launch} (hl : l.stackTraces = false) {Z : zM} {sb : Nat → Option Nat} {mcn : Nat → Int32} {cp : Nat → Nat} {Y : zM} {th : Int32} {o : Nat → Int64} {od : Nat → UInt64} {ad : Nat → Nat} (hne : ¬ Z 23 0 * Z 24 0 = 0 → vf_n64 (fMn Z)) : zCt G l yX7_meanNoise (zws yX7_meanNoise cX7_meanNoise 2 (some .double)) ({ frames := 6, cells := 1, slots := 6, locals := 82 }) [.ref (ad 0)] (zent Z sb mcn cp G.2.2.2.1 Y th o od ad) ad (fun r w1 ad1 => kMean Z = 0 ∧ some (.double (fMn Z)) = r ∧ zent Z sb mcn cp G.2.2.2.1 Y th o od ad = w1 ∧ ad = ad1) (zPX ["java/lang/ArithmeticException"] (kMean Z) (zent Z sb mcn cp G.2.2.2.1 Y th o od ad) ad) := by
  refine z_body hl (by decide +kernel) (Nat.le_of_ble_eq_true rfl) (fun X O => ?_)
  refine z_aload_n O dX7_meanNoise_0 rfl ?_
  refine z_get O (fk := 0) (fun x h => zI x (zu_RX7 x h)) rfl (by decide) (zI _ zm3_61) dX7_meanNoise_1 (zg_x) rfl ?_
  refine z_get O (fk := 1) (fun x h => zI x (zu_RX3 x h)) rfl (by decide) (zI _ zm5_60) dX7_meanNoise_4 (zg_house) rfl ?_
  refine z_aload_n O dX7_meanNoise_7 rfl ?_
  refine z_get O (fk := 0) (fun x h => zI x (zu_RX7 x h)) rfl (by decide) (zI _ zm3_61) dX7_meanNoise_8 (zg_x) rfl ?_
  refine z_get O (fk := 2) (fun x h => zI x (zu_RX3 x h)) rfl (by decide) (zI _ zm6_57) dX7_meanNoise_11 (zg_house) rfl ?_
  refine z_imul O dX7_meanNoise_14 ?_
  refine z_istore_n O dX7_meanNoise_15 (by decide) ?_
  refine z_iload_n O dX7_meanNoise_16 rfl ?_
  refine z_if_ne O dX7_meanNoise_17 (tgt := 30) (by decide) (fun h => ?_) (fun h => ?_)
  · refine z_aload_n O dX7_meanNoise_30 rfl ?_
    refine z_get O (fk := 0) (fun x h => zI x (zu_RX7 x h)) rfl (by decide) (zI _ zm3_61) dX7_meanNoise_31 (zg_x) rfl ?_
    refine z_callV O (c_X3_noiseSum hl) zI zm6_1 zm2_27 zm2_28 zm1_0 zm2_4 ⟨rfl, by decide +kernel, by decide +kernel, (show _ = some 0 by decide +kernel)⟩ rfl (zg_house) ⟨Nat.le_of_ble_eq_true rfl, Nat.le_of_ble_eq_true rfl⟩ ⟨Nat.le_of_ble_eq_true rfl, Nat.le_of_ble_eq_true rfl⟩ dX7_meanNoise_34 rfl (Nat.le_of_ble_eq_true rfl) (fun _ _ _ h => h.elim) (fun r w1 ad1 hp => ?_)
    obtain ⟨rfl, rfl, rfl⟩ := hp
    refine z_i2d O dX7_meanNoise_37 ?_
    refine z_iload_n O dX7_meanNoise_38 rfl ?_
    refine z_i2d O dX7_meanNoise_39 ?_
    refine z_ddiv O dX7_meanNoise_40 (hne h) ?_
    exact z_dret O dX7_meanNoise_41 (Nat.le_of_ble_eq_true rfl) (Nat.le_of_ble_eq_true rfl) (⟨by unfold kMean; rw [if_neg h], rfl, rfl, rfl⟩)
  · exact z_throw O (text := "there is no house") zI (by decide +kernel) (by decide +kernel) zm6_61 zm6_62 zt_242 zbad_242 zok_242 (by decide +kernel) dX7_meanNoise_20 dX7_meanNoise_23 dX7_meanNoise_24 dX7_meanNoise_26 dX7_meanNoise_29 (Nat.le_of_ble_eq_true rfl) (Nat.le_of_ble_eq_true rfl) (Nat.le_of_ble_eq_true rfl) (Nat.le_of_ble_eq_true rfl) (Nat.le_of_ble_eq_true rfl) (Nat.le_of_ble_eq_true rfl) (⟨⟨rfl, rfl⟩, by unfold kMean; rw [if_pos h]; exact ⟨by decide, rfl⟩⟩)

set_option maxRecDepth 100000 in
set_option maxHeartbeats 4000000 in
theorem c_X7_isSound {G : zG} {l : Launch} (hl : l.stackTraces = false) {Z : zM} {sb : Nat → Option Nat} {mcn : Nat → Int32} {cp : Nat → Nat} {Y : zM} {th : Int32} {o : Nat → Int64} {od : Nat → UInt64} {ad : Nat → Nat} (hwn : ∀ k, k < 80 → zh (Z 2 k) = none → ¬ Z 0 k = 104) (hjj : ∀ k, k < 80 → ∀ j, zh (Z 2 k) = some j → j < zN Z 0 ∧ j < 20 ∧ Z 0 k = 104 ∧ sb j = some k) (hn0 : ∀ k, k < 80 → ¬ Z 3 k < 0) (hn9 : ∀ k, k < 80 → ¬ 9 < Z 3 k) (hL : zLst Z cp 0) (hsb : ∀ j k, j < zN Z 0 → sb j = some k → k < 80 ∧ zh (Z 2 k) = some j) (hpp : 0 ≤ Z 34 0) : zCt G l yX7_isSound (zws yX7_isSound cX7_isSound 1 (some .boolean)) ({ frames := 4, cells := 0, slots := 0, locals := 86 }) [.ref (ad 0)] (zent Z sb mcn cp G.2.2.2.1 Y th o od ad) ad (fun r w1 ad1 => some (.int 1) = r ∧ zent Z sb mcn cp G.2.2.2.1 Y th o od ad = w1 ∧ ad = ad1) (zNoX) := by
  refine z_body hl (by decide +kernel) (Nat.le_of_ble_eq_true rfl) (fun X O => ?_)
  refine z_aload_n O dX7_isSound_0 rfl ?_
  refine z_get O (fk := 0) (fun x h => zI x (zu_RX7 x h)) rfl (by decide) (zI _ zm3_61) dX7_isSound_1 (zg_x) rfl ?_
  refine z_callV O (c_X3_isInOrder hl hwn hjj hn0 hn9) zI zm6_67 zm6_68 zm6_69 zm1_0 zm3_3 ⟨rfl, by decide +kernel, by decide +kernel, (show _ = some 0 by decide +kernel)⟩ rfl (zg_house) ⟨Nat.le_of_ble_eq_true rfl, Nat.le_of_ble_eq_true rfl⟩ ⟨Nat.le_of_ble_eq_true rfl, Nat.le_of_ble_eq_true rfl⟩ dX7_isSound_4 rfl (Nat.le_of_ble_eq_true rfl) (fun _ _ _ h => h.elim) (fun r w1 ad1 hp => ?_)
  obtain ⟨rfl, rfl, rfl⟩ := hp
  refine z_if_eq O dX7_isSound_7 (tgt := 31) (by decide) (fun q => absurd q (by decide)) (fun _ => ?_)
  refine z_aload_n O dX7_isSound_10 rfl ?_
  refine z_get O (fk := 1) (fun x h => zI x (zu_RX7 x h)) rfl (by decide) (zI _ zm3_64) dX7_isSound_11 (zg_x) rfl ?_
  refine z_callV O (c_X6_isInOrder hl hL hsb) zI zm7_0 zm7_1 zm7_2 zm3_29 zm3_57 ⟨rfl, by decide +kernel, by decide +kernel, (show _ = some 0 by decide +kernel)⟩ rfl (zg_tr) ⟨Nat.le_of_ble_eq_true rfl, Nat.le_of_ble_eq_true rfl⟩ ⟨Nat.le_of_ble_eq_true rfl, Nat.le_of_ble_eq_true rfl⟩ dX7_isSound_14 rfl (Nat.le_of_ble_eq_true rfl) (fun _ _ _ h => h.elim) (fun r w1 ad1 hp => ?_)
  obtain ⟨rfl, rfl, rfl⟩ := hp
  refine z_if_eq O dX7_isSound_17 (tgt := 31) (by decide) (fun q => absurd q (by decide)) (fun _ => ?_)
  refine z_aload_n O dX7_isSound_20 rfl ?_
  refine z_get O (fk := 4) (fun x h => zI x (zu_RX7 x h)) rfl (by decide) (zI _ zm4_0) dX7_isSound_21 (zg_x) rfl ?_
  refine z_if_lt O dX7_isSound_24 (tgt := 31) (by decide) (fun q => absurd q (Int32.not_lt.mpr hpp)) (fun _ => ?_)
  refine z_iconst O dX7_isSound_27 (v := 1) (by decide) ?_
  refine z_goto O dX7_isSound_28 (tgt := 32) (by decide) ?_
  exact z_zret O rfl rfl dX7_isSound_32 (Nat.le_of_ble_eq_true rfl) (Nat.le_of_ble_eq_true rfl) (⟨rfl, rfl, rfl⟩)
