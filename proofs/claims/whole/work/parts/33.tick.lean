/-- the seat at row a, place b, in a tick -/
def fSits (Z : zM) (a b : Nat) : zM :=
  if Z 0 (a * 10 + b) = 112 then fPay Z (a * 10 + b) (fAround Z a b)
  else if Z 0 (a * 10 + b) = 114 then (if fAround Z a b < 12 then zu (zu Z 7 (a * 10 + b) 0) 32 0 (Z 32 0 + 0) else zu (zu Z 7 (a * 10 + b) 1) 32 0 (Z 32 0 + 1))
  else match zh (Z 2 (a * 10 + b)) with
    | none => Z
    | some j => zu Z 3 (a * 10 + b) (fNoise Z j)
def fTickRow (Z : zM) (a : Nat) : Nat → zM
  | 0 => Z
  | b + 1 => fSits (fTickRow Z a b) a b
def fTickRows (Z : zM) (nc : Nat) : Nat → zM
  | 0 => Z
  | a + 1 => fTickRow (fTickRows Z nc a) a nc
/-- the tables that a tick doesn't touch -/
def zFr (Z Z' : zM) : Prop := ∀ f, f < 3 ∨ (9 ≤ f ∧ f ≤ 17) ∨ (19 ≤ f ∧ f ≤ 28) ∨ 34 ≤ f → Z' f = Z f
theorem zFr.rf {Z : zM} : zFr Z Z := fun _ _ => rfl
theorem zFr.tr {Z Z' Z'' : zM} (h : zFr Z Z') (h2 : zFr Z' Z'') : zFr Z Z'' := fun f hf => (h2 f hf).trans (h f hf)
theorem zFr.zu {Z Z' : zM} (h : zFr Z Z') {F k : Nat} {v : Int32} (hF : ¬ (F < 3 ∨ (9 ≤ F ∧ F ≤ 17) ∨ (19 ≤ F ∧ F ≤ 28) ∨ 34 ≤ F)) : zFr Z (zu Z' F k v) := fun f hf => by
  rw [← h f hf]
  funext j
  exact zu_f (fun e => hF (by rw [← e]; exact hf))
theorem zFr_pay (Z : zM) (k : Nat) (a : Int32) : zFr Z (fPay Z k a) := by
  unfold fPay
  split
  · exact (zFr.rf.zu (by decide)).zu (by decide)
  · exact ((zFr.rf.zu (by decide)).zu (by decide)).zu (by decide)
theorem zFr_sits (Z : zM) (a b : Nat) : zFr Z (fSits Z a b) := by
  unfold fSits
  split
  · exact zFr_pay _ _ _
  · split
    · split
      · exact (zFr.rf.zu (by decide)).zu (by decide)
      · exact (zFr.rf.zu (by decide)).zu (by decide)
    · split
      · exact zFr.rf
      · exact zFr.rf.zu (by decide)
theorem zFr_row (Z : zM) (a : Nat) : ∀ b, zFr Z (fTickRow Z a b)
  | 0 => zFr.rf
  | b + 1 => (zFr_row Z a b).tr (zFr_sits _ _ _)
theorem zFr_rows (Z : zM) (nc : Nat) : ∀ a, zFr Z (fTickRows Z nc a)
  | 0 => zFr.rf
  | a + 1 => (zFr_rows Z nc a).tr (zFr_row _ _ _)
theorem zFr_keep (Z : zM) : ∀ i, zFr Z (fIter fKeep Z i)
  | 0 => zFr.rf
  | i + 1 => ((zFr_keep Z i).zu (by decide)).zu (by decide)
theorem zFr_called (Z : zM) : zFr Z (fCalled Z) := by
  unfold fCalled
  split
  · exact zFr.rf
  · exact zFr.rf.zu (by decide)
theorem zFr_hear (Z : zM) (s : Int32) : zFr Z (fHear Z s) := by
  unfold fHear
  split
  · exact zFr.rf.zu (by decide)
  · split
    · exact zFr.rf.zu (by decide)
    · exact (((zFr.rf.zu (by decide)).zu (by decide)).zu (by decide)).tr (zFr_called _)
theorem zFr_judge (Z : zM) (p h : Int32) : zFr Z (fJudge Z p h) := by
  unfold fJudge
  split
  · exact zFr.rf.zu (by decide)
  · exact zFr.rf
/-- what holds of the class's numbers at all times, as far as a tick needs it -/
def zInv (Z : zM) (cp : Nat → Nat) : Prop := zHouse Z ∧ zSeats Z ∧ zLst Z cp 0 ∧ zLst Z cp 1 ∧ zLst Z cp 2 ∧ ∀ c, c < zN Z 2 → (Z 19 c).toNatClampNeg < zN Z 1
theorem zInv.fr {Z Z' : zM} {cp : Nat → Nat} (h : zInv Z cp) (hf : zFr Z Z') : zInv Z' cp := by
  obtain ⟨⟨nr, nc, a1, a2, a3, a4⟩, h2, h3, h4, h5, h6⟩ := h
  have n : ∀ i, i < 3 → zN Z' i = zN Z i := fun i hi => by unfold zN; rw [hf (25 + i) (by omega)]
  have ll : ∀ i, i < 3 → zLst Z cp i → zLst Z' cp i := fun i hi h => by unfold zLst; rw [n i hi, hf (25 + i) (by omega)]; exact h
  refine ⟨⟨nr, nc, by rw [hf 23 (by omega)]; exact a1, by rw [hf 24 (by omega)]; exact a2, a3, a4⟩, fun k hk => ?_, ll 0 (by omega) h3, ll 1 (by omega) h4, ll 2 (by omega) h5, fun c hc => ?_⟩
  · rw [hf 0 (by omega), hf 2 (by omega), n 0 (by omega)]
    exact h2 k hk
  · rw [hf 19 (by omega), n 1 (by omega)]
    rw [n 2 (by omega)] at hc
    exact h6 c hc
theorem fPl_in {Z : zM} {nr nc a b : Nat} (h1 : Z 23 0 = nI nr) (h2 : Z 24 0 = nI nc) (h3 : nr ≤ 8) (h4 : nc ≤ 10) (ha : a < nr) (hb : b < nc) : fPl Z (nI a) (nI b) = some (a * 10 + b) := by
  unfold fPl
  rw [h1, h2, if_pos ⟨nI_pos' (by omega), nI_lt ha (by omega), nI_pos' (by omega), nI_lt hb (by omega)⟩, nI_clamp (by omega), nI_clamp (by omega)]
set_option maxRecDepth 100000 in
set_option maxHeartbeats 4000000 in
theorem c_X1_soundSeat {G : zG} {l : Launch} (hl : l.stackTraces = false) {Z : zM} {sb : Nat → Option Nat} {mcn : Nat → Int32} {cp : Nat → Nat} {Y : zM} {th : Int32} {o : Nat → Int64} {od : Nat → UInt64} {ad : Nat → Nat} (hv : zInv Z cp) {nr nc a b : Nat} (e1 : Z 23 0 = nI nr) (e2 : Z 24 0 = nI nc) (l1 : nr ≤ 8) (l2 : nc ≤ 10) (ha : a < nr) (hb : b < nc) : zCt G l yX1_soundSeat (zws yX1_soundSeat cX1_soundSeat 5 none) ({ frames := 4, cells := 0, slots := 0, locals := 88 }) [.ref (ad 4), .ref (ad 1), .int (nI a), .int (nI b)] (zent Z sb mcn cp G.2.2.2.1 Y th o od ad) ad (fun r w1 ad1 => none = r ∧ zent (fSits Z a b) sb mcn cp G.2.2.2.1 Y th o od ad = w1 ∧ ad = ad1) (zNoX) := by
  refine z_body hl (by decide +kernel) (Nat.le_of_ble_eq_true rfl) (fun X O => ?_)
  have hk : a * 10 + b < 80 := by omega
  obtain ⟨hh, hse, hL0, -, hL2, -⟩ := hv
  obtain ⟨hs1, hs2, hs3⟩ := hse _ hk
  refine z_aload_n O dX1_soundSeat_0 rfl ?_
  refine z_iload_n O dX1_soundSeat_1 rfl ?_
  refine z_iload_n O dX1_soundSeat_2 rfl ?_
  refine z_callV O (c_X3_seatOrNull hl hh (x := nI a) (y := nI b)) zI zm1_63 zm0_68 zm0_69 zm1_0 zm0_62 ⟨rfl, by decide +kernel, by decide +kernel, (show _ = some 2 by decide +kernel)⟩ rfl (zg_house) ⟨Nat.le_of_ble_eq_true rfl, Nat.le_of_ble_eq_true rfl⟩ ⟨Nat.le_of_ble_eq_true rfl, Nat.le_of_ble_eq_true rfl⟩ dX1_soundSeat_3 rfl (Nat.le_of_ble_eq_true rfl) (fun _ _ _ h => h.elim) (fun r w1 ad1 hp => ?_)
  obtain ⟨rfl, rfl, rfl⟩ := hp
  rw [fPl_in e1 e2 l1 l2 ha hb]
  refine z_astore O dX1_soundSeat_6 (by decide) ?_
  refine z_aload O dX1_soundSeat_8 rfl ?_
  refine z_ifnonnull O dX1_soundSeat_10 (tgt := 14) (by decide) ?_
  refine z_aload O dX1_soundSeat_14 rfl ?_
  refine z_get O (fk := 0) (fun x h => zI x (zu_RX4 x h)) rfl (by decide) (zI _ zm1_59) dX1_soundSeat_16 (zg_seat (k := a * 10 + b) hk) rfl ?_
  refine z_bipush O dX1_soundSeat_19 (v := 112) (by decide) ?_
  refine z_icmp_ne O dX1_soundSeat_21 (tgt := 38) (by decide) (fun g => ?_) (fun g => ?_)
  · refine z_aload O dX1_soundSeat_38 rfl ?_
    refine z_get O (fk := 0) (fun x h => zI x (zu_RX4 x h)) rfl (by decide) (zI _ zm1_59) dX1_soundSeat_40 (zg_seat (k := a * 10 + b) hk) rfl ?_
    refine z_bipush O dX1_soundSeat_43 (v := 114) (by decide) ?_
    refine z_icmp_ne O dX1_soundSeat_45 (tgt := 94) (by decide) (fun g2 => ?_) (fun g2 => ?_)
    · refine z_aload O dX1_soundSeat_94 rfl ?_
      cases hz : zh (Z 2 (a * 10 + b)) with
      | none =>
        refine z_get O (fk := 2) (v := .null) (fun x h => zI x (zu_RX4 x h)) rfl (by decide) (zI _ zm1_61) dX1_soundSeat_96 (zg_seat (k := a * 10 + b) hk) (by simp only [sSeat, hz]; rfl) ?_
        refine z_ifnullN O dX1_soundSeat_99 (tgt := 116) (by decide) ?_
        exact z_vret O dX1_soundSeat_116 (Nat.le_of_ble_eq_true rfl) (Nat.le_of_ble_eq_true rfl) (⟨rfl, by unfold fSits; rw [if_neg g, if_neg g2, hz], rfl⟩)
      | some j =>
        obtain ⟨hj, hj2⟩ := hs3 j hz
        refine z_get O (fk := 2) (v := .ref (ad (200 + j))) (fun x h => zI x (zu_RX4 x h)) rfl (by decide) (zI _ zm1_61) dX1_soundSeat_96 (zg_seat (k := a * 10 + b) hk) (by simp only [sSeat, hz]; rfl) ?_
        refine z_ifnull O dX1_soundSeat_99 ?_
        refine z_aload O dX1_soundSeat_102 rfl ?_
        refine z_aload_n O dX1_soundSeat_104 rfl ?_
        refine z_aload O dX1_soundSeat_105 rfl ?_
        refine z_get O (fk := 2) (v := .ref (ad (200 + j))) (fun x h => zI x (zu_RX4 x h)) rfl (by decide) (zI _ zm1_61) dX1_soundSeat_107 (zg_seat (k := a * 10 + b) hk) (by simp only [sSeat, hz]; rfl) ?_
        refine z_callV O (c_X1_noiseOf hl hL2 hj hj2) zI zm2_0 zm2_1 zm2_2 zm1_44 zm1_58 ⟨rfl, by decide +kernel, by decide +kernel, (show _ = some 1 by decide +kernel)⟩ rfl (zg_ev) ⟨Nat.le_of_ble_eq_true rfl, Nat.le_of_ble_eq_true rfl⟩ ⟨Nat.le_of_ble_eq_true rfl, Nat.le_of_ble_eq_true rfl⟩ dX1_soundSeat_110 rfl (Nat.le_of_ble_eq_true rfl) (fun _ _ _ h => h.elim) (fun r w1 ad1 hp => ?_)
        obtain ⟨rfl, rfl, rfl⟩ := hp
        refine z_put O (fk := 3) (fun x h => zI x (zu_RX4 x h)) tyX4 tyX4_ok nmX4 rfl (by decide) (zI _ zm1_62) rfl dX1_soundSeat_113 rfl rfl (zg_seat (k := a * 10 + b) hk) (Nat.le_of_ble_eq_true rfl) (zp_seat_noise hk) ?_
        exact z_vret O dX1_soundSeat_116 (Nat.le_of_ble_eq_true rfl) (Nat.le_of_ble_eq_true rfl) (⟨rfl, by unfold fSits; rw [if_neg g, if_neg g2, hz], rfl⟩)
    · refine z_aload O dX1_soundSeat_48 rfl ?_
      refine z_aload_n O dX1_soundSeat_50 rfl ?_
      refine z_iload_n O dX1_soundSeat_51 rfl ?_
      refine z_iload_n O dX1_soundSeat_52 rfl ?_
      refine z_callV O (c_X3_around hl hh (a := a) (b := b) (by omega) (by omega)) zI zm1_64 zm1_65 zm1_66 zm1_0 zm0_66 ⟨rfl, by decide +kernel, by decide +kernel, (show _ = some 2 by decide +kernel)⟩ rfl (zg_house) ⟨Nat.le_of_ble_eq_true rfl, Nat.le_of_ble_eq_true rfl⟩ ⟨Nat.le_of_ble_eq_true rfl, Nat.le_of_ble_eq_true rfl⟩ dX1_soundSeat_53 rfl (Nat.le_of_ble_eq_true rfl) (fun _ _ _ h => h.elim) (fun r w1 ad1 hp => ?_)
      obtain ⟨rfl, rfl, rfl⟩ := hp
      refine z_bipush O dX1_soundSeat_56 (v := 12) (by decide) ?_
      refine z_icmp_lt O dX1_soundSeat_58 (tgt := 65) (by decide) (fun g3 => ?_) (fun g3 => ?_)
      · refine z_iconst O dX1_soundSeat_65 (v := 0) (by decide) ?_
        refine z_put O (fk := 7) (fun x h => zI x (zu_RX4 x h)) tyX4 tyX4_ok nmX4 rfl (by decide) (zI _ zm1_60) rfl dX1_soundSeat_66 (by decide) rfl (zg_seat (k := a * 10 + b) hk) (Nat.le_of_ble_eq_true rfl) (zp_seat_hissed hk) ?_
        refine z_aload_n O dX1_soundSeat_69 rfl ?_
        refine z_dup O dX1_soundSeat_70 rfl ?_
        refine z_get O (fk := 5) (fun x h => zI x (zu_RX1 x h)) rfl (by decide) (zI _ zm0_37) dX1_soundSeat_71 (zg_ev) rfl ?_
        refine z_aload O dX1_soundSeat_74 rfl ?_
        refine z_get O (fk := 7) (v := .int 0) (fun x h => zI x (zu_RX4 x h)) rfl (by decide) (zI _ zm1_60) dX1_soundSeat_76 (zg_seat (k := a * 10 + b) hk) (by simp only [sSeat, zu_s]; rfl) ?_
        refine z_if_eq O dX1_soundSeat_79 (tgt := 86) (by decide) (fun _ => ?_) (fun q => absurd rfl q)
        refine z_iconst O dX1_soundSeat_86 (v := 0) (by decide) ?_
        refine z_iadd O dX1_soundSeat_87 ?_
        refine z_put O (fk := 5) (fun x h => zI x (zu_RX1 x h)) tyX1 tyX1_ok nmX1 rfl (by decide) (zI _ zm0_37) rfl dX1_soundSeat_88 rfl rfl (zg_ev) (Nat.le_of_ble_eq_true rfl) (zp_ev (F := 32) (p := 5) (by decide) rfl) ?_
        refine z_goto O dX1_soundSeat_91 (tgt := 116) (by decide) ?_
        exact z_vret O dX1_soundSeat_116 (Nat.le_of_ble_eq_true rfl) (Nat.le_of_ble_eq_true rfl) (⟨rfl, by unfold fSits; rw [if_neg g, if_pos g2, if_pos g3]; rfl, rfl⟩)
      · refine z_iconst O dX1_soundSeat_61 (v := 1) (by decide) ?_
        refine z_goto O dX1_soundSeat_62 (tgt := 66) (by decide) ?_
        refine z_put O (fk := 7) (fun x h => zI x (zu_RX4 x h)) tyX4 tyX4_ok nmX4 rfl (by decide) (zI _ zm1_60) rfl dX1_soundSeat_66 (by decide) rfl (zg_seat (k := a * 10 + b) hk) (Nat.le_of_ble_eq_true rfl) (zp_seat_hissed hk) ?_
        refine z_aload_n O dX1_soundSeat_69 rfl ?_
        refine z_dup O dX1_soundSeat_70 rfl ?_
        refine z_get O (fk := 5) (fun x h => zI x (zu_RX1 x h)) rfl (by decide) (zI _ zm0_37) dX1_soundSeat_71 (zg_ev) rfl ?_
        refine z_aload O dX1_soundSeat_74 rfl ?_
        refine z_get O (fk := 7) (v := .int 1) (fun x h => zI x (zu_RX4 x h)) rfl (by decide) (zI _ zm1_60) dX1_soundSeat_76 (zg_seat (k := a * 10 + b) hk) (by simp only [sSeat, zu_s]; rfl) ?_
        refine z_if_eq O dX1_soundSeat_79 (tgt := 86) (by decide) (fun q => absurd q (by decide)) (fun _ => ?_)
        refine z_iconst O dX1_soundSeat_82 (v := 1) (by decide) ?_
        refine z_goto O dX1_soundSeat_83 (tgt := 87) (by decide) ?_
        refine z_iadd O dX1_soundSeat_87 ?_
        refine z_put O (fk := 5) (fun x h => zI x (zu_RX1 x h)) tyX1 tyX1_ok nmX1 rfl (by decide) (zI _ zm0_37) rfl dX1_soundSeat_88 rfl rfl (zg_ev) (Nat.le_of_ble_eq_true rfl) (zp_ev (F := 32) (p := 5) (by decide) rfl) ?_
        refine z_goto O dX1_soundSeat_91 (tgt := 116) (by decide) ?_
        exact z_vret O dX1_soundSeat_116 (Nat.le_of_ble_eq_true rfl) (Nat.le_of_ble_eq_true rfl) (⟨rfl, by unfold fSits; rw [if_neg g, if_pos g2, if_neg g3]; rfl, rfl⟩)
  · refine z_aload O dX1_soundSeat_24 rfl ?_
    refine z_aload_n O dX1_soundSeat_26 rfl ?_
    refine z_iload_n O dX1_soundSeat_27 rfl ?_
    refine z_iload_n O dX1_soundSeat_28 rfl ?_
    refine z_callV O (c_X3_around hl hh (a := a) (b := b) (by omega) (by omega)) zI zm1_64 zm1_65 zm1_66 zm1_0 zm0_66 ⟨rfl, by decide +kernel, by decide +kernel, (show _ = some 2 by decide +kernel)⟩ rfl (zg_house) ⟨Nat.le_of_ble_eq_true rfl, Nat.le_of_ble_eq_true rfl⟩ ⟨Nat.le_of_ble_eq_true rfl, Nat.le_of_ble_eq_true rfl⟩ dX1_soundSeat_29 rfl (Nat.le_of_ble_eq_true rfl) (fun _ _ _ h => h.elim) (fun r w1 ad1 hp => ?_)
    obtain ⟨rfl, rfl, rfl⟩ := hp
    refine z_callV O (c_X4_soundAsPayer hl hk (a := fAround Z a b)) zI zm1_67 zm1_68 zm1_69 zm0_61 zm1_6 ⟨rfl, by decide +kernel, by decide +kernel, (show _ = some 1 by decide +kernel)⟩ rfl (zg_seat (k := a * 10 + b) hk) ⟨Nat.le_of_ble_eq_true rfl, Nat.le_of_ble_eq_true rfl⟩ ⟨Nat.le_of_ble_eq_true rfl, Nat.le_of_ble_eq_true rfl⟩ dX1_soundSeat_32 rfl (Nat.le_of_ble_eq_true rfl) (fun _ _ _ h => h.elim) (fun r w1 ad1 hp => ?_)
    obtain ⟨rfl, rfl, rfl⟩ := hp
    refine z_goto O dX1_soundSeat_35 (tgt := 116) (by decide) ?_
    exact z_vret O dX1_soundSeat_116 (Nat.le_of_ble_eq_true rfl) (Nat.le_of_ble_eq_true rfl) (⟨rfl, by unfold fSits; rw [if_pos g], rfl⟩)

def fTickEnd (Z : zM) : zM := zu (fJudge (fHear Z (fSum (Z 3) 80)) (fNoisy (fHear Z (fSum (Z 3) 80)) 112) (fNoisy (fHear Z (fSum (Z 3) 80)) 104)) 29 0 (fJudge (fHear Z (fSum (Z 3) 80)) (fNoisy (fHear Z (fSum (Z 3) 80)) 112) (fNoisy (fHear Z (fSum (Z 3) 80)) 104) 29 0 + 1)
def fTick (Z : zM) (nr nc : Nat) : zM := fTickEnd (fTickRows (fIter fKeep Z 80) nc nr)
theorem zFr_end (Z : zM) : zFr Z (fTickEnd Z) := ((zFr_hear _ _).tr (zFr_judge _ _ _)).zu (by decide)
theorem zFr_tick (Z : zM) (nr nc : Nat) : zFr Z (fTick Z nr nc) := ((zFr_keep Z 80).tr (zFr_rows _ _ _)).tr (zFr_end _)
set_option maxRecDepth 100000 in
set_option maxHeartbeats 4000000 in
theorem c_X1_passTick {G : zG} {l : Launch} (hl : l.stackTraces = false) {Z : zM} {sb : Nat → Option Nat} {mcn : Nat → Int32} {cp : Nat → Nat} {Y : zM} {th : Int32} {o : Nat → Int64} {od : Nat → UInt64} {ad : Nat → Nat} (hv : zInv Z cp) (hb7 : ∀ k, k < 80 → zBol (Z 7 k)) {nr nc : Nat} (e1 : Z 23 0 = nI nr) (e2 : Z 24 0 = nI nc) (l1 : nr ≤ 8) (l2 : nc ≤ 10) : zCt G l yX1_passTick (zws yX1_passTick cX1_passTick 4 none) ({ frames := 5, cells := 0, slots := 0, locals := 112 }) [.ref (ad 4), .ref (ad 1)] (zent Z sb mcn cp G.2.2.2.1 Y th o od ad) ad (fun r w1 ad1 => none = r ∧ zent (fTick Z nr nc) sb mcn cp G.2.2.2.1 Y th o od ad = w1 ∧ ad = ad1) (zNoX) := by
  refine z_body hl (by decide +kernel) (Nat.le_of_ble_eq_true rfl) (fun X O => ?_)
  have L : ∀ (n : Nat) (a : Nat), a ≤ nr → nr < a + n → zV G X 4 0 0 6 [(0, .ref (ad 4)), (1, .ref (ad 1)), (2, .int (nI a))] [] (zent (fTickRows (fIter fKeep Z 80) nc a) sb mcn cp G.2.2.2.1 Y th o od ad) ad := by
    intro n
    induction n with
    | zero => intro a h1 h2; omega
    | succ n ih =>
      intro a h1 h2
      have fA : zFr Z (fTickRows (fIter fKeep Z 80) nc a) := (zFr_keep Z 80).tr (zFr_rows _ nc a)
      refine z_iload_n O dX1_passTick_6 rfl ?_
      refine z_aload_n O dX1_passTick_7 rfl ?_
      refine z_get O (fk := 1) (v := .int (nI nr)) (fun x h => zI x (zu_RX3 x h)) rfl (by decide) (zI _ zm2_18) dX1_passTick_8 (zg_house) (by show some (Value.int ((fTickRows (fIter fKeep Z 80) nc a) 23 0)) = _; rw [fA 23 (by omega), e1]) ?_
      refine z_icmp_ge O dX1_passTick_11 (tgt := 43) (by decide) (fun h => ?_) (fun h => ?_)
      · have hi : a = nr := by have := z_ge_ge (by omega) (by omega) h; omega
        subst hi
        have hvA := hv.fr fA
        obtain ⟨Z2, hZ2⟩ : ∃ z, z = (fTickRows (fIter fKeep Z 80) nc a) := ⟨_, rfl⟩
        rw [← hZ2] at hvA ⊢
        refine z_aload_n O dX1_passTick_43 rfl ?_
        refine z_aload_n O dX1_passTick_44 rfl ?_
        refine z_callV O (c_X3_noiseSum hl) zI zm2_26 zm2_27 zm2_28 zm1_0 zm2_4 ⟨rfl, by decide +kernel, by decide +kernel, (show _ = some 0 by decide +kernel)⟩ rfl (zg_house) ⟨Nat.le_of_ble_eq_true rfl, Nat.le_of_ble_eq_true rfl⟩ ⟨Nat.le_of_ble_eq_true rfl, Nat.le_of_ble_eq_true rfl⟩ dX1_passTick_45 rfl (Nat.le_of_ble_eq_true rfl) (fun _ _ _ h => h.elim) (fun r w1 ad1 hp => ?_)
        obtain ⟨rfl, rfl, rfl⟩ := hp
        refine z_callV O (c_X1_hearNoise hl hvA.2.2.2.2.1 hvA.2.2.2.2.2 hvA.2.2.2.1.2.2.2 (x := fSum (Z2 3) 80)) zI zm2_29 zm2_30 zm2_31 zm1_44 zm2_13 ⟨rfl, by decide +kernel, by decide +kernel, (show _ = some 1 by decide +kernel)⟩ rfl (zg_ev) ⟨Nat.le_of_ble_eq_true rfl, Nat.le_of_ble_eq_true rfl⟩ ⟨Nat.le_of_ble_eq_true rfl, Nat.le_of_ble_eq_true rfl⟩ dX1_passTick_48 rfl (Nat.le_of_ble_eq_true rfl) (fun _ _ _ h => h.elim) (fun r w1 ad1 hp => ?_)
        obtain ⟨rfl, rfl, rfl⟩ := hp
        have hv3 := hvA.fr (zFr_hear Z2 (fSum (Z2 3) 80))
        refine z_aload_n O dX1_passTick_51 rfl ?_
        refine z_aload_n O dX1_passTick_52 rfl ?_
        refine z_bipush O dX1_passTick_53 (v := 112) (by decide) ?_
        refine z_callV O (c_X3_countNoisy hl (ch := 112)) zI zm2_32 zm2_33 zm2_34 zm1_0 zm2_14 ⟨rfl, by decide +kernel, by decide +kernel, (show _ = some 1 by decide +kernel)⟩ rfl (zg_house) ⟨Nat.le_of_ble_eq_true rfl, Nat.le_of_ble_eq_true rfl⟩ ⟨Nat.le_of_ble_eq_true rfl, Nat.le_of_ble_eq_true rfl⟩ dX1_passTick_55 rfl (Nat.le_of_ble_eq_true rfl) (fun _ _ _ h => h.elim) (fun r w1 ad1 hp => ?_)
        obtain ⟨rfl, rfl, rfl⟩ := hp
        refine z_aload_n O dX1_passTick_58 rfl ?_
        refine z_bipush O dX1_passTick_59 (v := 104) (by decide) ?_
        refine z_callV O (c_X3_countNoisy hl (ch := 104)) zI zm2_32 zm2_33 zm2_34 zm1_0 zm2_14 ⟨rfl, by decide +kernel, by decide +kernel, (show _ = some 1 by decide +kernel)⟩ rfl (zg_house) ⟨Nat.le_of_ble_eq_true rfl, Nat.le_of_ble_eq_true rfl⟩ ⟨Nat.le_of_ble_eq_true rfl, Nat.le_of_ble_eq_true rfl⟩ dX1_passTick_61 rfl (Nat.le_of_ble_eq_true rfl) (fun _ _ _ h => h.elim) (fun r w1 ad1 hp => ?_)
        obtain ⟨rfl, rfl, rfl⟩ := hp
        refine z_callV O (c_X1_judgeCues hl hv3.2.2.2.2.1) zI zm2_35 zm2_36 zm2_37 zm1_44 zm2_17 ⟨rfl, by decide +kernel, by decide +kernel, (show _ = some 2 by decide +kernel)⟩ rfl (zg_ev) ⟨Nat.le_of_ble_eq_true rfl, Nat.le_of_ble_eq_true rfl⟩ ⟨Nat.le_of_ble_eq_true rfl, Nat.le_of_ble_eq_true rfl⟩ dX1_passTick_64 rfl (Nat.le_of_ble_eq_true rfl) (fun _ _ _ h => h.elim) (fun r w1 ad1 hp => ?_)
        obtain ⟨rfl, rfl, rfl⟩ := hp
        refine z_aload_n O dX1_passTick_67 rfl ?_
        refine z_dup O dX1_passTick_68 rfl ?_
        refine z_get O (fk := 2) (fun x h => zI x (zu_RX1 x h)) rfl (by decide) (zI _ zm0_34) dX1_passTick_69 (zg_ev) rfl ?_
        refine z_iconst O dX1_passTick_72 (v := 1) (by decide) ?_
        refine z_iadd O dX1_passTick_73 ?_
        refine z_put O (fk := 2) (fun x h => zI x (zu_RX1 x h)) tyX1 tyX1_ok nmX1 rfl (by decide) (zI _ zm0_34) rfl dX1_passTick_74 rfl rfl (zg_ev) (Nat.le_of_ble_eq_true rfl) (zp_ev (F := 29) (p := 2) (by decide) rfl) ?_
        exact z_vret O dX1_passTick_77 (Nat.le_of_ble_eq_true rfl) (Nat.le_of_ble_eq_true rfl) (⟨rfl, by unfold fTick; rw [← hZ2]; rfl, rfl⟩)
      · have hi : a < nr := z_ge_lt (by omega) (by omega) h
        have ihO := ih
        have L2 : ∀ (n : Nat) (b : Nat), b ≤ nc → nc < b + n → zV G X 4 0 0 16 [(0, .ref (ad 4)), (1, .ref (ad 1)), (2, .int (nI a)), (3, .int (nI b))] [] (zent (fTickRow (fTickRows (fIter fKeep Z 80) nc a) a b) sb mcn cp G.2.2.2.1 Y th o od ad) ad := by
          intro n
          induction n with
          | zero => intro b h3 h4; omega
          | succ n ih =>
            intro b h3 h4
            have fB : zFr Z (fTickRow (fTickRows (fIter fKeep Z 80) nc a) a b) := ((zFr_keep Z 80).tr (zFr_rows _ nc a)).tr (zFr_row _ a b)
            refine z_iload_n O dX1_passTick_16 rfl ?_
            refine z_aload_n O dX1_passTick_17 rfl ?_
            refine z_get O (fk := 2) (v := .int (nI nc)) (fun x h => zI x (zu_RX3 x h)) rfl (by decide) (zI _ zm2_19) dX1_passTick_18 (zg_house) (by show some (Value.int ((fTickRow (fTickRows (fIter fKeep Z 80) nc a) a b) 24 0)) = _; rw [fB 24 (by omega), e2]) ?_
            refine z_icmp_ge O dX1_passTick_21 (tgt := 37) (by decide) (fun h9 => ?_) (fun h9 => ?_)
            · have hj : b = nc := by have := z_ge_ge (by omega) (by omega) h9; omega
              subst hj
              refine z_iincN O dX1_passTick_37 (a := a) rfl (by decide) ?_
              refine z_goto O dX1_passTick_40 (tgt := 6) (by decide) ?_
              exact zV.loc (ihO (a + 1) (by omega) (by omega)) ⟨rfl, rfl, rfl, trivial⟩
            · have hj : b < nc := z_ge_lt (by omega) (by omega) h9
              refine z_aload_n O dX1_passTick_24 rfl ?_
              refine z_aload_n O dX1_passTick_25 rfl ?_
              refine z_iload_n O dX1_passTick_26 rfl ?_
              refine z_iload_n O dX1_passTick_27 rfl ?_
              refine z_callV O (c_X1_soundSeat hl (hv.fr fB) (nr := nr) (nc := nc) (a := a) (b := b) (by rw [fB 23 (by omega), e1]) (by rw [fB 24 (by omega), e2]) l1 l2 hi hj) zI zm2_23 zm2_24 zm2_25 zm1_44 zm2_3 ⟨rfl, by decide +kernel, by decide +kernel, (show _ = some 3 by decide +kernel)⟩ rfl (zg_ev) ⟨Nat.le_of_ble_eq_true rfl, Nat.le_of_ble_eq_true rfl⟩ ⟨Nat.le_of_ble_eq_true rfl, Nat.le_of_ble_eq_true rfl⟩ dX1_passTick_28 rfl (Nat.le_of_ble_eq_true rfl) (fun _ _ _ h => h.elim) (fun r w1 ad1 hp => ?_)
              obtain ⟨rfl, rfl, rfl⟩ := hp
              refine z_iincN O dX1_passTick_31 (a := b) rfl (by decide) ?_
              refine z_goto O dX1_passTick_34 (tgt := 16) (by decide) ?_
              exact zV.loc (ih (b + 1) (by omega) (by omega)) ⟨rfl, rfl, rfl, rfl, trivial⟩
        refine z_iconst O dX1_passTick_14 (v := 0) (by decide) ?_
        refine z_istore_n O dX1_passTick_15 (by decide) ?_
        exact zV.loc (L2 (nc + 1) 0 (by omega) (by omega)) ⟨rfl, rfl, rfl, rfl, trivial⟩
  refine z_aload_n O dX1_passTick_0 rfl ?_
  refine z_callV O (c_X3_keepTickAhead hl hb7) zI zm2_20 zm2_21 zm2_22 zm1_0 zm0_56 ⟨rfl, by decide +kernel, by decide +kernel, (show _ = some 0 by decide +kernel)⟩ rfl (zg_house) ⟨Nat.le_of_ble_eq_true rfl, Nat.le_of_ble_eq_true rfl⟩ ⟨Nat.le_of_ble_eq_true rfl, Nat.le_of_ble_eq_true rfl⟩ dX1_passTick_1 rfl (Nat.le_of_ble_eq_true rfl) (fun _ _ _ h => h.elim) (fun r w1 ad1 hp => ?_)
  obtain ⟨rfl, rfl, rfl⟩ := hp
  refine z_iconst O dX1_passTick_4 (v := 0) (by decide) ?_
  refine z_istore_n O dX1_passTick_5 (by decide) ?_
  exact zV.loc (L (nr + 1) 0 (by omega) (by omega)) ⟨rfl, rfl, rfl, trivial⟩
