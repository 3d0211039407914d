theorem zLst_susp {Z : zM} {cp : Nat → Nat} {F : Nat} {v : Int32} {k i : Nat} (hF : F ≠ 25 + i) (h : zLst Z cp i) : zLst (zu Z F k v) cp i := by
  have hn : zN (zu Z F k v) i = zN Z i := by unfold zN; rw [zu_f (Ne.symm hF)]
  unfold zLst
  rw [hn, zu_f (Ne.symm hF)]
  exact h
set_option maxRecDepth 100000 in
set_option maxHeartbeats 4000000 in
theorem c_X1_judgeCues {G : zG} {l : Launch} (hl : l.stackTraces = false) {Z : zM} {sb : Nat → Option Nat} {mcn : Nat → Int32} {cp : Nat → Nat} {Y : zM} {th : Int32} {o : Nat → Int64} {od : Nat → UInt64} {ad : Nat → Nat} (hL2 : zLst Z cp 2) {x y : Int32} : zCt G l yX1_judgeCues (zws yX1_judgeCues cX1_judgeCues 4 none) ({ frames := 3, cells := 0, slots := 0, locals := 64 }) [.ref (ad 4), .int x, .int y] (zent Z sb mcn cp G.2.2.2.1 Y th o od ad) ad (fun r w1 ad1 => none = r ∧ zent (fJudge Z x y) sb mcn cp G.2.2.2.1 Y th o od ad = w1 ∧ ad = ad1) (zNoX) := by
  refine z_body hl (by decide +kernel) (Nat.le_of_ble_eq_true rfl) (fun X O => ?_)
  refine z_iload_n O dX1_judgeCues_0 rfl ?_
  refine z_iload_n O dX1_judgeCues_1 rfl ?_
  refine z_icmp_lt O dX1_judgeCues_2 (tgt := 6) (by decide) (fun h => ?_) (fun h => ?_)
  · have L : ∀ (n : Nat) (i : Nat), i ≤ zN Z 2 → zN Z 2 < i + n → zV G X 4 0 0 8 [(0, .ref (ad 4)), (1, .int x), (2, .int y), (3, .int (nI i))] [] (zent (zu Z 33 0 (fJ Z i)) sb mcn cp G.2.2.2.1 Y th o od ad) ad := by
      intro n
      induction n with
      | zero => intro i h1 h2; omega
      | succ n ih =>
        intro i h1 h2
        have hL3 : zLst (zu Z 33 0 (fJ Z i)) cp 2 := zLst_susp (by decide) hL2
        have hN2 : zN (zu Z 33 0 (fJ Z i)) 2 = zN Z 2 := by simp [zN, zu]
        refine z_iload_n O dX1_judgeCues_8 rfl ?_
        refine z_aload_n O dX1_judgeCues_9 rfl ?_
        refine z_get O (fk := 0) (fun x h => zI x (zu_RX1 x h)) rfl (by decide) (zI _ zm0_32) dX1_judgeCues_10 (zg_ev) rfl ?_
        refine z_callV O (c_size_l hl (i := 2) (by decide) hL3) zI zm1_45 zm1_46 zm1_47 zm0_31 zm1_19 ⟨rfl, by decide +kernel, by decide +kernel, (show _ = some 0 by decide +kernel)⟩ rfl ((zg_list0 (i := 2) (by decide) hL3)) ⟨Nat.le_of_ble_eq_true rfl, Nat.le_of_ble_eq_true rfl⟩ ⟨Nat.le_of_ble_eq_true rfl, Nat.le_of_ble_eq_true rfl⟩ dX1_judgeCues_13 rfl (Nat.le_of_ble_eq_true rfl) (fun _ _ _ h => h.elim) (fun r w1 ad1 hp => ?_)
        obtain ⟨rfl, rfl, rfl⟩ := hp
        rw [hN2]
        refine z_icmp_ge O dX1_judgeCues_16 (tgt := 56) (by decide) (fun g => ?_) (fun g => ?_)
        · have hi : i = zN Z 2 := by have := z_ge_ge (by have := hL2.2.2.2; omega) (by have := hL2.2.2.2; omega) g; omega
          subst hi
          exact z_vret O dX1_judgeCues_56 (Nat.le_of_ble_eq_true rfl) (Nat.le_of_ble_eq_true rfl) (⟨rfl, by unfold fJudge; rw [if_pos h], rfl⟩)
        · have hi : i < zN Z 2 := z_ge_lt (by have := hL2.2.2.2; omega) (by have := hL2.2.2.2; omega) g
          have hi20 : i < 20 := by have := hL2.2.2.2; omega
          have hi3 : i < zN (zu Z 33 0 (fJ Z i)) 2 := by rw [hN2]; exact hi
          refine z_aload_n O dX1_judgeCues_19 rfl ?_
          refine z_get O (fk := 0) (fun x h => zI x (zu_RX1 x h)) rfl (by decide) (zI _ zm0_32) dX1_judgeCues_20 (zg_ev) rfl ?_
          refine z_iload_n O dX1_judgeCues_23 rfl ?_
          refine z_callV O (c_get_cue hl hL3 hi3) zI zm1_48 zm1_49 zm1_50 zm0_31 zm1_26 ⟨rfl, by decide +kernel, by decide +kernel, (show _ = some 1 by decide +kernel)⟩ rfl ((zg_list0 (i := 2) (by decide) hL3)) ⟨Nat.le_of_ble_eq_true rfl, Nat.le_of_ble_eq_true rfl⟩ ⟨Nat.le_of_ble_eq_true rfl, Nat.le_of_ble_eq_true rfl⟩ dX1_judgeCues_24 rfl (Nat.le_of_ble_eq_true rfl) (fun _ _ _ h => h.elim) (fun r w1 ad1 hp => ?_)
          obtain ⟨rfl, rfl, rfl⟩ := hp
          refine z_cast0 O rfl (zI _ zm1_36) (zg_cue hi3 hi20) dX1_judgeCues_27 ?_
          refine z_callV O (c_X0_lastTick hl hi3 hi20) zI zm2_16 zm0_12 zm0_13 zm0_14 zm0_9 ⟨rfl, by decide +kernel, by decide +kernel, (show _ = some 0 by decide +kernel)⟩ rfl (zg_cue hi3 hi20) ⟨Nat.le_of_ble_eq_true rfl, Nat.le_of_ble_eq_true rfl⟩ ⟨Nat.le_of_ble_eq_true rfl, Nat.le_of_ble_eq_true rfl⟩ dX1_judgeCues_30 rfl (Nat.le_of_ble_eq_true rfl) (fun _ _ _ h => h.elim) (fun r w1 ad1 hp => ?_)
          obtain ⟨rfl, rfl, rfl⟩ := hp
          refine z_aload_n O dX1_judgeCues_33 rfl ?_
          refine z_get O (fk := 2) (fun x h => zI x (zu_RX1 x h)) rfl (by decide) (zI _ zm0_34) dX1_judgeCues_34 (zg_ev) rfl ?_
          refine z_icmp_ne O dX1_judgeCues_37 (tgt := 50) (by decide) (fun k => ?_) (fun k => ?_)
          all_goals rw [show fLastTick (zu Z 33 0 (fJ Z i)) i = fLastTick Z i by simp [fLastTick, zu], show zu Z 33 0 (fJ Z i) 29 0 = Z 29 0 by simp [zu]] at k
          · refine z_iincN O dX1_judgeCues_50 (a := i) rfl (by decide) ?_
            refine z_goto O dX1_judgeCues_53 (tgt := 8) (by decide) ?_
            refine zV.to (ih (i + 1) (by omega) (by omega)) ⟨rfl, rfl, rfl, rfl, trivial⟩ rfl ?_
            rw [show fJ Z (i + 1) = fJ Z i from if_neg k]
          · refine z_aload_n O dX1_judgeCues_40 rfl ?_
            refine z_dup O dX1_judgeCues_41 rfl ?_
            refine z_get O (fk := 6) (fun x h => zI x (zu_RX1 x h)) rfl (by decide) (zI _ zm0_38) dX1_judgeCues_42 (zg_ev) rfl ?_
            refine z_iconst O dX1_judgeCues_45 (v := 1) (by decide) ?_
            refine z_iadd O dX1_judgeCues_46 ?_
            refine z_put O (fk := 6) (fun x h => zI x (zu_RX1 x h)) tyX1 tyX1_ok nmX1 rfl (by decide) (zI _ zm0_38) rfl dX1_judgeCues_47 rfl rfl (zg_ev) (Nat.le_of_ble_eq_true rfl) (zp_ev (F := 33) (p := 6) (by decide) rfl) ?_
            refine z_iincN O dX1_judgeCues_50 (a := i) rfl (by decide) ?_
            refine z_goto O dX1_judgeCues_53 (tgt := 8) (by decide) ?_
            refine zV.to (ih (i + 1) (by omega) (by omega)) ⟨rfl, rfl, rfl, rfl, trivial⟩ rfl ?_
            rw [show fJ Z (i + 1) = fJ Z i + 1 from if_pos k]; congr 1; funext f j; unfold zu; by_cases q : f = 33 ∧ j = 0 <;> simp [q]
    refine z_iconst O dX1_judgeCues_6 (v := 0) (by decide) ?_
    refine z_istore_n O dX1_judgeCues_7 (by decide) ?_
    exact zV.to (L (zN Z 2 + 1) 0 (by omega) (by omega)) ⟨rfl, rfl, rfl, rfl, trivial⟩ rfl (by rw [show zu Z 33 0 (fJ Z 0) = Z from zu_id rfl])
  · exact z_vret O dX1_judgeCues_5 (Nat.le_of_ble_eq_true rfl) (Nat.le_of_ble_eq_true rfl) (⟨rfl, by unfold fJudge; rw [if_neg h], rfl⟩)

def fBegin (Z : zM) : zM := zu (zu (zu (zu (zu (zu Z 27 0 0) 29 0 0) 30 0 0) 31 0 0) 32 0 0) 33 0 0
set_option maxRecDepth 100000 in
set_option maxHeartbeats 4000000 in
theorem c_X1_begin {G : zG} {l : Launch} (hl : l.stackTraces = false) {Z : zM} {sb : Nat → Option Nat} {mcn : Nat → Int32} {cp : Nat → Nat} {Y : zM} {th : Int32} {o : Nat → Int64} {od : Nat → UInt64} {ad : Nat → Nat} (hL2 : zLst Z cp 2) : zCt G l yX1_begin (zws yX1_begin cX1_begin 1 none) ({ frames := 1, cells := 0, slots := 0, locals := 23 }) [.ref (ad 4)] (zent Z sb mcn cp G.2.2.2.1 Y th o od ad) ad (fun r w1 ad1 => none = r ∧ zent (fBegin Z) sb (va_up mcn 2 (mcn 2 + 1)) cp G.2.2.2.1 Y th o od ad = w1 ∧ ad = ad1) (zNoX) := by
  refine z_body hl (by decide +kernel) (Nat.le_of_ble_eq_true rfl) (fun X O => ?_)
  have hfin : ∀ (w9 : zH), (∀ j e, zent (zu Z 27 0 0) sb (va_up mcn 2 (mcn 2 + 1)) cp G.2.2.2.1 Y th o od ad j = some e → w9 j = some e) → zV G X 1 0 0 7 [(0, .ref (ad 4))] [] w9 ad := by
    intro w9 h9
    refine zV.world (w' := zent (zu Z 27 0 0) sb (va_up mcn 2 (mcn 2 + 1)) cp G.2.2.2.1 Y th o od ad) (ad' := ad) ?_ (fun H hR => hR.less h9)
    refine z_aload_n O dX1_begin_7 rfl ?_
    refine z_iconst O dX1_begin_8 (v := 0) (by decide) ?_
    refine z_put O (fk := 2) (fun x h => zI x (zu_RX1 x h)) tyX1 tyX1_ok nmX1 rfl (by decide) (zI _ zm0_34) rfl dX1_begin_9 rfl rfl (zg_ev) (Nat.le_of_ble_eq_true rfl) (zp_ev (F := 29) (p := 2) (by decide) rfl) ?_
    refine z_aload_n O dX1_begin_12 rfl ?_
    refine z_iconst O dX1_begin_13 (v := 0) (by decide) ?_
    refine z_put O (fk := 3) (fun x h => zI x (zu_RX1 x h)) tyX1 tyX1_ok nmX1 rfl (by decide) (zI _ zm0_35) rfl dX1_begin_14 rfl rfl (zg_ev) (Nat.le_of_ble_eq_true rfl) (zp_ev (F := 30) (p := 3) (by decide) rfl) ?_
    refine z_aload_n O dX1_begin_17 rfl ?_
    refine z_iconst O dX1_begin_18 (v := 0) (by decide) ?_
    refine z_put O (fk := 4) (fun x h => zI x (zu_RX1 x h)) tyX1 tyX1_ok nmX1 rfl (by decide) (zI _ zm0_36) rfl dX1_begin_19 rfl rfl (zg_ev) (Nat.le_of_ble_eq_true rfl) (zp_ev (F := 31) (p := 4) (by decide) rfl) ?_
    refine z_aload_n O dX1_begin_22 rfl ?_
    refine z_iconst O dX1_begin_23 (v := 0) (by decide) ?_
    refine z_put O (fk := 5) (fun x h => zI x (zu_RX1 x h)) tyX1 tyX1_ok nmX1 rfl (by decide) (zI _ zm0_37) rfl dX1_begin_24 rfl rfl (zg_ev) (Nat.le_of_ble_eq_true rfl) (zp_ev (F := 32) (p := 5) (by decide) rfl) ?_
    refine z_aload_n O dX1_begin_27 rfl ?_
    refine z_iconst O dX1_begin_28 (v := 0) (by decide) ?_
    refine z_put O (fk := 6) (fun x h => zI x (zu_RX1 x h)) tyX1 tyX1_ok nmX1 rfl (by decide) (zI _ zm0_38) rfl dX1_begin_29 rfl rfl (zg_ev) (Nat.le_of_ble_eq_true rfl) (zp_ev (F := 33) (p := 6) (by decide) rfl) ?_
    exact z_vret O dX1_begin_32 (Nat.le_of_ble_eq_true rfl) (Nat.le_of_ble_eq_true rfl) (⟨rfl, rfl, rfl⟩)
  by_cases c0 : cp 2 = 0
  · have hn0 : zN Z 2 = 0 := by have := hL2.2.1; omega
    have hw7 : (zent Z sb mcn cp G.2.2.2.1 Y th o od ad) 7 = some (zLs (mcn 2) (.ref G.2.2.2.1) 0) := by
      have := zg_list0 (sb := sb) (mcn := mcn) (e0 := G.2.2.2.1) (Y := Y) (th := th) (o := o) (od := od) (ad := ad) (i := 2) (by decide) hL2
      rw [if_pos c0, hn0] at this
      exact this
    refine z_aload_n O dX1_begin_0 rfl ?_
    refine z_get O (fk := 0) (fun x h => zI x (zu_RX1 x h)) rfl (by decide) (zI _ zm0_32) dX1_begin_1 (zg_ev) rfl ?_
    refine z_callV O (c_clear0 hl (a := 7) hw7) zI zm0_47 zm0_48 zm0_49 zm0_31 zm0_42 ⟨rfl, by decide +kernel, by decide +kernel, (show _ = some 0 by decide +kernel)⟩ rfl (hw7) ⟨Nat.le_of_ble_eq_true rfl, Nat.le_of_ble_eq_true rfl⟩ ⟨Nat.le_of_ble_eq_true rfl, Nat.le_of_ble_eq_true rfl⟩ dX1_begin_4 rfl (Nat.le_of_ble_eq_true rfl) (fun _ _ _ h => h.elim) (fun r w1 ad1 hp => ?_)
    obtain ⟨rfl, rfl, rfl⟩ := hp
    exact zV.loc (hfin _ (zw_clear (Z := Z) (by rw [wU_s, if_pos c0]) (fun q => absurd c0 q) (fun j j7 _ => wU_n j7))) ⟨rfl, trivial⟩
  · refine z_aload_n O dX1_begin_0 rfl ?_
    refine z_get O (fk := 0) (fun x h => zI x (zu_RX1 x h)) rfl (by decide) (zI _ zm0_32) dX1_begin_1 (zg_ev) rfl ?_
    refine z_callV O (c_clear hl (a := 7) (b := 10) (by decide) (zg_list1 (i := 2) (by decide) hL2 c0) (zg_larr (i := 2) (by decide) c0) hL2.2.1 (by have := hL2.2.2.1; omega)) zI zm0_47 zm0_48 zm0_49 zm0_31 zm0_42 ⟨rfl, by decide +kernel, by decide +kernel, (show _ = some 0 by decide +kernel)⟩ rfl ((zg_list1 (i := 2) (by decide) hL2 c0)) ⟨Nat.le_of_ble_eq_true rfl, Nat.le_of_ble_eq_true rfl⟩ ⟨Nat.le_of_ble_eq_true rfl, Nat.le_of_ble_eq_true rfl⟩ dX1_begin_4 rfl (Nat.le_of_ble_eq_true rfl) (fun _ _ _ h => h.elim) (fun r w1 ad1 hp => ?_)
    obtain ⟨rfl, rfl, rfl⟩ := hp
    refine zV.loc (hfin _ (zw_clear (Z := Z) (by rw [wU_n (by decide), wU_s, if_neg c0]) (fun q => ?_) (fun j j7 j10 => by rw [wU_n j10, wU_n j7]))) ⟨rfl, trivial⟩
    rw [wU_s]
    unfold zAr
    rw [show (fun k => if k < zN Z 2 then none else if k < zN Z 2 then some (ad (200 + 20 * 2 + k)) else none) = (fun _ => (none : Option Nat)) from funext fun k => by by_cases q2 : k < zN Z 2 <;> simp [q2]]

theorem fSang_mono {Z : zM} {k a : Nat} (h : fSang Z k a = true) : ∀ {b : Nat}, a ≤ b → fSang Z k b = true := by
  intro b hb
  induction b with
  | zero => rw [show a = 0 by omega] at h; exact h
  | succ b ih =>
    by_cases q : a ≤ b
    · show (fSang Z k b || _) = true
      rw [ih q]; rfl
    · rw [show a = b + 1 by omega] at h; exact h
set_option maxRecDepth 100000 in
set_option maxHeartbeats 4000000 in
theorem c_X1_hasBegunCueFor {G : zG} {l : Launch} (hl : l.stackTraces = false) {Z : zM} {sb : Nat → Option Nat} {mcn : Nat → Int32} {cp : Nat → Nat} {Y : zM} {th : Int32} {o : Nat → Int64} {od : Nat → UInt64} {ad : Nat → Nat} (hL2 : zLst Z cp 2) (hs : ∀ c, c < zN Z 2 → (Z 19 c).toNatClampNeg < zN Z 1) (hn1 : zN Z 1 ≤ 12) {k : Nat} (hk : k < zN Z 1) : zCt G l yX1_hasBegunCueFor (zws yX1_hasBegunCueFor cX1_hasBegunCueFor 4 (some .boolean)) ({ frames := 3, cells := 0, slots := 0, locals := 64 }) [.ref (ad 4), .ref (ad (220 + k))] (zent Z sb mcn cp G.2.2.2.1 Y th o od ad) ad (fun r w1 ad1 => some (.int (if fSang Z k (zN Z 2) then 1 else 0)) = r ∧ zent Z sb mcn cp G.2.2.2.1 Y th o od ad = w1 ∧ ad = ad1) (zNoX) := by
  refine z_body hl (by decide +kernel) (Nat.le_of_ble_eq_true rfl) (fun X O => ?_)
  have L : ∀ (n : Nat) (i : Nat), i ≤ zN Z 2 → zN Z 2 < i + n → fSang Z k i = false → zV G X 4 0 0 2 [(0, .ref (ad 4)), (1, .ref (ad (220 + k))), (2, .int (nI i))] [] (zent Z sb mcn cp G.2.2.2.1 Y th o od ad) ad := by
    intro n
    induction n with
    | zero => intro i h1 h2 hb; omega
    | succ n ih =>
      intro i h1 h2 hb
      refine z_iload_n O dX1_hasBegunCueFor_2 rfl ?_
      refine z_aload_n O dX1_hasBegunCueFor_3 rfl ?_
      refine z_get O (fk := 0) (fun x h => zI x (zu_RX1 x h)) rfl (by decide) (zI _ zm0_32) dX1_hasBegunCueFor_4 (zg_ev) rfl ?_
      refine z_callV O (c_size_l hl (i := 2) (by decide) hL2) zI zm1_45 zm1_46 zm1_47 zm0_31 zm1_19 ⟨rfl, by decide +kernel, by decide +kernel, (show _ = some 0 by decide +kernel)⟩ rfl ((zg_list0 (i := 2) (by decide) hL2)) ⟨Nat.le_of_ble_eq_true rfl, Nat.le_of_ble_eq_true rfl⟩ ⟨Nat.le_of_ble_eq_true rfl, Nat.le_of_ble_eq_true rfl⟩ dX1_hasBegunCueFor_7 rfl (Nat.le_of_ble_eq_true rfl) (fun _ _ _ h => h.elim) (fun r w1 ad1 hp => ?_)
      obtain ⟨rfl, rfl, rfl⟩ := hp
      refine z_icmp_ge O dX1_hasBegunCueFor_10 (tgt := 52) (by decide) (fun h => ?_) (fun h => ?_)
      · have hi : i = zN Z 2 := by have := z_ge_ge (by have := hL2.2.2.2; omega) (by have := hL2.2.2.2; omega) h; omega
        subst hi
        refine z_iconst O dX1_hasBegunCueFor_52 (v := 0) (by decide) ?_
        exact z_zret O rfl rfl dX1_hasBegunCueFor_53 (Nat.le_of_ble_eq_true rfl) (Nat.le_of_ble_eq_true rfl) (⟨by rw [hb]; rfl, rfl, rfl⟩)
      · have hi : i < zN Z 2 := z_ge_lt (by have := hL2.2.2.2; omega) (by have := hL2.2.2.2; omega) h
        have hi20 : i < 20 := by have := hL2.2.2.2; omega
        refine z_aload_n O dX1_hasBegunCueFor_13 rfl ?_
        refine z_get O (fk := 0) (fun x h => zI x (zu_RX1 x h)) rfl (by decide) (zI _ zm0_32) dX1_hasBegunCueFor_14 (zg_ev) rfl ?_
        refine z_iload_n O dX1_hasBegunCueFor_17 rfl ?_
        refine z_callV O (c_get_cue hl hL2 hi) zI zm1_48 zm1_49 zm1_50 zm0_31 zm1_26 ⟨rfl, by decide +kernel, by decide +kernel, (show _ = some 1 by decide +kernel)⟩ rfl ((zg_list0 (i := 2) (by decide) hL2)) ⟨Nat.le_of_ble_eq_true rfl, Nat.le_of_ble_eq_true rfl⟩ ⟨Nat.le_of_ble_eq_true rfl, Nat.le_of_ble_eq_true rfl⟩ dX1_hasBegunCueFor_18 rfl (Nat.le_of_ble_eq_true rfl) (fun _ _ _ h => h.elim) (fun r w1 ad1 hp => ?_)
        obtain ⟨rfl, rfl, rfl⟩ := hp
        refine z_cast0 O rfl (zI _ zm1_36) (zg_cue hi hi20) dX1_hasBegunCueFor_21 ?_
        refine z_astore_n O dX1_hasBegunCueFor_24 (by decide) ?_
        refine z_aload_n O dX1_hasBegunCueFor_25 rfl ?_
        refine z_get O (fk := 0) (fun x h => zI x (zu_RX0 x h)) rfl (by decide) (zI _ zm2_8) dX1_hasBegunCueFor_26 (zg_cue hi hi20) rfl ?_
        refine z_aload_n O dX1_hasBegunCueFor_29 rfl ?_
        refine zV.inj (i := 220 + (Z 19 i).toNatClampNeg) (j := 220 + k) (by rw [zg_singer (hs i hi) (by have := hs i hi; omega)]; exact fun q => by cases q) (by rw [zg_singer hk (by omega)]; exact fun q => by cases q) (fun hinj => ?_)
        refine z_acmp_ne O (rx := some (ad (220 + (Z 19 i).toNatClampNeg))) (ry := some (ad (220 + k))) dX1_hasBegunCueFor_30 (tgt := 46) (by decide) (fun g => ?_) (fun g => ?_)
        · refine z_iincN O dX1_hasBegunCueFor_46 (a := i) rfl (by decide) ?_
          refine z_goto O dX1_hasBegunCueFor_49 (tgt := 2) (by decide) ?_
          exact zV.loc (ih (i + 1) (by omega) (by omega) (by show (fSang Z k i || _) = false; rw [hb, show decide ((Z 19 i).toNatClampNeg = k) = false from decide_eq_false (fun q => g (by rw [q]))]; rfl)) ⟨rfl, rfl, rfl, trivial⟩
        · have hik : (Z 19 i).toNatClampNeg = k := by have := hinj (Option.some.inj g); omega
          refine z_aload_n O dX1_hasBegunCueFor_33 rfl ?_
          refine z_get O (fk := 2) (fun x h => zI x (zu_RX0 x h)) rfl (by decide) (zI _ zm2_6) dX1_hasBegunCueFor_34 (zg_cue hi hi20) rfl ?_
          refine z_aload_n O dX1_hasBegunCueFor_37 rfl ?_
          refine z_get O (fk := 2) (fun x h => zI x (zu_RX1 x h)) rfl (by decide) (zI _ zm0_34) dX1_hasBegunCueFor_38 (zg_ev) rfl ?_
          refine z_icmp_ge O dX1_hasBegunCueFor_41 (tgt := 46) (by decide) (fun g2 => ?_) (fun g2 => ?_)
          · refine z_iincN O dX1_hasBegunCueFor_46 (a := i) rfl (by decide) ?_
            refine z_goto O dX1_hasBegunCueFor_49 (tgt := 2) (by decide) ?_
            exact zV.loc (ih (i + 1) (by omega) (by omega) (by show (fSang Z k i || _) = false; rw [hb, show decide (Z 20 i < Z 29 0) = false from decide_eq_false (Int32.not_lt.mpr g2)]; simp)) ⟨rfl, rfl, rfl, trivial⟩
          · refine z_iconst O dX1_hasBegunCueFor_44 (v := 1) (by decide) ?_
            exact z_zret O rfl rfl dX1_hasBegunCueFor_45 (Nat.le_of_ble_eq_true rfl) (Nat.le_of_ble_eq_true rfl) (⟨by rw [fSang_mono (show fSang Z k (i + 1) = true by show (fSang Z k i || _) = true; rw [show decide ((Z 19 i).toNatClampNeg = k) = true from decide_eq_true hik, show decide (Z 20 i < Z 29 0) = true from decide_eq_true (Int32.not_le.mp g2)]; simp) (by omega)]; rfl, rfl, rfl⟩)
  refine z_iconst O dX1_hasBegunCueFor_0 (v := 0) (by decide) ?_
  refine z_istore_n O dX1_hasBegunCueFor_1 (by decide) ?_
  exact zV.loc (L (zN Z 2 + 1) 0 (by omega) (by omega) rfl) ⟨rfl, rfl, rfl, trivial⟩
