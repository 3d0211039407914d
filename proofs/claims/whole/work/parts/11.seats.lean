theorem zI {c : Cond} : ∀ x ∈ zAll, x ∈ c :: zAll := fun _ h => List.mem_cons_of_mem _ h
/-- what a seat forgets as an evening begins -/
def fRest (Z : zM) (k : Nat) : zM := zu (zu (zu (zu Z 3 k 0) 6 k 0) 4 k 0) 7 k 0
set_option maxRecDepth 100000 in
set_option maxHeartbeats 4000000 in
theorem c_X4_forgetEvening {G : zG} {l : Launch} (hl : l.stackTraces = false) {Z : zM} {sb : Nat → Option Nat} {mcn : Nat → Int32} {cp : Nat → Nat} {e0 : Nat} {Y : zM} {th : Int32} {o : Nat → Int64} {od : Nat → UInt64} {ad : Nat → Nat} {k : Nat} (hk : k < 80) : zCt G l yX4_forgetEvening (zws yX4_forgetEvening cX4_forgetEvening 1 none) ({ frames := 1, cells := 0, slots := 0, locals := 12 }) [.ref (ad (100 + k))] (zent Z sb mcn cp e0 Y th o od ad) ad (fun r w1 ad1 => none = r ∧ zent (fRest Z k) sb mcn cp e0 Y th o od ad = w1 ∧ ad = ad1) (zNoX) := by
  refine z_body hl (by decide +kernel) (Nat.le_of_ble_eq_true rfl) (fun X O => ?_)
  refine z_aload_n O dX4_forgetEvening_0 rfl ?_
  refine z_iconst O dX4_forgetEvening_1 (v := 0) (by decide) ?_
  refine z_put O (fk := 3) (fun x h => zI x (zu_RX4 x h)) tyX4 tyX4_ok nmX4 rfl (by decide) (zI _ zm0_51) rfl dX4_forgetEvening_2 rfl rfl (zg_seat hk) (Nat.le_of_ble_eq_true rfl) (zp_seat_noise hk) ?_
  refine z_aload_n O dX4_forgetEvening_5 rfl ?_
  refine z_iconst O dX4_forgetEvening_6 (v := 0) (by decide) ?_
  refine z_put O (fk := 5) (fun x h => zI x (zu_RX4 x h)) tyX4 tyX4_ok nmX4 rfl (by decide) (zI _ zm1_7) rfl dX4_forgetEvening_7 rfl rfl (zg_seat hk) (Nat.le_of_ble_eq_true rfl) (zp_seat_joined hk) ?_
  refine z_aload_n O dX4_forgetEvening_10 rfl ?_
  refine z_iconst O dX4_forgetEvening_11 (v := 0) (by decide) ?_
  refine z_put O (fk := 6) (fun x h => zI x (zu_RX4 x h)) tyX4 tyX4_ok nmX4 rfl (by decide) (zI _ zm1_4) rfl dX4_forgetEvening_12 rfl rfl (zg_seat hk) (Nat.le_of_ble_eq_true rfl) (zp_seat_joins hk) ?_
  refine z_aload_n O dX4_forgetEvening_15 rfl ?_
  refine z_iconst O dX4_forgetEvening_16 (v := 0) (by decide) ?_
  refine z_put O (fk := 7) (fun x h => zI x (zu_RX4 x h)) tyX4 tyX4_ok nmX4 rfl (by decide) (zI _ zm0_53) rfl dX4_forgetEvening_17 rfl rfl (zg_seat hk) (Nat.le_of_ble_eq_true rfl) (zp_seat_hissed hk) ?_
  exact z_vret O dX4_forgetEvening_20 (Nat.le_of_ble_eq_true rfl) (Nat.le_of_ble_eq_true rfl) ⟨rfl, rfl, rfl⟩
