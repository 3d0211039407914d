section ZMA
variable {Z : zM} {sb : Nat → Option Nat} {mcn : Nat → Int32} {cp : Nat → Nat} {e0 : Nat} {Y : zM} {th : Int32} {o : Nat → Int64} {od : Nat → UInt64} {ad : Nat → Nat}
theorem zg_mI {i n : Nat} (h1 : mty i = 0) (h2 : mln i = n) (hi : i < 23) : zent Z sb mcn cp e0 Y th o od ad (301 + i) = some (.inl (0, (n, .inl (Y i)))) := by rw [zg_marr hi, h1, h2]
theorem zg_mC {i n : Nat} (h1 : mty i = 1) (h2 : mln i = n) (hi : i < 23) : zent Z sb mcn cp e0 Y th o od ad (301 + i) = some (.inl (1, (n, .inl (Y i)))) := by rw [zg_marr hi, h1, h2]
theorem zg_mZ {i n : Nat} (h1 : mty i = 2) (h2 : mln i = n) (hi : i < 23) : zent Z sb mcn cp e0 Y th o od ad (301 + i) = some (.inl (2, (n, .inl (Y i)))) := by rw [zg_marr hi, h1, h2]
theorem zp_mI {i n k : Nat} {v : Int32} (h1 : mty i = 0) (h2 : mln i = n) (hi : i < 23) : ∀ j, zent Z sb mcn cp e0 (zu Y i k v) th o od ad j = if j = 301 + i then some (.inl (0, (n, .inl (upd (Y i) k v)))) else zent Z sb mcn cp e0 Y th o od ad j := fun j => by rw [zp_marr hi, h1, h2]
theorem zp_mC {i n k : Nat} {v : Int32} (h1 : mty i = 1) (h2 : mln i = n) (hi : i < 23) : ∀ j, zent Z sb mcn cp e0 (zu Y i k v) th o od ad j = if j = 301 + i then some (.inl (1, (n, .inl (upd (Y i) k v)))) else zent Z sb mcn cp e0 Y th o od ad j := fun j => by rw [zp_marr hi, h1, h2]
theorem zp_mZ {i n k : Nat} {v : Int32} (h1 : mty i = 2) (h2 : mln i = n) (hi : i < 23) : ∀ j, zent Z sb mcn cp e0 (zu Y i k v) th o od ad j = if j = 301 + i then some (.inl (2, (n, .inl (upd (Y i) k v)))) else zent Z sb mcn cp e0 Y th o od ad j := fun j => by rw [zp_marr hi, h1, h2]
end ZMA
theorem fMin_le {x y : Int32} (h : y ≤ x) : fMin x y = y := by
  unfold fMin
  by_cases q : y < x
  · rw [if_pos q]
  · rw [if_neg q]; exact Int32.le_antisymm (Int32.not_lt.mp q) h
theorem fMin_gt {x y : Int32} (h : ¬ y ≤ x) : fMin x y = x := by
  unfold fMin
  rw [if_neg (fun q => h (Int32.le_of_lt q))]
theorem fMax_le {x y : Int32} (h : x ≤ y) : fMax x y = y := by
  unfold fMax
  by_cases q : x < y
  · rw [if_pos q]
  · rw [if_neg q]; exact Int32.le_antisymm h (Int32.not_lt.mp q)
theorem fMax_gt {x y : Int32} (h : ¬ x ≤ y) : fMax x y = x := by
  unfold fMax
  rw [if_neg (fun q => h (Int32.le_of_lt q))]
def zCnt (Y : zM) (i : Nat) : Prop := Y (25 + i) 0 = nI (zN Y i) ∧ zN Y i ≤ 12
theorem zLst.cnt {Y : zM} {cp : Nat → Nat} {i : Nat} (h : zLst Y cp i) : zCnt Y i := ⟨h.1, h.2.2.2⟩
theorem nI_m1 : ∀ n, n < 101 → nI n - 1 < nI n ∧ (∀ k, k < 101 → (nI k ≤ nI n - 1 ↔ k < n)) := by decide +kernel
theorem fR_lt {x : Int32} {n : Nat} (hn : n < 101) : fR x 0 (nI n - 1) ↔ fI x (nI n) := by
  constructor
  · intro h
    exact ⟨h.1, Int32.lt_of_le_of_lt h.2 (nI_m1 n hn).1⟩
  · intro h
    obtain ⟨a, ha, rfl⟩ := nI_of (x := x) (fun z => absurd h.1 (Int32.not_le.mpr z))
    have h2 := (nI_ltI ha (by omega)).mp h.2
    exact ⟨h.1, ((nI_m1 n hn).2 a (by omega)).mpr h2⟩
def mRest (Y : zM) (k : Nat) : zM := zu (zu (zu (zu Y 3 k 0) 4 k 0) 6 k 0) 7 k 0
def mEmp (Y : zM) (k : Nat) : zM := mRest (zu (zu (zu Y 0 k 46) 1 k 0) 2 k (-1)) k
def mBeg (Y : zM) : zM := fIter fC0 (fIter mRest (zu (zu (zu (zu (zu (zu Y 29 0 0) 30 0 0) 31 0 0) 32 0 0) 33 0 0) 27 0 0) 80) (zN Y 1)
theorem mRest_n {Y : zM} {f : Nat} (hf : f ≠ 3 ∧ f ≠ 6 ∧ f ≠ 4 ∧ f ≠ 7) : ∀ i k, fIter mRest Y i f k = Y f k
  | 0, _ => rfl
  | i + 1, k => by
    show mRest _ i f k = _
    unfold mRest
    rw [zu_f hf.2.2.2, zu_f hf.2.1, zu_f hf.2.2.1, zu_f hf.1]
    exact mRest_n hf i k
theorem mEmp_n {Y : zM} {f : Nat} (hf : 8 < f) : ∀ i k, fIter mEmp Y i f k = Y f k
  | 0, _ => rfl
  | i + 1, k => by
    show mEmp _ i f k = _
    unfold mEmp mRest
    rw [zu_f (by omega), zu_f (by omega), zu_f (by omega), zu_f (by omega), zu_f (by omega), zu_f (by omega), zu_f (by omega)]
    exact mEmp_n hf i k
set_option maxRecDepth 100000 in
set_option maxHeartbeats 4000000 in
theorem c_X8_in {G : zG} {l : Launch} (hl : l.stackTraces = false) {Z : zM} {sb : Nat → Option Nat} {mcn : Nat → Int32} {cp : Nat → Nat} {Y : zM} {th : Int32} {o : Nat → Int64} {od : Nat → UInt64} {ad : Nat → Nat} {x a b : Int32} : zCt G l yX8_in (zws yX8_in cX8_in 3 (some .boolean)) ({ frames := 0, cells := 0, slots := 0, locals := 0 }) [.int x, .int a, .int b] (zent Z sb mcn cp G.2.2.2.1 Y th o od ad) ad (fun r w1 ad1 => (some (.int 1) = r ∧ fR x a b ∧ zent Z sb mcn cp G.2.2.2.1 Y th o od ad = w1 ∧ ad = ad1) ∨ (some (.int 0) = r ∧ ¬ fR x a b ∧ zent Z sb mcn cp G.2.2.2.1 Y th o od ad = w1 ∧ ad = ad1)) (zNoX) := by
  refine z_body hl (by decide +kernel) (Nat.le_of_ble_eq_true rfl) (fun X O => ?_)
  refine z_iload_n O dX8_in_0 rfl ?_
  refine z_iload_n O dX8_in_1 rfl ?_
  refine z_icmp_lt O dX8_in_2 (tgt := 14) (by decide) (fun h => ?_) (fun h => ?_)
  · refine z_iconst O dX8_in_14 (v := 0) (by decide) ?_
    exact z_zret O rfl rfl dX8_in_15 (Nat.le_of_ble_eq_true rfl) (Nat.le_of_ble_eq_true rfl) (Or.inr ⟨rfl, fun q => absurd q.1 (Int32.not_le.mpr h), rfl, rfl⟩)
  · refine z_iload_n O dX8_in_5 rfl ?_
    refine z_iload_n O dX8_in_6 rfl ?_
    refine z_icmp_gt O dX8_in_7 (tgt := 14) (by decide) (fun g => ?_) (fun g => ?_)
    · refine z_iconst O dX8_in_14 (v := 0) (by decide) ?_
      exact z_zret O rfl rfl dX8_in_15 (Nat.le_of_ble_eq_true rfl) (Nat.le_of_ble_eq_true rfl) (Or.inr ⟨rfl, fun q => absurd q.2 (Int32.not_le.mpr g), rfl, rfl⟩)
    · refine z_iconst O dX8_in_10 (v := 1) (by decide) ?_
      refine z_goto O dX8_in_11 (tgt := 15) (by decide) ?_
      exact z_zret O rfl rfl dX8_in_15 (Nat.le_of_ble_eq_true rfl) (Nat.le_of_ble_eq_true rfl) (Or.inl ⟨rfl, ⟨Int32.not_lt.mp h, Int32.not_lt.mp g⟩, rfl, rfl⟩)

set_option maxRecDepth 100000 in
set_option maxHeartbeats 4000000 in
theorem c_X8_least {G : zG} {l : Launch} (hl : l.stackTraces = false) {Z : zM} {sb : Nat → Option Nat} {mcn : Nat → Int32} {cp : Nat → Nat} {Y : zM} {th : Int32} {o : Nat → Int64} {od : Nat → UInt64} {ad : Nat → Nat} {x y : Int32} : zCt G l yX8_least (zws yX8_least cX8_least 2 (some .int)) ({ frames := 0, cells := 0, slots := 0, locals := 0 }) [.int x, .int y] (zent Z sb mcn cp G.2.2.2.1 Y th o od ad) ad (fun r w1 ad1 => some (.int (fMin x y)) = r ∧ zent Z sb mcn cp G.2.2.2.1 Y th o od ad = w1 ∧ ad = ad1) (zNoX) := by
  refine z_body hl (by decide +kernel) (Nat.le_of_ble_eq_true rfl) (fun X O => ?_)
  refine z_iload_n O dX8_least_0 rfl ?_
  refine z_iload_n O dX8_least_1 rfl ?_
  refine z_icmp_ge O dX8_least_2 (tgt := 9) (by decide) (fun h => ?_) (fun h => ?_)
  · refine z_iload_n O dX8_least_9 rfl ?_
    exact z_iret O dX8_least_10 (Nat.le_of_ble_eq_true rfl) (Nat.le_of_ble_eq_true rfl) (⟨by rw [fMin_le h], rfl, rfl⟩)
  · refine z_iload_n O dX8_least_5 rfl ?_
    refine z_goto O dX8_least_6 (tgt := 10) (by decide) ?_
    exact z_iret O dX8_least_10 (Nat.le_of_ble_eq_true rfl) (Nat.le_of_ble_eq_true rfl) (⟨by rw [fMin_gt h], rfl, rfl⟩)

set_option maxRecDepth 100000 in
set_option maxHeartbeats 4000000 in
theorem c_X8_most {G : zG} {l : Launch} (hl : l.stackTraces = false) {Z : zM} {sb : Nat → Option Nat} {mcn : Nat → Int32} {cp : Nat → Nat} {Y : zM} {th : Int32} {o : Nat → Int64} {od : Nat → UInt64} {ad : Nat → Nat} {x y : Int32} : zCt G l yX8_most (zws yX8_most cX8_most 2 (some .int)) ({ frames := 0, cells := 0, slots := 0, locals := 0 }) [.int x, .int y] (zent Z sb mcn cp G.2.2.2.1 Y th o od ad) ad (fun r w1 ad1 => some (.int (fMax x y)) = r ∧ zent Z sb mcn cp G.2.2.2.1 Y th o od ad = w1 ∧ ad = ad1) (zNoX) := by
  refine z_body hl (by decide +kernel) (Nat.le_of_ble_eq_true rfl) (fun X O => ?_)
  refine z_iload_n O dX8_most_0 rfl ?_
  refine z_iload_n O dX8_most_1 rfl ?_
  refine z_icmp_le O dX8_most_2 (tgt := 9) (by decide) (fun h => ?_) (fun h => ?_)
  · refine z_iload_n O dX8_most_9 rfl ?_
    exact z_iret O dX8_most_10 (Nat.le_of_ble_eq_true rfl) (Nat.le_of_ble_eq_true rfl) (⟨by rw [fMax_le h], rfl, rfl⟩)
  · refine z_iload_n O dX8_most_5 rfl ?_
    refine z_goto O dX8_most_6 (tgt := 10) (by decide) ?_
    exact z_iret O dX8_most_10 (Nat.le_of_ble_eq_true rfl) (Nat.le_of_ble_eq_true rfl) (⟨by rw [fMax_gt h], rfl, rfl⟩)

set_option maxRecDepth 100000 in
set_option maxHeartbeats 4000000 in
theorem c_X8_fails {G : zG} {l : Launch} (hl : l.stackTraces = false) {Z : zM} {sb : Nat → Option Nat} {mcn : Nat → Int32} {cp : Nat → Nat} {Y : zM} {th : Int32} {o : Nat → Int64} {od : Nat → UInt64} {ad : Nat → Nat} {x : Int32} : zCt G l yX8_fails (zws yX8_fails cX8_fails 2 (some .int)) ({ frames := 0, cells := 0, slots := 0, locals := 0 }) [.ref (ad 300), .int x] (zent Z sb mcn cp G.2.2.2.1 Y th o od ad) ad (fun r w1 ad1 => some (.int (0)) = r ∧ zent Z sb mcn cp G.2.2.2.1 Y x o od ad = w1 ∧ ad = ad1) (zNoX) := by
  refine z_body hl (by decide +kernel) (Nat.le_of_ble_eq_true rfl) (fun X O => ?_)
  refine z_aload_n O dX8_fails_0 rfl ?_
  refine z_iload_n O dX8_fails_1 rfl ?_
  refine z_put O (fk := 36) (fun x h => zI x (zu_RX8 x h)) tyX8 tyX8_ok nmX8 rfl (by decide) (zI _ zm7_50) rfl dX8_fails_2 rfl rfl (zg_model) (Nat.le_of_ble_eq_true rfl) (zp_thrown) ?_
  refine z_iconst O dX8_fails_5 (v := 0) (by decide) ?_
  exact z_iret O dX8_fails_6 (Nat.le_of_ble_eq_true rfl) (Nat.le_of_ble_eq_true rfl) (⟨rfl, rfl, rfl⟩)

set_option maxRecDepth 100000 in
set_option maxHeartbeats 4000000 in
theorem c_X8_failsAs {G : zG} {l : Launch} (hl : l.stackTraces = false) {Z : zM} {sb : Nat → Option Nat} {mcn : Nat → Int32} {cp : Nat → Nat} {Y : zM} {th : Int32} {o : Nat → Int64} {od : Nat → UInt64} {ad : Nat → Nat} {x : Int32} : zCt G l yX8_failsAs (zws yX8_failsAs cX8_failsAs 2 (some .char)) ({ frames := 0, cells := 0, slots := 0, locals := 0 }) [.ref (ad 300), .int x] (zent Z sb mcn cp G.2.2.2.1 Y th o od ad) ad (fun r w1 ad1 => some (.int (32)) = r ∧ zent Z sb mcn cp G.2.2.2.1 Y x o od ad = w1 ∧ ad = ad1) (zNoX) := by
  refine z_body hl (by decide +kernel) (Nat.le_of_ble_eq_true rfl) (fun X O => ?_)
  refine z_aload_n O dX8_failsAs_0 rfl ?_
  refine z_iload_n O dX8_failsAs_1 rfl ?_
  refine z_put O (fk := 36) (fun x h => zI x (zu_RX8 x h)) tyX8 tyX8_ok nmX8 rfl (by decide) (zI _ zm7_50) rfl dX8_failsAs_2 rfl rfl (zg_model) (Nat.le_of_ble_eq_true rfl) (zp_thrown) ?_
  refine z_bipush O dX8_failsAs_5 (v := 32) (by decide) ?_
  exact z_zret O rfl rfl dX8_failsAs_7 (Nat.le_of_ble_eq_true rfl) (Nat.le_of_ble_eq_true rfl) (⟨rfl, rfl, rfl⟩)

set_option maxRecDepth 100000 in
set_option maxHeartbeats 4000000 in
theorem c_X8_tells {G : zG} {l : Launch} (hl : l.stackTraces = false) {Z : zM} {sb : Nat → Option Nat} {mcn : Nat → Int32} {cp : Nat → Nat} {Y : zM} {th : Int32} {o : Nat → Int64} {od : Nat → UInt64} {ad : Nat → Nat} {x : Int32} : zCt G l yX8_tells (zws yX8_tells cX8_tells 2 (some .int)) ({ frames := 0, cells := 0, slots := 0, locals := 0 }) [.ref (ad 300), .int x] (zent Z sb mcn cp G.2.2.2.1 Y th o od ad) ad (fun r w1 ad1 => some (.int (x)) = r ∧ zent Z sb mcn cp G.2.2.2.1 Y 0 o od ad = w1 ∧ ad = ad1) (zNoX) := by
  refine z_body hl (by decide +kernel) (Nat.le_of_ble_eq_true rfl) (fun X O => ?_)
  refine z_aload_n O dX8_tells_0 rfl ?_
  refine z_iconst O dX8_tells_1 (v := 0) (by decide) ?_
  refine z_put O (fk := 36) (fun x h => zI x (zu_RX8 x h)) tyX8 tyX8_ok nmX8 rfl (by decide) (zI _ zm7_50) rfl dX8_tells_2 rfl rfl (zg_model) (Nat.le_of_ble_eq_true rfl) (zp_thrown) ?_
  refine z_iload_n O dX8_tells_5 rfl ?_
  exact z_iret O dX8_tells_6 (Nat.le_of_ble_eq_true rfl) (Nat.le_of_ble_eq_true rfl) (⟨rfl, rfl, rfl⟩)

set_option maxRecDepth 100000 in
set_option maxHeartbeats 4000000 in
theorem c_X8_tellsAs {G : zG} {l : Launch} (hl : l.stackTraces = false) {Z : zM} {sb : Nat → Option Nat} {mcn : Nat → Int32} {cp : Nat → Nat} {Y : zM} {th : Int32} {o : Nat → Int64} {od : Nat → UInt64} {ad : Nat → Nat} {x : Int32} (hx : zChr x) : zCt G l yX8_tellsAs (zws yX8_tellsAs cX8_tellsAs 2 (some .char)) ({ frames := 0, cells := 0, slots := 0, locals := 0 }) [.ref (ad 300), .int x] (zent Z sb mcn cp G.2.2.2.1 Y th o od ad) ad (fun r w1 ad1 => some (.int (x)) = r ∧ zent Z sb mcn cp G.2.2.2.1 Y 0 o od ad = w1 ∧ ad = ad1) (zNoX) := by
  refine z_body hl (by decide +kernel) (Nat.le_of_ble_eq_true rfl) (fun X O => ?_)
  refine z_aload_n O dX8_tellsAs_0 rfl ?_
  refine z_iconst O dX8_tellsAs_1 (v := 0) (by decide) ?_
  refine z_put O (fk := 36) (fun x h => zI x (zu_RX8 x h)) tyX8 tyX8_ok nmX8 rfl (by decide) (zI _ zm7_50) rfl dX8_tellsAs_2 rfl rfl (zg_model) (Nat.le_of_ble_eq_true rfl) (zp_thrown) ?_
  refine z_iload_n O dX8_tellsAs_5 rfl ?_
  exact z_zret O rfl hx.1 dX8_tellsAs_6 (Nat.le_of_ble_eq_true rfl) (Nat.le_of_ble_eq_true rfl) (⟨rfl, rfl, rfl⟩)

set_option maxRecDepth 100000 in
set_option maxHeartbeats 4000000 in
theorem c_X8_failsIf {G : zG} {l : Launch} (hl : l.stackTraces = false) {Z : zM} {sb : Nat → Option Nat} {mcn : Nat → Int32} {cp : Nat → Nat} {Y : zM} {th : Int32} {o : Nat → Int64} {od : Nat → UInt64} {ad : Nat → Nat} {x : Int32} : zCt G l yX8_failsIf (zws yX8_failsIf cX8_failsIf 2 (some .boolean)) ({ frames := 0, cells := 0, slots := 0, locals := 0 }) [.ref (ad 300), .int x] (zent Z sb mcn cp G.2.2.2.1 Y th o od ad) ad (fun r w1 ad1 => (some (.int 1) = r ∧ 0 < x ∧ zent Z sb mcn cp G.2.2.2.1 Y x o od ad = w1 ∧ ad = ad1) ∨ (some (.int 0) = r ∧ ¬ 0 < x ∧ zent Z sb mcn cp G.2.2.2.1 Y x o od ad = w1 ∧ ad = ad1)) (zNoX) := by
  refine z_body hl (by decide +kernel) (Nat.le_of_ble_eq_true rfl) (fun X O => ?_)
  refine z_aload_n O dX8_failsIf_0 rfl ?_
  refine z_iload_n O dX8_failsIf_1 rfl ?_
  refine z_put O (fk := 36) (fun x h => zI x (zu_RX8 x h)) tyX8 tyX8_ok nmX8 rfl (by decide) (zI _ zm7_50) rfl dX8_failsIf_2 rfl rfl (zg_model) (Nat.le_of_ble_eq_true rfl) (zp_thrown) ?_
  refine z_iload_n O dX8_failsIf_5 rfl ?_
  refine z_if_le O dX8_failsIf_6 (tgt := 13) (by decide) (fun h => ?_) (fun h => ?_)
  · refine z_iconst O dX8_failsIf_13 (v := 0) (by decide) ?_
    exact z_zret O rfl rfl dX8_failsIf_14 (Nat.le_of_ble_eq_true rfl) (Nat.le_of_ble_eq_true rfl) (Or.inr ⟨rfl, fun q => absurd h (Int32.not_le.mpr q), rfl, rfl⟩)
  · refine z_iconst O dX8_failsIf_9 (v := 1) (by decide) ?_
    refine z_goto O dX8_failsIf_10 (tgt := 14) (by decide) ?_
    exact z_zret O rfl rfl dX8_failsIf_14 (Nat.le_of_ble_eq_true rfl) (Nat.le_of_ble_eq_true rfl) (Or.inl ⟨rfl, Int32.not_le.mp h, rfl, rfl⟩)

set_option maxRecDepth 100000 in
set_option maxHeartbeats 4000000 in
theorem c_X8_thrown {G : zG} {l : Launch} (hl : l.stackTraces = false) {Z : zM} {sb : Nat → Option Nat} {mcn : Nat → Int32} {cp : Nat → Nat} {Y : zM} {th : Int32} {o : Nat → Int64} {od : Nat → UInt64} {ad : Nat → Nat} : zCt G l yX8_thrown (zws yX8_thrown cX8_thrown 1 (some .int)) ({ frames := 0, cells := 0, slots := 0, locals := 0 }) [.ref (ad 300)] (zent Z sb mcn cp G.2.2.2.1 Y th o od ad) ad (fun r w1 ad1 => some (.int th) = r ∧ zent Z sb mcn cp G.2.2.2.1 Y th o od ad = w1 ∧ ad = ad1) (zNoX) := by
  refine z_body hl (by decide +kernel) (Nat.le_of_ble_eq_true rfl) (fun X O => ?_)
  refine z_aload_n O dX8_thrown_0 rfl ?_
  refine z_get O (fk := 36) (fun x h => zI x (zu_RX8 x h)) rfl (by decide) (zI _ zm7_50) dX8_thrown_1 (zg_model) rfl ?_
  exact z_iret O dX8_thrown_4 (Nat.le_of_ble_eq_true rfl) (Nat.le_of_ble_eq_true rfl) (⟨rfl, rfl, rfl⟩)

set_option maxRecDepth 100000 in
set_option maxHeartbeats 4000000 in
theorem c_X8_isHand {G : zG} {l : Launch} (hl : l.stackTraces = false) {Z : zM} {sb : Nat → Option Nat} {mcn : Nat → Int32} {cp : Nat → Nat} {Y : zM} {th : Int32} {o : Nat → Int64} {od : Nat → UInt64} {ad : Nat → Nat} (hc : zCnt Y 0) {x : Int32} : zCt G l yX8_isHand (zws yX8_isHand cX8_isHand 2 (some .boolean)) ({ frames := 1, cells := 0, slots := 0, locals := 22 }) [.ref (ad 300), .int x] (zent Z sb mcn cp G.2.2.2.1 Y th o od ad) ad (fun r w1 ad1 => (some (.int 1) = r ∧ fI x (Y 25 0) ∧ zent Z sb mcn cp G.2.2.2.1 Y th o od ad = w1 ∧ ad = ad1) ∨ (some (.int 0) = r ∧ ¬ fI x (Y 25 0) ∧ zent Z sb mcn cp G.2.2.2.1 Y th o od ad = w1 ∧ ad = ad1)) (zNoX) := by
  refine z_body hl (by decide +kernel) (Nat.le_of_ble_eq_true rfl) (fun X O => ?_)
  refine z_iload_n O dX8_isHand_0 rfl ?_
  refine z_iconst O dX8_isHand_1 (v := 0) (by decide) ?_
  refine z_aload_n O dX8_isHand_2 rfl ?_
  refine z_get O (fk := 25) (fun x h => zI x (zu_RX8 x h)) rfl (by decide) (zI _ zm7_39) dX8_isHand_3 (zg_model) rfl ?_
  refine z_iconst O dX8_isHand_6 (v := 1) (by decide) ?_
  refine z_isub O dX8_isHand_7 ?_
  rw [show Y 25 0 = Y (25 + 0) 0 from rfl, hc.1]
  refine z_callS O (c_X8_in hl) zI zm7_65 zm7_66 zm7_16 zm7_56 ⟨by decide +kernel, by decide +kernel, (show _ = some 3 by decide +kernel)⟩ ⟨Nat.le_of_ble_eq_true rfl, Nat.le_of_ble_eq_true rfl⟩ ⟨Nat.le_of_ble_eq_true rfl, Nat.le_of_ble_eq_true rfl⟩ dX8_isHand_8 rfl (Nat.le_of_ble_eq_true rfl) (fun _ _ _ h => h.elim) (fun r w1 ad1 hp => ?_)
  rcases hp with ⟨rfl, hb, rfl, rfl⟩ | ⟨rfl, hb, rfl, rfl⟩
  · exact z_zret O rfl rfl dX8_isHand_11 (Nat.le_of_ble_eq_true rfl) (Nat.le_of_ble_eq_true rfl) (Or.inl ⟨rfl, (by have h9 := (fR_lt (by have := hc.2; omega)).mp hb; rw [← hc.1] at h9; exact h9), rfl, rfl⟩)
  · exact z_zret O rfl rfl dX8_isHand_11 (Nat.le_of_ble_eq_true rfl) (Nat.le_of_ble_eq_true rfl) (Or.inr ⟨rfl, (fun q => hb ((fR_lt (by have := hc.2; omega)).mpr (by rw [← hc.1]; exact q))), rfl, rfl⟩)

set_option maxRecDepth 100000 in
set_option maxHeartbeats 4000000 in
theorem c_X8_isSinger {G : zG} {l : Launch} (hl : l.stackTraces = false) {Z : zM} {sb : Nat → Option Nat} {mcn : Nat → Int32} {cp : Nat → Nat} {Y : zM} {th : Int32} {o : Nat → Int64} {od : Nat → UInt64} {ad : Nat → Nat} (hc : zCnt Y 1) {x : Int32} : zCt G l yX8_isSinger (zws yX8_isSinger cX8_isSinger 2 (some .boolean)) ({ frames := 1, cells := 0, slots := 0, locals := 22 }) [.ref (ad 300), .int x] (zent Z sb mcn cp G.2.2.2.1 Y th o od ad) ad (fun r w1 ad1 => (some (.int 1) = r ∧ fI x (Y 26 0) ∧ zent Z sb mcn cp G.2.2.2.1 Y th o od ad = w1 ∧ ad = ad1) ∨ (some (.int 0) = r ∧ ¬ fI x (Y 26 0) ∧ zent Z sb mcn cp G.2.2.2.1 Y th o od ad = w1 ∧ ad = ad1)) (zNoX) := by
  refine z_body hl (by decide +kernel) (Nat.le_of_ble_eq_true rfl) (fun X O => ?_)
  refine z_iload_n O dX8_isSinger_0 rfl ?_
  refine z_iconst O dX8_isSinger_1 (v := 0) (by decide) ?_
  refine z_aload_n O dX8_isSinger_2 rfl ?_
  refine z_get O (fk := 26) (fun x h => zI x (zu_RX8 x h)) rfl (by decide) (zI _ zm7_40) dX8_isSinger_3 (zg_model) rfl ?_
  refine z_iconst O dX8_isSinger_6 (v := 1) (by decide) ?_
  refine z_isub O dX8_isSinger_7 ?_
  rw [show Y 26 0 = Y (25 + 1) 0 from rfl, hc.1]
  refine z_callS O (c_X8_in hl) zI zm7_65 zm7_66 zm7_16 zm7_56 ⟨by decide +kernel, by decide +kernel, (show _ = some 3 by decide +kernel)⟩ ⟨Nat.le_of_ble_eq_true rfl, Nat.le_of_ble_eq_true rfl⟩ ⟨Nat.le_of_ble_eq_true rfl, Nat.le_of_ble_eq_true rfl⟩ dX8_isSinger_8 rfl (Nat.le_of_ble_eq_true rfl) (fun _ _ _ h => h.elim) (fun r w1 ad1 hp => ?_)
  rcases hp with ⟨rfl, hb, rfl, rfl⟩ | ⟨rfl, hb, rfl, rfl⟩
  · exact z_zret O rfl rfl dX8_isSinger_11 (Nat.le_of_ble_eq_true rfl) (Nat.le_of_ble_eq_true rfl) (Or.inl ⟨rfl, (by have h9 := (fR_lt (by have := hc.2; omega)).mp hb; rw [← hc.1] at h9; exact h9), rfl, rfl⟩)
  · exact z_zret O rfl rfl dX8_isSinger_11 (Nat.le_of_ble_eq_true rfl) (Nat.le_of_ble_eq_true rfl) (Or.inr ⟨rfl, (fun q => hb ((fR_lt (by have := hc.2; omega)).mpr (by rw [← hc.1]; exact q))), rfl, rfl⟩)

theorem fPl_iff {Y : zM} {x y : Int32} : (fI x (Y 23 0) ∧ fI y (Y 24 0)) ↔ fPl Y x y = some (fAt x y) := by
  unfold fPl fAt
  constructor
  · intro h; rw [if_pos ⟨h.1.1, h.1.2, h.2.1, h.2.2⟩]
  · intro h
    by_cases q : 0 ≤ x ∧ x < Y 23 0 ∧ 0 ≤ y ∧ y < Y 24 0
    · exact ⟨⟨q.1, q.2.1⟩, q.2.2.1, q.2.2.2⟩
    · rw [if_neg q] at h; cases h
theorem fPl_none {Y : zM} {x y : Int32} (h : ¬ (fI x (Y 23 0) ∧ fI y (Y 24 0))) : fPl Y x y = none := by
  unfold fPl
  rw [if_neg (fun q => h ⟨⟨q.1, q.2.1⟩, q.2.2.1, q.2.2.2⟩)]
/-- the place's number, as the model counts it -/
theorem fAt_in {Y : zM} (hh : zHouse Y) {x y : Int32} (h : fPl Y x y = some (fAt x y)) : 10 * x + y = nI (fAt x y) ∧ fAt x y < 80 := by
  refine ⟨?_, fPl_lt hh h⟩
  have hl := fPl_lt hh h
  obtain ⟨h1, h2⟩ := fPl_iff.mpr h
  obtain ⟨a, ha, rfl⟩ := nI_of (x := x) (fun z => absurd h1.1 (Int32.not_le.mpr z))
  obtain ⟨b, hb, rfl⟩ := nI_of (x := y) (fun z => absurd h2.1 (Int32.not_le.mpr z))
  unfold fAt at hl ⊢
  rw [nI_clamp ha, nI_clamp hb] at hl ⊢
  have hd : ∀ a, a < 8 → ∀ b, b < 80 → 10 * nI a + nI b = nI (a * 10 + b) := by decide +kernel
  exact hd a (by omega) b (by omega)
set_option maxRecDepth 100000 in
set_option maxHeartbeats 4000000 in
theorem c_X8_isSeat {G : zG} {l : Launch} (hl : l.stackTraces = false) {Z : zM} {sb : Nat → Option Nat} {mcn : Nat → Int32} {cp : Nat → Nat} {Y : zM} {th : Int32} {o : Nat → Int64} {od : Nat → UInt64} {ad : Nat → Nat} (hh : zHouse Y) {x y : Int32} : zCt G l yX8_isSeat (zws yX8_isSeat cX8_isSeat 3 (some .boolean)) ({ frames := 1, cells := 0, slots := 0, locals := 22 }) [.ref (ad 300), .int x, .int y] (zent Z sb mcn cp G.2.2.2.1 Y th o od ad) ad (fun r w1 ad1 => (some (.int 1) = r ∧ fPl Y x y = some (fAt x y) ∧ zent Z sb mcn cp G.2.2.2.1 Y th o od ad = w1 ∧ ad = ad1) ∨ (some (.int 0) = r ∧ fPl Y x y = none ∧ zent Z sb mcn cp G.2.2.2.1 Y th o od ad = w1 ∧ ad = ad1)) (zNoX) := by
  refine z_body hl (by decide +kernel) (Nat.le_of_ble_eq_true rfl) (fun X O => ?_)
  obtain ⟨nr, nc, e1, e2, l1, l2⟩ := hh
  refine z_iload_n O dX8_isSeat_0 rfl ?_
  refine z_iconst O dX8_isSeat_1 (v := 0) (by decide) ?_
  refine z_aload_n O dX8_isSeat_2 rfl ?_
  refine z_get O (fk := 23) (fun x h => zI x (zu_RX8 x h)) rfl (by decide) (zI _ zm7_37) dX8_isSeat_3 (zg_model) rfl ?_
  refine z_iconst O dX8_isSeat_6 (v := 1) (by decide) ?_
  refine z_isub O dX8_isSeat_7 ?_
  rw [e1]
  refine z_callS O (c_X8_in hl) zI zm7_65 zm7_66 zm7_16 zm7_56 ⟨by decide +kernel, by decide +kernel, (show _ = some 3 by decide +kernel)⟩ ⟨Nat.le_of_ble_eq_true rfl, Nat.le_of_ble_eq_true rfl⟩ ⟨Nat.le_of_ble_eq_true rfl, Nat.le_of_ble_eq_true rfl⟩ dX8_isSeat_8 rfl (Nat.le_of_ble_eq_true rfl) (fun _ _ _ h => h.elim) (fun r w1 ad1 hp => ?_)
  rcases hp with ⟨rfl, hb, rfl, rfl⟩ | ⟨rfl, hb, rfl, rfl⟩
  · refine z_if_eq O dX8_isSeat_11 (tgt := 32) (by decide) (fun q => absurd q (by decide)) (fun _ => ?_)
    refine z_iload_n O dX8_isSeat_14 rfl ?_
    refine z_iconst O dX8_isSeat_15 (v := 0) (by decide) ?_
    refine z_aload_n O dX8_isSeat_16 rfl ?_
    refine z_get O (fk := 24) (fun x h => zI x (zu_RX8 x h)) rfl (by decide) (zI _ zm7_38) dX8_isSeat_17 (zg_model) rfl ?_
    refine z_iconst O dX8_isSeat_20 (v := 1) (by decide) ?_
    refine z_isub O dX8_isSeat_21 ?_
    rw [e2]
    refine z_callS O (c_X8_in hl) zI zm7_65 zm7_66 zm7_16 zm7_56 ⟨by decide +kernel, by decide +kernel, (show _ = some 3 by decide +kernel)⟩ ⟨Nat.le_of_ble_eq_true rfl, Nat.le_of_ble_eq_true rfl⟩ ⟨Nat.le_of_ble_eq_true rfl, Nat.le_of_ble_eq_true rfl⟩ dX8_isSeat_22 rfl (Nat.le_of_ble_eq_true rfl) (fun _ _ _ h => h.elim) (fun r w1 ad1 hp => ?_)
    rcases hp with ⟨rfl, hb2, rfl, rfl⟩ | ⟨rfl, hb2, rfl, rfl⟩
    · refine z_if_eq O dX8_isSeat_25 (tgt := 32) (by decide) (fun q => absurd q (by decide)) (fun _ => ?_)
      refine z_iconst O dX8_isSeat_28 (v := 1) (by decide) ?_
      refine z_goto O dX8_isSeat_29 (tgt := 33) (by decide) ?_
      exact z_zret O rfl rfl dX8_isSeat_33 (Nat.le_of_ble_eq_true rfl) (Nat.le_of_ble_eq_true rfl) (Or.inl ⟨rfl, fPl_iff.mp ⟨by rw [e1]; exact (fR_lt (by omega)).mp hb, by rw [e2]; exact (fR_lt (by omega)).mp hb2⟩, rfl, rfl⟩)
    · refine z_if_eq O dX8_isSeat_25 (tgt := 32) (by decide) (fun _ => ?_) (fun q => absurd rfl q)
      refine z_iconst O dX8_isSeat_32 (v := 0) (by decide) ?_
      exact z_zret O rfl rfl dX8_isSeat_33 (Nat.le_of_ble_eq_true rfl) (Nat.le_of_ble_eq_true rfl) (Or.inr ⟨rfl, fPl_none (fun q => hb2 ((fR_lt (by omega)).mpr (by rw [← e2]; exact q.2))), rfl, rfl⟩)
  · refine z_if_eq O dX8_isSeat_11 (tgt := 32) (by decide) (fun _ => ?_) (fun q => absurd rfl q)
    refine z_iconst O dX8_isSeat_32 (v := 0) (by decide) ?_
    exact z_zret O rfl rfl dX8_isSeat_33 (Nat.le_of_ble_eq_true rfl) (Nat.le_of_ble_eq_true rfl) (Or.inr ⟨rfl, fPl_none (fun q => hb ((fR_lt (by omega)).mpr (by rw [← e1]; exact q.1))), rfl, rfl⟩)

set_option maxRecDepth 100000 in
set_option maxHeartbeats 4000000 in
theorem c_X8_rests {G : zG} {l : Launch} (hl : l.stackTraces = false) {Z : zM} {sb : Nat → Option Nat} {mcn : Nat → Int32} {cp : Nat → Nat} {Y : zM} {th : Int32} {o : Nat → Int64} {od : Nat → UInt64} {ad : Nat → Nat} {k : Nat} (hk : k < 80) : zCt G l yX8_rests (zws yX8_rests cX8_rests 2 none) ({ frames := 0, cells := 0, slots := 0, locals := 0 }) [.ref (ad 300), .int (nI k)] (zent Z sb mcn cp G.2.2.2.1 Y th o od ad) ad (fun r w1 ad1 => none = r ∧ zent Z sb mcn cp G.2.2.2.1 (mRest Y k) th o od ad = w1 ∧ ad = ad1) (zNoX) := by
  refine z_body hl (by decide +kernel) (Nat.le_of_ble_eq_true rfl) (fun X O => ?_)
  refine z_aload_n O dX8_rests_0 rfl ?_
  refine z_get O (fk := 3) (fun x h => zI x (zu_RX8 x h)) rfl (by decide) (zI _ zm7_5) dX8_rests_1 (zg_model) rfl ?_
  refine z_iload_n O dX8_rests_4 rfl ?_
  refine z_iconst O dX8_rests_5 (v := 0) (by decide) ?_
  refine z_iast O dX8_rests_6 (zg_mI (i := 3) (n := 80) rfl rfl (by decide)) (k) (rfl) (hk) (by decide) (zp_mI (i := 3) (n := 80) rfl rfl (by decide)) ?_
  refine z_aload_n O dX8_rests_7 rfl ?_
  refine z_get O (fk := 4) (fun x h => zI x (zu_RX8 x h)) rfl (by decide) (zI _ zm7_6) dX8_rests_8 (zg_model) rfl ?_
  refine z_iload_n O dX8_rests_11 rfl ?_
  refine z_iconst O dX8_rests_12 (v := 0) (by decide) ?_
  refine z_iast O dX8_rests_13 (zg_mI (i := 4) (n := 80) rfl rfl (by decide)) (k) (rfl) (hk) (by decide) (zp_mI (i := 4) (n := 80) rfl rfl (by decide)) ?_
  refine z_aload_n O dX8_rests_14 rfl ?_
  refine z_get O (fk := 6) (fun x h => zI x (zu_RX8 x h)) rfl (by decide) (zI _ zm7_7) dX8_rests_15 (zg_model) rfl ?_
  refine z_iload_n O dX8_rests_18 rfl ?_
  refine z_iconst O dX8_rests_19 (v := 0) (by decide) ?_
  refine z_zast O dX8_rests_20 (zg_mZ (i := 6) (n := 80) rfl rfl (by decide)) (k) (rfl) (hk) (by decide) (rfl) (zp_mZ (i := 6) (n := 80) rfl rfl (by decide)) ?_
  refine z_aload_n O dX8_rests_21 rfl ?_
  refine z_get O (fk := 7) (fun x h => zI x (zu_RX8 x h)) rfl (by decide) (zI _ zm7_8) dX8_rests_22 (zg_model) rfl ?_
  refine z_iload_n O dX8_rests_25 rfl ?_
  refine z_iconst O dX8_rests_26 (v := 0) (by decide) ?_
  refine z_zast O dX8_rests_27 (zg_mZ (i := 7) (n := 80) rfl rfl (by decide)) (k) (rfl) (hk) (by decide) (rfl) (zp_mZ (i := 7) (n := 80) rfl rfl (by decide)) ?_
  exact z_vret O dX8_rests_28 (Nat.le_of_ble_eq_true rfl) (Nat.le_of_ble_eq_true rfl) (⟨rfl, rfl, rfl⟩)

set_option maxRecDepth 100000 in
set_option maxHeartbeats 4000000 in
theorem c_X8_empties {G : zG} {l : Launch} (hl : l.stackTraces = false) {Z : zM} {sb : Nat → Option Nat} {mcn : Nat → Int32} {cp : Nat → Nat} {Y : zM} {th : Int32} {o : Nat → Int64} {od : Nat → UInt64} {ad : Nat → Nat} {k : Nat} (hk : k < 80) : zCt G l yX8_empties (zws yX8_empties cX8_empties 2 none) ({ frames := 1, cells := 0, slots := 0, locals := 21 }) [.ref (ad 300), .int (nI k)] (zent Z sb mcn cp G.2.2.2.1 Y th o od ad) ad (fun r w1 ad1 => none = r ∧ zent Z sb mcn cp G.2.2.2.1 (mEmp Y k) th o od ad = w1 ∧ ad = ad1) (zNoX) := by
  refine z_body hl (by decide +kernel) (Nat.le_of_ble_eq_true rfl) (fun X O => ?_)
  refine z_aload_n O dX8_empties_0 rfl ?_
  refine z_get O (fk := 0) (fun x h => zI x (zu_RX8 x h)) rfl (by decide) (zI _ zm7_10) dX8_empties_1 (zg_model) rfl ?_
  refine z_iload_n O dX8_empties_4 rfl ?_
  refine z_bipush O dX8_empties_5 (v := 46) (by decide) ?_
  refine z_cast O dX8_empties_7 (zg_mC (i := 0) (n := 80) rfl rfl (by decide)) (k) (rfl) (hk) (by decide) (rfl) (zp_mC (i := 0) (n := 80) rfl rfl (by decide)) ?_
  refine z_aload_n O dX8_empties_8 rfl ?_
  refine z_get O (fk := 1) (fun x h => zI x (zu_RX8 x h)) rfl (by decide) (zI _ zm7_11) dX8_empties_9 (zg_model) rfl ?_
  refine z_iload_n O dX8_empties_12 rfl ?_
  refine z_iconst O dX8_empties_13 (v := 0) (by decide) ?_
  refine z_iast O dX8_empties_14 (zg_mI (i := 1) (n := 80) rfl rfl (by decide)) (k) (rfl) (hk) (by decide) (zp_mI (i := 1) (n := 80) rfl rfl (by decide)) ?_
  refine z_aload_n O dX8_empties_15 rfl ?_
  refine z_get O (fk := 2) (fun x h => zI x (zu_RX8 x h)) rfl (by decide) (zI _ zm7_12) dX8_empties_16 (zg_model) rfl ?_
  refine z_iload_n O dX8_empties_19 rfl ?_
  refine z_iconst O dX8_empties_20 (v := (-1)) (by decide) ?_
  refine z_iast O dX8_empties_21 (zg_mI (i := 2) (n := 80) rfl rfl (by decide)) (k) (rfl) (hk) (by decide) (zp_mI (i := 2) (n := 80) rfl rfl (by decide)) ?_
  refine z_aload_n O dX8_empties_22 rfl ?_
  refine z_iload_n O dX8_empties_23 rfl ?_
  refine z_callV O (c_X8_rests hl hk) zI zm7_13 zm7_14 zm7_15 zm7_16 zm7_4 ⟨rfl, by decide +kernel, by decide +kernel, (show _ = some 1 by decide +kernel)⟩ rfl (zg_model) ⟨Nat.le_of_ble_eq_true rfl, Nat.le_of_ble_eq_true rfl⟩ ⟨Nat.le_of_ble_eq_true rfl, Nat.le_of_ble_eq_true rfl⟩ dX8_empties_24 rfl (Nat.le_of_ble_eq_true rfl) (fun _ _ _ h => h.elim) (fun r w1 ad1 hp => ?_)
  obtain ⟨rfl, rfl, rfl⟩ := hp
  exact z_vret O dX8_empties_27 (Nat.le_of_ble_eq_true rfl) (Nat.le_of_ble_eq_true rfl) (⟨rfl, rfl, rfl⟩)

set_option maxRecDepth 100000 in
set_option maxHeartbeats 4000000 in
theorem c_X8_begins {G : zG} {l : Launch} (hl : l.stackTraces = false) {Z : zM} {sb : Nat → Option Nat} {mcn : Nat → Int32} {cp : Nat → Nat} {Y : zM} {th : Int32} {o : Nat → Int64} {od : Nat → UInt64} {ad : Nat → Nat} (hc : zCnt Y 1) (h6 : zN Y 1 ≤ 6) : zCt G l yX8_begins (zws yX8_begins cX8_begins 2 none) ({ frames := 1, cells := 0, slots := 0, locals := 21 }) [.ref (ad 300)] (zent Z sb mcn cp G.2.2.2.1 Y th o od ad) ad (fun r w1 ad1 => none = r ∧ zent Z sb mcn cp G.2.2.2.1 (mBeg Y) th o od ad = w1 ∧ ad = ad1) (zNoX) := by
  refine z_body hl (by decide +kernel) (Nat.le_of_ble_eq_true rfl) (fun X O => ?_)
  have L : ∀ (n : Nat) (i : Nat), i ≤ 80 → 80 < i + n → zV G X 2 0 0 32 [(0, .ref (ad 300)), (1, .int (nI i))] [] (zent Z sb mcn cp G.2.2.2.1 (fIter mRest (zu (zu (zu (zu (zu (zu Y 29 0 0) 30 0 0) 31 0 0) 32 0 0) 33 0 0) 27 0 0) i) th o od ad) ad := by
    intro n
    induction n with
    | zero => intro i h1 h2; omega
    | succ n ih =>
      intro i h1 h2
      refine z_iload_n O dX8_begins_32 rfl ?_
      refine z_bipush O dX8_begins_33 (v := 80) (by decide) ?_
      refine z_icmp_ge O dX8_begins_35 (tgt := 49) (by decide) (fun h => ?_) (fun h => ?_)
      · have hi : i = 80 := by have := z_ge_ge (b := 80) (by omega) (by decide) h; omega
        subst hi
        have L2 : ∀ (n : Nat) (j : Nat), j ≤ zN Y 1 → zN Y 1 < j + n → zV G X 2 0 0 51 [(0, .ref (ad 300)), (1, .int (nI j))] [] (zent Z sb mcn cp G.2.2.2.1 (fIter fC0 (fIter mRest (zu (zu (zu (zu (zu (zu Y 29 0 0) 30 0 0) 31 0 0) 32 0 0) 33 0 0) 27 0 0) 80) j) th o od ad) ad := by
          intro n
          induction n with
          | zero => intro j h3 h4; omega
          | succ n ih =>
            intro j h3 h4
            have e : (fIter fC0 (fIter mRest (zu (zu (zu (zu (zu (zu Y 29 0 0) 30 0 0) 31 0 0) 32 0 0) 33 0 0) 27 0 0) 80) j) 26 0 = nI (zN Y 1) := by rw [fC0_n (by decide), mRest_n (by decide)]; simp only [zu]; exact hc.1
            refine z_iload_n O dX8_begins_51 rfl ?_
            refine z_aload_n O dX8_begins_52 rfl ?_
            refine z_get O (fk := 26) (v := .int (nI (zN Y 1))) (fun x h => zI x (zu_RX8 x h)) rfl (by decide) (zI _ zm7_40) dX8_begins_53 (zg_model) (by show some (Value.int ((fIter fC0 (fIter mRest (zu (zu (zu (zu (zu (zu Y 29 0 0) 30 0 0) 31 0 0) 32 0 0) 33 0 0) 27 0 0) 80) j) 26 0)) = _; rw [e]) ?_
            refine z_icmp_ge O dX8_begins_56 (tgt := 72) (by decide) (fun g => ?_) (fun g => ?_)
            · have hj : j = zN Y 1 := by have := z_ge_ge (by omega) (by omega) g; omega
              subst hj
              exact z_vret O dX8_begins_72 (Nat.le_of_ble_eq_true rfl) (Nat.le_of_ble_eq_true rfl) (⟨rfl, rfl, rfl⟩)
            · have hj : j < zN Y 1 := z_ge_lt (by omega) (by omega) g
              refine z_aload_n O dX8_begins_59 rfl ?_
              refine z_get O (fk := 18) (fun x h => zI x (zu_RX8 x h)) rfl (by decide) (zI _ zm7_32) dX8_begins_60 (zg_model) rfl ?_
              refine z_iload_n O dX8_begins_63 rfl ?_
              refine z_iconst O dX8_begins_64 (v := 0) (by decide) ?_
              refine z_iast O dX8_begins_65 (zg_mI (i := 18) (n := 6) rfl rfl (by decide)) (j) (rfl) (by omega) (by decide) (zp_mI (i := 18) (n := 6) rfl rfl (by decide)) ?_
              refine z_iincN O dX8_begins_66 (a := j) rfl (by decide) ?_
              refine z_goto O dX8_begins_69 (tgt := 51) (by decide) ?_
              exact zV.loc (ih (j + 1) (by omega) (by omega)) ⟨rfl, rfl, trivial⟩
        refine z_iconst O dX8_begins_49 (v := 0) (by decide) ?_
        refine z_istore_n O dX8_begins_50 (by decide) ?_
        exact zV.loc (L2 (zN Y 1 + 1) 0 (by omega) (by omega)) ⟨rfl, rfl, trivial⟩
      · have hi : i < 80 := z_ge_lt (b := 80) (by omega) (by decide) h
        refine z_aload_n O dX8_begins_38 rfl ?_
        refine z_iload_n O dX8_begins_39 rfl ?_
        refine z_callV O (c_X8_rests hl hi) zI zm7_13 zm7_14 zm7_15 zm7_16 zm7_4 ⟨rfl, by decide +kernel, by decide +kernel, (show _ = some 1 by decide +kernel)⟩ rfl (zg_model) ⟨Nat.le_of_ble_eq_true rfl, Nat.le_of_ble_eq_true rfl⟩ ⟨Nat.le_of_ble_eq_true rfl, Nat.le_of_ble_eq_true rfl⟩ dX8_begins_40 rfl (Nat.le_of_ble_eq_true rfl) (fun _ _ _ h => h.elim) (fun r w1 ad1 hp => ?_)
        obtain ⟨rfl, rfl, rfl⟩ := hp
        refine z_iincN O dX8_begins_43 (a := i) rfl (by decide) ?_
        refine z_goto O dX8_begins_46 (tgt := 32) (by decide) ?_
        exact zV.loc (ih (i + 1) (by omega) (by omega)) ⟨rfl, rfl, trivial⟩
  refine z_aload_n O dX8_begins_0 rfl ?_
  refine z_iconst O dX8_begins_1 (v := 0) (by decide) ?_
  refine z_put O (fk := 29) (fun x h => zI x (zu_RX8 x h)) tyX8 tyX8_ok nmX8 rfl (by decide) (zI _ zm7_43) rfl dX8_begins_2 rfl rfl (zg_model) (Nat.le_of_ble_eq_true rfl) (zp_model (F := 29) (by decide) rfl) ?_
  refine z_aload_n O dX8_begins_5 rfl ?_
  refine z_iconst O dX8_begins_6 (v := 0) (by decide) ?_
  refine z_put O (fk := 30) (fun x h => zI x (zu_RX8 x h)) tyX8 tyX8_ok nmX8 rfl (by decide) (zI _ zm7_44) rfl dX8_begins_7 rfl rfl (zg_model) (Nat.le_of_ble_eq_true rfl) (zp_model (F := 30) (by decide) rfl) ?_
  refine z_aload_n O dX8_begins_10 rfl ?_
  refine z_iconst O dX8_begins_11 (v := 0) (by decide) ?_
  refine z_put O (fk := 31) (fun x h => zI x (zu_RX8 x h)) tyX8 tyX8_ok nmX8 rfl (by decide) (zI _ zm7_45) rfl dX8_begins_12 rfl rfl (zg_model) (Nat.le_of_ble_eq_true rfl) (zp_model (F := 31) (by decide) rfl) ?_
  refine z_aload_n O dX8_begins_15 rfl ?_
  refine z_iconst O dX8_begins_16 (v := 0) (by decide) ?_
  refine z_put O (fk := 32) (fun x h => zI x (zu_RX8 x h)) tyX8 tyX8_ok nmX8 rfl (by decide) (zI _ zm7_46) rfl dX8_begins_17 rfl rfl (zg_model) (Nat.le_of_ble_eq_true rfl) (zp_model (F := 32) (by decide) rfl) ?_
  refine z_aload_n O dX8_begins_20 rfl ?_
  refine z_iconst O dX8_begins_21 (v := 0) (by decide) ?_
  refine z_put O (fk := 33) (fun x h => zI x (zu_RX8 x h)) tyX8 tyX8_ok nmX8 rfl (by decide) (zI _ zm7_47) rfl dX8_begins_22 rfl rfl (zg_model) (Nat.le_of_ble_eq_true rfl) (zp_model (F := 33) (by decide) rfl) ?_
  refine z_aload_n O dX8_begins_25 rfl ?_
  refine z_iconst O dX8_begins_26 (v := 0) (by decide) ?_
  refine z_put O (fk := 27) (fun x h => zI x (zu_RX8 x h)) tyX8 tyX8_ok nmX8 rfl (by decide) (zI _ zm7_41) rfl dX8_begins_27 rfl rfl (zg_model) (Nat.le_of_ble_eq_true rfl) (zp_model (F := 27) (by decide) rfl) ?_
  refine z_iconst O dX8_begins_30 (v := 0) (by decide) ?_
  refine z_istore_n O dX8_begins_31 (by decide) ?_
  exact zV.loc (L 81 0 (by omega) (by omega)) ⟨rfl, rfl, trivial⟩
