theorem arrV_c {cI : ClassId} {N : Nat} {f g : Nat → Value} (h : ∀ j, j < N → f j = g j) : arrV cI N f = arrV cI N g := by
  unfold arrV
  rw [show (fun j : Fin N => f j.val) = (fun j : Fin N => g j.val) from funext fun j => h j.1 j.2]
/-- a cell that stands is another, too -/
def zAl (G : zG) (e e' : zE) : Prop := ∀ q H, va_at G.1 vwCl (q, zEn G e) H → va_at G.1 vwCl (q, zEn G e') H
theorem zRep.sim {G : zG} {w w' : zH} {ad : Nat → Nat} {H : Heap} (h : zRep G w ad H) (hw : ∀ j e, w' j = some e → ∃ e', w j = some e' ∧ zAl G e' e) : zRep G w' ad H := by
  have hn : ∀ j, w' j ≠ none → w j ≠ none := by
    intro j hj
    cases hx : w' j with
    | none => exact absurd hx hj
    | some f => obtain ⟨e', h1, -⟩ := hw j f hx; rw [h1]; intro z; cases z
  refine ⟨fun i e hi => ?_, fun a b h1 h2 => h.2 a b (hn a h1) (hn b h2)⟩
  obtain ⟨e', h1, h2⟩ := hw i e hi
  exact ⟨(h.1 i e' h1).1, h2 _ _ (h.1 i e' h1).2⟩
theorem zAl.rf {G : zG} {e : zE} : zAl G e e := fun _ _ h => h
theorem eLArr_g {Z Z' : zM} {cp cp' : Nat → Nat} {ad ad' : Nat → Nat} {i : Nat} (h1 : zN Z' i = zN Z i) (h2 : cp' i = cp i) (h3 : ∀ k, k < zN Z i → ad' (200 + 20 * i + k) = ad (200 + 20 * i + k)) : eLArr Z' cp' ad' i = eLArr Z cp ad i := by
  unfold eLArr
  rw [h1, h2, show (fun k => if k < zN Z i then some (ad' (200 + 20 * i + k)) else none) = (fun k => if k < zN Z i then some (ad (200 + 20 * i + k)) else none) from funext fun k => by
    by_cases q : k < zN Z i
    · rw [if_pos q, if_pos q, h3 k q]
    · rw [if_neg q, if_neg q]]
theorem eArr_g {ad ad' : Nat → Nat} (h : ∀ k, ad' (100 + k) = ad (100 + k)) : eArr ad' = eArr ad := by
  unfold eArr
  rw [show (fun k => some (ad' (100 + k))) = (fun k => some (ad (100 + k))) from funext fun k => by rw [h]]
theorem zAl_arr {G : zG} {ad ad' : Nat → Nat} (hk : ∀ k, k < 80 → ad' (100 + k) = ad (100 + k)) : zAl G (eArr ad) (eArr ad') := by
  intro q H h
  have h9 : H[q]? = some (arrV (G.2.1 5) 80 (fun k => va_rf (some (ad (100 + k))))) := h
  show H[q]? = some (arrV (G.2.1 5) 80 (fun k => va_rf (some (ad' (100 + k)))))
  rw [h9]
  exact congrArg some (arrV_c fun k hk8 => by rw [hk k hk8])
/-- a number that no cell of the world is called by, or that none refers to, may be another's -/
theorem zent_ad (G : zG) {Z : zM} {sb : Nat → Option Nat} {mcn : Nat → Int32} {cp : Nat → Nat} {e0 : Nat} {Y : zM} {th : Int32} {o : Nat → Int64} {od : Nat → UInt64} {ad ad' : Nat → Nat} {n0 : Nat} (hk : ∀ j, j ≠ n0 → ad' j = ad j) (hn : (n0 = 200 + zN Z 0 ∨ n0 = 220 + zN Z 1 ∨ n0 = 240 + zN Z 2) ∧ zN Z 0 ≤ 12 ∧ zN Z 1 ≤ 12 ∧ zN Z 2 ≤ 12)
    (hs : ∀ k, k < 80 → ∀ j, zh (Z 2 k) = some j → j < zN Z 0) (hb : ∀ j k, j < zN Z 0 → sb j = some k → k < 80) (hc : ∀ c, c < zN Z 2 → (Z 19 c).toNatClampNeg < zN Z 1) : ∀ j e, zent Z sb mcn cp e0 Y th o od ad' j = some e → ∃ e', zent Z sb mcn cp e0 Y th o od ad j = some e' ∧ zAl G e' e := by
  intro j e he
  by_cases j2 : j = 2
  · subst j2
    rw [zg_arr] at he
    have he2 := Option.some.inj he
    subst he2
    exact ⟨eArr ad, zg_arr, zAl_arr fun k hk8 => hk _ (by omega)⟩
  refine ⟨e, ?_, zAl.rf⟩
  rw [← he]
  refine (zeq_gen j (fun _ => ?_) (fun _ => ?_) (fun q => absurd q j2) (fun _ => ?_) (fun _ => ?_) (fun i hi _ => ?_) (fun i hi _ => ⟨Iff.rfl, fun _ => ?_⟩) (fun b hb1 _ => ?_) (fun b hb2 _ => ⟨Iff.rfl, fun q => ?_⟩) (fun b _ _ => ⟨Iff.rfl, fun _ => rfl⟩) (fun b _ _ => ⟨Iff.rfl, fun q => ?_⟩) (fun hj => ?_)).symm
  · unfold eX; rw [hk 1 (by omega), hk 3 (by omega), hk 6 (by omega), hk 4 (by omega)]
  · unfold eHouse; rw [hk 2 (by omega)]
  · unfold eTr; rw [hk 5 (by omega)]
  · unfold eEv; rw [hk 7 (by omega)]
  · unfold eList; rw [hk (8 + i) (by omega)]
  · exact eLArr_g rfl rfl fun k q => hk _ (by rcases (show i = 0 ∨ i = 1 ∨ i = 2 by omega) with rfl | rfl | rfl <;> omega)
  · unfold sSeat
    cases hz : zh (Z 2 b) with
    | none => rfl
    | some m => have := hs b hb1 m hz; simp only [Option.map]; rw [hk _ (by omega)]
  · unfold sHand
    cases hz : sb b with
    | none => rfl
    | some m => have := hb b m q hz; simp only [Option.map]; rw [hk _ (by omega)]
  · unfold sCue; have := hc b q; rw [hk _ (by omega)]
  · have hm : sModel Y th ad' = sModel Y th ad := by
      unfold sModel
      rw [hk 301 (by omega), hk 302 (by omega), hk 303 (by omega), hk 304 (by omega), hk 305 (by omega), hk 306 (by omega), hk 307 (by omega), hk 308 (by omega), hk 309 (by omega), hk 310 (by omega), hk 311 (by omega), hk 312 (by omega), hk 313 (by omega), hk 314 (by omega), hk 315 (by omega), hk 316 (by omega), hk 317 (by omega), hk 318 (by omega), hk 319 (by omega), hk 320 (by omega), hk 321 (by omega), hk 322 (by omega), hk 323 (by omega)]
    unfold zD
    rw [hm]
/-- the world behind an addition to list i -/
theorem zw_add {G : zG} {Z Z' : zM} {sb sb' : Nat → Option Nat} {mcn : Nat → Int32} {cp : Nat → Nat} {e0 : Nat} {Y : zM} {th : Int32} {o : Nat → Int64} {od : Nat → UInt64} {ad : Nat → Nat} {i n c q : Nat} {ob : zE} {H : Heap} (hi : i < 3) (hn : n = zN Z i) (hn12 : n < 12) (hl12 : zN Z 0 ≤ 12 ∧ zN Z 1 ≤ 12 ∧ zN Z 2 ≤ 12) (hc : c ≠ 0) (hX : ∀ a, eX Z' a = eX Z a) (hH : ∀ a, eHouse Z' a = eHouse Z a) (hE : ∀ a, eEv Z' a = eEv Z a) (hL : ∀ k, k < 3 → Z' (25 + k) 0 = if k = i then nI (n + 1) else Z (25 + k) 0) (hS : ∀ a b, sSeat Z' a b = sSeat Z a b)
    (hHd : ∀ a b, b < zN Z 0 → sHand Z' sb' a b = sHand Z sb a b) (hSg : ∀ b, b < zN Z 1 → sSinger Z' b = sSinger Z b) (hCu : ∀ a b, b < zN Z 2 → sCue Z' a b = sCue Z a b)
    (hob : zent Z' sb' (va_up mcn i (mcn i + 1)) (va_up cp i c) e0 Y th o od (va_up ad (8 + i) q) (200 + 20 * i + n) = some ob)
    (hR : zRep G (wU (wU (wU (zent Z sb mcn cp e0 Y th o od ad) (200 + 20 * i + n) ob) (8 + i) (zAr c (fun k => if k < n + 1 then some (ad (200 + 20 * i + k)) else none))) (5 + i) (zLs (mcn i + 1) (.ref q) (nI (n + 1)))) (va_up ad (8 + i) q) H) : zRep G (zent Z' sb' (va_up mcn i (mcn i + 1)) (va_up cp i c) e0 Y th o od (va_up ad (8 + i) q)) (va_up ad (8 + i) q) H := by
  have hN : ∀ k, k < 3 → zN Z' k = if k = i then n + 1 else zN Z k := by
    intro k hk
    unfold zN
    rw [hL k hk]
    by_cases q : k = i
    · rw [if_pos q, if_pos q, nI_clamp (by omega)]
    · rw [if_neg q, if_neg q]
  have ha : ∀ j, j ≠ 8 + i → va_up ad (8 + i) q j = ad j := fun j h => zup_n h
  refine hR.less fun j e he => ?_
  by_cases j5 : j = 5 + i
  · subst j5
    rw [wU_s, ← he, zg_list hi]
    unfold eList zLs
    rw [zup_s, zup_s, if_neg hc, zup_s, hL i hi, if_pos rfl]
  rw [wU_n j5]
  by_cases j8 : j = 8 + i
  · subst j8
    rw [wU_s, ← he, zg_larr hi (by rw [zup_s]; exact hc)]
    rw [eLArr_g (Z := Z') (cp := va_up cp i c) (ad := ad) rfl rfl (fun k _ => ha _ (by omega))]
    unfold eLArr zAr
    rw [zup_s, hN i hi, if_pos rfl]
  rw [wU_n j8]
  by_cases jn : j = 200 + 20 * i + n
  · subst jn
    rw [wU_s, ← he, hob]
  rw [wU_n jn, ← he]
  refine (zeq_gen j (fun _ => ?_) (fun _ => ?_) (fun _ => ?_) (fun _ => ?_) (fun _ => ?_) (fun k hk e9 => ?_) (fun k hk e9 => ?_) (fun b hb1 _ => ?_) (fun b hb2 e9 => ⟨?_, fun q => ?_⟩) (fun b hb2 e9 => ⟨?_, fun q => ?_⟩) (fun b hb2 e9 => ⟨?_, fun q => ?_⟩) (fun hj => ?_)).symm
  · rw [hX]; unfold eX; rw [ha 1 (by omega), ha 3 (by omega), ha 6 (by omega), ha 4 (by omega)]
  · rw [hH]; unfold eHouse; rw [ha 2 (by omega)]
  · exact eArr_g fun k => ha _ (by omega)
  · unfold eTr; rw [ha 5 (by omega)]
  · rw [hE]; unfold eEv; rw [ha 7 (by omega)]
  · have hki : k ≠ i := by omega
    unfold eList
    rw [zup_n hki, zup_n hki, ha (8 + k) (by omega), hL k hk, if_neg hki]
  · have hki : k ≠ i := by omega
    exact ⟨by rw [zup_n hki], fun _ => eLArr_g (by rw [hN k hk, if_neg hki]) (zup_n hki) fun m _ => ha _ (by omega)⟩
  · rw [hS]
    unfold sSeat
    cases hz : zh (Z 2 b) with
    | none => rfl
    | some m => simp only [Option.map]; rw [ha (200 + m) (by omega)]
  · rw [hN 0 (by decide)]; by_cases q : 0 = i
    · subst q; rw [if_pos rfl]; omega
    · rw [if_neg q]
  · rw [hHd _ _ q]
    unfold sHand
    cases hz : sb b with
    | none => rfl
    | some m => simp only [Option.map]; rw [ha (100 + m) (by omega)]
  · rw [hN 1 (by decide)]; by_cases q : 1 = i
    · subst q; rw [if_pos rfl]; omega
    · rw [if_neg q]
  · exact hSg _ q
  · rw [hN 2 (by decide)]; by_cases q : 2 = i
    · subst q; rw [if_pos rfl]; omega
    · rw [if_neg q]
  · rw [hCu _ _ q]
    unfold sCue
    rw [ha (220 + _) (by omega)]
  · have hm : sModel Y th (va_up ad (8 + i) q) = sModel Y th ad := by
      unfold sModel
      rw [ha 301 (by omega), ha 302 (by omega), ha 303 (by omega), ha 304 (by omega), ha 305 (by omega), ha 306 (by omega), ha 307 (by omega), ha 308 (by omega), ha 309 (by omega), ha 310 (by omega), ha 311 (by omega), ha 312 (by omega), ha 313 (by omega), ha 314 (by omega), ha 315 (by omega), ha 316 (by omega), ha 317 (by omega), ha 318 (by omega), ha 319 (by omega), ha 320 (by omega), ha 321 (by omega), ha 322 (by omega), ha 323 (by omega)]
    unfold zD
    rw [hm]