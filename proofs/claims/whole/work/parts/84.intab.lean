theorem in_places {ws L : List Cond} (ps : List Nat) (h : ws.map some = ps.map (fun i => L[i]?)) : ∀ w ∈ ws, w ∈ L := by
  intro w hw
  have h1 : some w ∈ ws.map some := List.mem_map.mpr ⟨w, hw, rfl⟩
  rw [h] at h1
  obtain ⟨i, -, hi⟩ := List.mem_map.mp h1
  exact List.mem_of_getElem? hi
