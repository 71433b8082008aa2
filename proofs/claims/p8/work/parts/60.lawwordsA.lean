/-- the words, a row after the other -/
def zUw (p : Nat × Nat) : Option Cond := (match p.1 with
  | 0 => zU0
  | 1 => zU1
  | 2 => zU2
  | 3 => zU3
  | 4 => zU4
  | 5 => zU5
  | 6 => zU6
  | 7 => zU7
  | 8 => zU8
  | 9 => zU9
  | 10 => zU10
  | 11 => zU11
  | 12 => zU12
  | 13 => zU13
  | 14 => zU14
  | 15 => zU15
  | 16 => zU16
  | 17 => zU17
  | 18 => zU18
  | 19 => zU19
  | 20 => zU20
  | 21 => zU21
  | 22 => zU22
  | 23 => zU23
  | 24 => zU24
  | _ => ([] : List Cond))[p.2]?
theorem zUw_good {p : Nat × Nat} {w : Cond} (h : zUw p = some w) : w ∈ lw_tbl ∧ ((w.onTables && w.keeps) = true ∨ ∃ ty, w = .arrayClass ty) := by
  obtain ⟨a, k⟩ := p
  match a, h with
  | 0, h => exact zUg0 w (List.mem_of_getElem? h)
  | 1, h => exact zUg1 w (List.mem_of_getElem? h)
  | 2, h => exact zUg2 w (List.mem_of_getElem? h)
  | 3, h => exact zUg3 w (List.mem_of_getElem? h)
  | 4, h => exact zUg4 w (List.mem_of_getElem? h)
  | 5, h => exact zUg5 w (List.mem_of_getElem? h)
  | 6, h => exact zUg6 w (List.mem_of_getElem? h)
  | 7, h => exact zUg7 w (List.mem_of_getElem? h)
  | 8, h => exact zUg8 w (List.mem_of_getElem? h)
  | 9, h => exact zUg9 w (List.mem_of_getElem? h)
  | 10, h => exact zUg10 w (List.mem_of_getElem? h)
  | 11, h => exact zUg11 w (List.mem_of_getElem? h)
  | 12, h => exact zUg12 w (List.mem_of_getElem? h)
  | 13, h => exact zUg13 w (List.mem_of_getElem? h)
  | 14, h => exact zUg14 w (List.mem_of_getElem? h)
  | 15, h => exact zUg15 w (List.mem_of_getElem? h)
  | 16, h => exact zUg16 w (List.mem_of_getElem? h)
  | 17, h => exact zUg17 w (List.mem_of_getElem? h)
  | 18, h => exact zUg18 w (List.mem_of_getElem? h)
  | 19, h => exact zUg19 w (List.mem_of_getElem? h)
  | 20, h => exact zUg20 w (List.mem_of_getElem? h)
  | 21, h => exact zUg21 w (List.mem_of_getElem? h)
  | 22, h => exact zUg22 w (List.mem_of_getElem? h)
  | 23, h => exact zUg23 w (List.mem_of_getElem? h)
  | 24, h => exact zUg24 w (List.mem_of_getElem? h)
  | a + 25, h => simp [zUw] at h
theorem zUin {ws : List Cond} (ps : List (Nat × Nat)) (h : ps.map zUw = ws.map some) : GoodIn lw_tbl ws := fun w hw => by
  obtain ⟨k, hk⟩ := List.getElem?_of_mem hw
  have h1 : (ps.map zUw)[k]? = some (some w) := by rw [h, List.getElem?_map, hk]; rfl
  rw [List.getElem?_map] at h1
  cases hp : ps[k]? with
  | none => rw [hp] at h1; cases h1
  | some p => rw [hp] at h1; exact zUw_good (Option.some.inj h1)
