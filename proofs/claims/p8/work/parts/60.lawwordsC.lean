theorem zTq {ws : List Cond} (ps : List (Nat × Nat)) (e : ws = ps.filterMap (fun p => (match p.1 with
  | 0 => k2_sels lw_privs
  | 1 => tables_1_1
  | 2 => tables_1_2
  | 3 => tables_1_3
  | 4 => tables_1_4
  | 5 => tables_1_5
  | _ => ([] : List Cond))[p.2]?)) : ∀ w ∈ ws, w ∈ lw_tbl := fun w hw => by
  rw [e] at hw
  obtain ⟨⟨a, k⟩, -, h2⟩ := List.mem_filterMap.mp hw
  match a, h2 with
  | 0, h2 => exact zTm0 w (List.mem_of_getElem? h2)
  | 1, h2 => exact zTm1 w (List.mem_of_getElem? h2)
  | 2, h2 => exact zTm2 w (List.mem_of_getElem? h2)
  | 3, h2 => exact zTm3 w (List.mem_of_getElem? h2)
  | 4, h2 => exact zTm4 w (List.mem_of_getElem? h2)
  | 5, h2 => exact zTm5 w (List.mem_of_getElem? h2)
  | a + 6, h2 => simp at h2
set_option maxRecDepth 100000 in
theorem zx1 : ∀ w ∈ (vx_atS RX6 148 "java/lang/IllegalArgumentException" ["java/lang/RuntimeException", "java/lang/Exception"]).filter goodWord, w ∈ lw_tbl := zTq [(1, 11), (3, 147), (3, 156), (3, 159), (3, 162), (3, 164), (3, 148), (3, 149), (1, 22), (1, 23), (3, 150), (3, 155), (3, 160), (3, 180), (3, 137), (3, 181), (3, 139), (3, 182), (3, 141), (3, 151), (3, 153), (3, 143), (3, 176), (3, 177), (3, 179), (3, 143), (3, 167), (3, 168), (3, 169), (3, 170), (3, 170), (3, 171), (3, 172), (3, 173), (3, 173), (3, 174), (3, 175), (3, 176), (3, 166), (3, 126), (3, 134), (3, 135), (3, 136), (3, 138), (3, 140), (3, 142), (3, 146), (3, 145), (3, 144)] (by decide +kernel)
set_option maxRecDepth 100000 in
theorem zx2 : ∀ w ∈ (vx_atS RX6 155 "java/lang/ArithmeticException" ["java/lang/RuntimeException", "java/lang/Exception"]).filter goodWord, w ∈ lw_tbl := zTq [(1, 11), (3, 147), (3, 156), (3, 159), (3, 162), (3, 164), (3, 148), (3, 149), (1, 22), (1, 23), (3, 150), (3, 155), (3, 160), (3, 180), (3, 137), (3, 181), (3, 139), (3, 182), (3, 141), (3, 151), (3, 153), (3, 143), (3, 176), (3, 177), (3, 179), (3, 143), (3, 202), (3, 203), (3, 204), (3, 170), (3, 170), (3, 171), (3, 172), (3, 173), (3, 173), (3, 174), (3, 175), (3, 176), (3, 201), (3, 192), (3, 194), (3, 158), (3, 195), (3, 196), (3, 197), (3, 198), (3, 146), (3, 145), (3, 199)] (by decide +kernel)
