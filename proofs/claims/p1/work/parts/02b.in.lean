theorem mem_r {big ws : List Cond} (ps : List Nat) (hp : ws = ps.filterMap (fun i => big[i]?)) : ∀ w ∈ ws, w ∈ big := fun w hw => by
  rw [hp] at hw
  obtain ⟨i, -, hi⟩ := List.mem_filterMap.mp hw
  exact List.mem_of_getElem? hi
set_option maxRecDepth 20000 in
theorem lyX0 : ∀ w ∈ wsX00, w ∈ lw_tbl := mem_r [98, 100, 102, 104] (by decide +kernel)
set_option maxRecDepth 20000 in
theorem lyX1 : ∀ w ∈ wsX10, w ∈ lw_tbl := mem_r [137, 139] (by decide +kernel)
set_option maxRecDepth 20000 in
theorem lyX2 : ∀ w ∈ wsX20, w ∈ lw_tbl := mem_r [125, 127, 129] (by decide +kernel)
set_option maxRecDepth 20000 in
theorem lyX3 : ∀ w ∈ wsX30, w ∈ lw_tbl := mem_r [155, 157, 159] (by decide +kernel)
set_option maxRecDepth 20000 in
theorem lyX4 : ∀ w ∈ wsX40, w ∈ lw_tbl := mem_r [170, 172, 174, 176] (by decide +kernel)
set_option maxRecDepth 20000 in
theorem lyX5 : ∀ w ∈ wsX50, w ∈ lw_tbl := mem_r [199] (by decide +kernel)
set_option maxRecDepth 20000 in
theorem lyX6 : ∀ w ∈ wsX60, w ∈ lw_tbl := mem_r [189] (by decide +kernel)
set_option maxRecDepth 20000 in
theorem lyX7 : ∀ w ∈ wsX70, w ∈ lw_tbl := mem_r [208, 210, 212, 214, 216, 218] (by decide +kernel)
set_option maxRecDepth 20000 in
theorem lyX8 : ∀ w ∈ wsX80, w ∈ lw_tbl := mem_r [694, 696, 698, 700, 702, 704] (by decide +kernel)
