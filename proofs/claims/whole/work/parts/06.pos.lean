theorem istore_6_5 {X : JC} {cc : ByteArray} {own : String} {Ts : List Cond} {cells slots pc : Nat} {rm : Room} {M : MH} {st : List Value} {a0 a1 a2 a3 a4 a5 : Option Value} (g : jG X cc own Ts 6 rm) {x : Int32} (hd : decode cc pc = .ok (.istore 5, 2)) (k : J X 6 cells slots M [a0, a1, a2, a3, a4, some (.int x)] st (pc + 2)) : J X 6 cells slots M [a0, a1, a2, a3, a4, a5] (.int x :: st) pc := j_istore g hd (Nat.le_of_ble_eq_true rfl) k
set_option maxRecDepth 20000 in
theorem inwX9_X9_goes : ∀ w ∈ wsX90, w ∈ wsX9_goes := by decide +kernel
set_option maxRecDepth 20000 in
theorem inwX9_X9_isDuel : ∀ w ∈ wsX90, w ∈ wsX9_isDuel := by decide +kernel
set_option maxRecDepth 20000 in
theorem inwX9_X9_isSign : ∀ w ∈ wsX90, w ∈ wsX9_isSign := by decide +kernel
set_option maxRecDepth 20000 in
theorem inwX9_X9_stroke : ∀ w ∈ wsX90, w ∈ wsX9_stroke := by decide +kernel
