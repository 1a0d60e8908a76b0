section Lays
theorem ly_0 : ∀ w ∈ u_ws RX0 TX0 2, w ∈ lw_good := by decide +kernel
theorem ly_1 : ∀ w ∈ u_ws RX1 TX1 7, w ∈ lw_good := by decide +kernel
theorem ly_2 : ∀ w ∈ u_ws RX2 TX2 7, w ∈ lw_good := by decide +kernel
theorem ly_3 : ∀ w ∈ u_ws RX3 TX3 2, w ∈ lw_good := by decide +kernel
theorem ly_4 : ∀ w ∈ u_ws RX4 TX4 4, w ∈ lw_good := by decide +kernel
theorem ly_5 : ∀ w ∈ u_ws RX5 TX5 3, w ∈ lw_good := by decide +kernel
theorem ly_6 : ∀ w ∈ u_ws RX6 TX6 7, w ∈ lw_good := by decide +kernel
theorem ly_7 : ∀ w ∈ u_ws RX7 TX7 4, w ∈ lw_good := by decide +kernel
theorem ly_8 : ∀ w ∈ u_ws RX8 TX8 9, w ∈ lw_good := by decide +kernel
theorem ly_9 : ∀ w ∈ u_ws RX9 TX9 9, w ∈ lw_good := by decide +kernel
theorem ly_10 : ∀ w ∈ u_ws RX10 TX10 8, w ∈ lw_good := by decide +kernel
theorem ly_11 : ∀ w ∈ u_ws RX11 TX11 19, w ∈ lw_good := by decide +kernel
theorem ly_12 : ∀ w ∈ u_ws RX12 TX12 51, w ∈ lw_good := by decide +kernel
theorem ly : ∀ ci, ci < 13 → ∀ w ∈ u_ws (cR ci) (fT ci) (cN ci), w ∈ lw_good
  | 0, _ => ly_0 | 1, _ => ly_1 | 2, _ => ly_2 | 3, _ => ly_3 | 4, _ => ly_4 | 5, _ => ly_5 | 6, _ => ly_6 | 7, _ => ly_7 | 8, _ => ly_8 | 9, _ => ly_9 | 10, _ => ly_10 | 11, _ => ly_11 | 12, _ => ly_12
  | n + 13, h => absurd h (by omega)
theorem ii_0 : Cond.instantiable RX0 2 ∈ lw_good ∧ Cond.initialized RX0 ∈ lw_good := by decide +kernel
theorem ii_1 : Cond.instantiable RX1 7 ∈ lw_good ∧ Cond.initialized RX1 ∈ lw_good := by decide +kernel
theorem ii_2 : Cond.instantiable RX2 7 ∈ lw_good ∧ Cond.initialized RX2 ∈ lw_good := by decide +kernel
theorem ii_3 : Cond.instantiable RX3 2 ∈ lw_good ∧ Cond.initialized RX3 ∈ lw_good := by decide +kernel
theorem ii_4 : Cond.instantiable RX4 4 ∈ lw_good ∧ Cond.initialized RX4 ∈ lw_good := by decide +kernel
theorem ii_5 : Cond.instantiable RX5 3 ∈ lw_good ∧ Cond.initialized RX5 ∈ lw_good := by decide +kernel
theorem ii_6 : Cond.instantiable RX6 7 ∈ lw_good ∧ Cond.initialized RX6 ∈ lw_good := by decide +kernel
theorem ii_7 : Cond.instantiable RX7 4 ∈ lw_good ∧ Cond.initialized RX7 ∈ lw_good := by decide +kernel
theorem ii_8 : Cond.instantiable RX8 9 ∈ lw_good ∧ Cond.initialized RX8 ∈ lw_good := by decide +kernel
theorem ii_9 : Cond.instantiable RX9 9 ∈ lw_good ∧ Cond.initialized RX9 ∈ lw_good := by decide +kernel
theorem ii_10 : Cond.instantiable RX10 8 ∈ lw_good ∧ Cond.initialized RX10 ∈ lw_good := by decide +kernel
theorem ii_11 : Cond.instantiable RX11 19 ∈ lw_good ∧ Cond.initialized RX11 ∈ lw_good := by decide +kernel
theorem ii_12 : Cond.instantiable RX12 51 ∈ lw_good ∧ Cond.initialized RX12 ∈ lw_good := by decide +kernel
theorem ii : ∀ ci, ci < 13 → Cond.instantiable (cR ci) (cN ci) ∈ lw_good ∧ Cond.initialized (cR ci) ∈ lw_good
  | 0, _ => ii_0 | 1, _ => ii_1 | 2, _ => ii_2 | 3, _ => ii_3 | 4, _ => ii_4 | 5, _ => ii_5 | 6, _ => ii_6 | 7, _ => ii_7 | 8, _ => ii_8 | 9, _ => ii_9 | 10, _ => ii_10 | 11, _ => ii_11 | 12, _ => ii_12
  | n + 13, h => absurd h (by omega)
end Lays
