/-! the classes of the world, by their numbers: their words, types and names -/
theorem ma_lay_in {C : String} {T : u_T} {N : Nat} (is : List Nat) (h : (List.range N).all (fun k => decide (tables_1[is.getD k 0]? = some (u_lay C T k)) && goodWord (u_lay C T k)) = true) : ∀ w ∈ u_ws C T N, w ∈ ma_TB := by
  intro w hw
  obtain ⟨k, hk, rfl⟩ := List.mem_map.mp hw
  have := List.all_eq_true.mp h k hk
  simp only [Bool.and_eq_true] at this
  exact ma_TB_in this.1 this.2
def ma_clok (t : Nat) : Prop := ∃ (C : String) (T : u_T), vwCl[t]? = some (C, T, ma_fn t) ∧ (∀ w ∈ u_ws C T (ma_fn t), w ∈ ma_TB) ∧ (∀ k, k < ma_fn t → parseFieldDescriptor (T k).2.2.1 = some (ma_ft t k)) ∧ ∀ a, a < ma_fn t → ∀ b, b < ma_fn t → a ≠ b → (T a).2.1 ≠ (T b).2.1
theorem ma_clw1 : ∀ w ∈ u_ws RX0 TX0 10, w ∈ ma_TB := ma_lay_in [242, 243, 226, 228, 230, 232, 234, 236, 238, 240] (by decide +kernel)
theorem ma_clok1 : ma_clok 1 := ⟨RX0, TX0, rfl, ma_clw1, tyX0_ok, nmX0⟩
theorem ma_clw2 : ∀ w ∈ u_ws RX2 TX2 8, w ∈ ma_TB := ma_lay_in [261, 262, 263, 264, 265, 255, 257, 259] (by decide +kernel)
theorem ma_clok2 : ma_clok 2 := ⟨RX2, TX2, rfl, ma_clw2, tyX2_ok, nmX2⟩
theorem ma_clw3 : ∀ w ∈ u_ws RX3 TX3 5, w ∈ ma_TB := ma_lay_in [209, 210, 203, 205, 207] (by decide +kernel)
theorem ma_clok3 : ma_clok 3 := ⟨RX3, TX3, rfl, ma_clw3, tyX3_ok, nmX3⟩
theorem ma_clw4 : ∀ w ∈ u_ws RX4 TX4 9, w ∈ ma_TB := ma_lay_in [320, 321, 306, 308, 310, 312, 314, 316, 318] (by decide +kernel)
theorem ma_clok4 : ma_clok 4 := ⟨RX4, TX4, rfl, ma_clw4, tyX4_ok, nmX4⟩
theorem ma_clw5 : ∀ w ∈ u_ws RX5 TX5 4, w ∈ ma_TB := ma_lay_in [191, 192, 187, 189] (by decide +kernel)
theorem ma_clok5 : ma_clok 5 := ⟨RX5, TX5, rfl, ma_clw5, tyX5_ok, nmX5⟩
theorem ma_clw6 : ∀ w ∈ u_ws RX6 TX6 9, w ∈ ma_TB := ma_lay_in [287, 288, 289, 290, 291, 279, 281, 283, 285] (by decide +kernel)
theorem ma_clok6 : ma_clok 6 := ⟨RX6, TX6, rfl, ma_clw6, tyX6_ok, nmX6⟩
theorem ma_clw7 : ∀ w ∈ u_ws RX7 TX7 13, w ∈ ma_TB := ma_lay_in [76, 78, 80, 82, 84, 86, 88, 90, 92, 94, 96, 98, 100] (by decide +kernel)
theorem ma_clok7 : ma_clok 7 := ⟨RX7, TX7, rfl, ma_clw7, tyX7_ok, nmX7⟩
theorem ma_clw8 : ∀ w ∈ u_ws RX8 TX8 5, w ∈ ma_TB := ma_lay_in [174, 176, 168, 170, 172] (by decide +kernel)
theorem ma_clok8 : ma_clok 8 := ⟨RX8, TX8, rfl, ma_clw8, tyX8_ok, nmX8⟩
theorem ma_clw9 : ∀ w ∈ u_ws RX9 TX9 9, w ∈ ma_TB := ma_lay_in [1057, 1059, 1061, 1063, 1065, 1067, 1069, 1071, 1073] (by decide +kernel)
theorem ma_clok9 : ma_clok 9 := ⟨RX9, TX9, rfl, ma_clw9, tyX9_ok, nmX9⟩
theorem ma_clw10 : ∀ w ∈ u_ws RX10 TX10 6, w ∈ ma_TB := ma_lay_in [121, 123, 125, 127, 129, 131] (by decide +kernel)
theorem ma_clok10 : ma_clok 10 := ⟨RX10, TX10, rfl, ma_clw10, tyX10_ok, nmX10⟩
theorem ma_clw11 : ∀ w ∈ u_ws RX11 TX11 12, w ∈ ma_TB := ma_lay_in [335, 337, 339, 341, 343, 345, 347, 349, 351, 353, 355, 357] (by decide +kernel)
theorem ma_clok11 : ma_clok 11 := ⟨RX11, TX11, rfl, ma_clw11, tyX11_ok, nmX11⟩
theorem ma_clw12 : ∀ w ∈ u_ws RX12 TX12 85, w ∈ ma_TB := ma_lay_in [1599, 1601, 1603, 1605, 1607, 1609, 1611, 1613, 1615, 1617, 1619, 1621, 1623, 1625, 1627, 1629, 1631, 1633, 1635, 1637, 1639, 1641, 1643, 1645, 1647, 1649, 1651, 1653, 1655, 1657, 1659, 1661, 1663, 1665, 1667, 1669, 1671, 1673, 1675, 1677, 1679, 1681, 1683, 1685, 1687, 1689, 1691, 1693, 1695, 1697, 1699, 1701, 1703, 1705, 1707, 1709, 1711, 1713, 1715, 1717, 1719, 1721, 1723, 1725, 1727, 1729, 1731, 1733, 1735, 1737, 1739, 1741, 1743, 1745, 1747, 1749, 1751, 1753, 1755, 1757, 1759, 1761, 1763, 1765, 1767] (by decide +kernel)
theorem ma_clok12 : ma_clok 12 := ⟨RX12, TX12, rfl, ma_clw12, tyX12_ok, nmX12⟩
theorem ma_clok_all {t : Nat} (h1 : 1 ≤ t) (h2 : t ≤ 12) : ma_clok t := by
  have h : t = 1 ∨ t = 2 ∨ t = 3 ∨ t = 4 ∨ t = 5 ∨ t = 6 ∨ t = 7 ∨ t = 8 ∨ t = 9 ∨ t = 10 ∨ t = 11 ∨ t = 12 := by omega
  rcases h with rfl | rfl | rfl | rfl | rfl | rfl | rfl | rfl | rfl | rfl | rfl | rfl
  · exact ma_clok1
  · exact ma_clok2
  · exact ma_clok3
  · exact ma_clok4
  · exact ma_clok5
  · exact ma_clok6
  · exact ma_clok7
  · exact ma_clok8
  · exact ma_clok9
  · exact ma_clok10
  · exact ma_clok11
  · exact ma_clok12
