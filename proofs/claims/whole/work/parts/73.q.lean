/-! ===== final fields (written by gen/gw.py) ===== -/
theorem fs_qX0_9 : fs_PF 0 9 RX0 := ⟨RX0, TX0, 12, (.array .int), rfl, rfl, rfl, by decide +kernel, fun a => ⟨rfl, rfl⟩⟩
theorem fs_qX0_10 : fs_PF 0 10 RX0 := ⟨RX0, TX0, 12, (.object "FieldSorter$Parts"), rfl, rfl, rfl, by decide +kernel, fun a => ⟨rfl, rfl⟩⟩
theorem fs_qX0_11 : fs_PF 0 11 RX0 := ⟨RX0, TX0, 12, (.array .int), rfl, rfl, rfl, by decide +kernel, fun a => ⟨rfl, rfl⟩⟩
theorem fs_qX1_3 : fs_PF 1 3 RX1 := ⟨RX1, TX1, 4, (.object "FieldSorter$Rules"), rfl, rfl, rfl, by decide +kernel, fun a => ⟨rfl, rfl⟩⟩
theorem fs_qX2_0 : fs_PF 2 0 RX2 := ⟨RX2, TX2, 2, (.array (.array .int)), rfl, rfl, rfl, by decide +kernel, fun a => ⟨rfl, rfl⟩⟩
theorem fs_qX2_1 : fs_PF 2 1 RX2 := ⟨RX2, TX2, 2, (.object "FieldSorter$Rules"), rfl, rfl, rfl, by decide +kernel, fun a => ⟨rfl, rfl⟩⟩
theorem fs_qX3_1 : fs_PF 3 1 RX3 := ⟨RX3, TX3, 7, (.array (.array .int)), rfl, rfl, rfl, by decide +kernel, fun a => ⟨rfl, rfl⟩⟩
theorem fs_qX3_2 : fs_PF 3 2 RX3 := ⟨RX3, TX3, 7, (.array (.array .int)), rfl, rfl, rfl, by decide +kernel, fun a => ⟨rfl, rfl⟩⟩
theorem fs_qX3_3 : fs_PF 3 3 RX3 := ⟨RX3, TX3, 7, (.array .int), rfl, rfl, rfl, by decide +kernel, fun a => ⟨rfl, rfl⟩⟩
theorem fs_qX3_4 : fs_PF 3 4 RX3 := ⟨RX3, TX3, 7, (.array .int), rfl, rfl, rfl, by decide +kernel, fun a => ⟨rfl, rfl⟩⟩
theorem fs_qX3_5 : fs_PF 3 5 RX3 := ⟨RX3, TX3, 7, (.array .int), rfl, rfl, rfl, by decide +kernel, fun a => ⟨rfl, rfl⟩⟩
theorem fs_qX3_6 : fs_PF 3 6 RX3 := ⟨RX3, TX3, 7, (.array .int), rfl, rfl, rfl, by decide +kernel, fun a => ⟨rfl, rfl⟩⟩
theorem fs_qX4_2 : fs_PF 4 2 RX4 := ⟨RX4, TX4, 9, (.array .int), rfl, rfl, rfl, by decide +kernel, fun a => ⟨rfl, rfl⟩⟩
theorem fs_qX4_3 : fs_PF 4 3 RX4 := ⟨RX4, TX4, 9, (.array .boolean), rfl, rfl, rfl, by decide +kernel, fun a => ⟨rfl, rfl⟩⟩
theorem fs_qX4_4 : fs_PF 4 4 RX4 := ⟨RX4, TX4, 9, (.array .int), rfl, rfl, rfl, by decide +kernel, fun a => ⟨rfl, rfl⟩⟩
theorem fs_qX4_5 : fs_PF 4 5 RX4 := ⟨RX4, TX4, 9, (.array (.array .int)), rfl, rfl, rfl, by decide +kernel, fun a => ⟨rfl, rfl⟩⟩
theorem fs_qX4_6 : fs_PF 4 6 RX4 := ⟨RX4, TX4, 9, (.array (.array .int)), rfl, rfl, rfl, by decide +kernel, fun a => ⟨rfl, rfl⟩⟩
theorem fs_qX4_7 : fs_PF 4 7 RX4 := ⟨RX4, TX4, 9, (.object "FieldSorter$Rules"), rfl, rfl, rfl, by decide +kernel, fun a => ⟨rfl, rfl⟩⟩
theorem fs_qX4_8 : fs_PF 4 8 RX4 := ⟨RX4, TX4, 9, (.object "FieldSorter$Parts"), rfl, rfl, rfl, by decide +kernel, fun a => ⟨rfl, rfl⟩⟩
theorem fs_qX5_2 : fs_PF 5 2 RX5 := ⟨RX5, TX5, 12, (.array .int), rfl, rfl, rfl, by decide +kernel, fun a => ⟨rfl, rfl⟩⟩
theorem fs_qX5_3 : fs_PF 5 3 RX5 := ⟨RX5, TX5, 12, (.array .int), rfl, rfl, rfl, by decide +kernel, fun a => ⟨rfl, rfl⟩⟩
theorem fs_qX5_4 : fs_PF 5 4 RX5 := ⟨RX5, TX5, 12, (.array .int), rfl, rfl, rfl, by decide +kernel, fun a => ⟨rfl, rfl⟩⟩
theorem fs_qX5_5 : fs_PF 5 5 RX5 := ⟨RX5, TX5, 12, (.array .int), rfl, rfl, rfl, by decide +kernel, fun a => ⟨rfl, rfl⟩⟩
theorem fs_qX5_6 : fs_PF 5 6 RX5 := ⟨RX5, TX5, 12, (.array .int), rfl, rfl, rfl, by decide +kernel, fun a => ⟨rfl, rfl⟩⟩
theorem fs_qX5_7 : fs_PF 5 7 RX5 := ⟨RX5, TX5, 12, (.array (.array .int)), rfl, rfl, rfl, by decide +kernel, fun a => ⟨rfl, rfl⟩⟩
theorem fs_qX5_10 : fs_PF 5 10 RX5 := ⟨RX5, TX5, 12, (.array .int), rfl, rfl, rfl, by decide +kernel, fun a => ⟨rfl, rfl⟩⟩
theorem fs_qX5_11 : fs_PF 5 11 RX5 := ⟨RX5, TX5, 12, (.object "FieldSorter$Rules"), rfl, rfl, rfl, by decide +kernel, fun a => ⟨rfl, rfl⟩⟩
theorem fs_qX6_0 : fs_PF 6 0 RX6 := ⟨RX6, TX6, 9, (.object "FieldSorter$Rules"), rfl, rfl, rfl, by decide +kernel, fun a => ⟨rfl, rfl⟩⟩
theorem fs_qX6_1 : fs_PF 6 1 RX6 := ⟨RX6, TX6, 9, (.object "FieldSorter$Parts"), rfl, rfl, rfl, by decide +kernel, fun a => ⟨rfl, rfl⟩⟩
theorem fs_qX6_2 : fs_PF 6 2 RX6 := ⟨RX6, TX6, 9, (.object "FieldSorter$Survey"), rfl, rfl, rfl, by decide +kernel, fun a => ⟨rfl, rfl⟩⟩
theorem fs_qX6_3 : fs_PF 6 3 RX6 := ⟨RX6, TX6, 9, (.object "FieldSorter$Tuples"), rfl, rfl, rfl, by decide +kernel, fun a => ⟨rfl, rfl⟩⟩
theorem fs_qX6_4 : fs_PF 6 4 RX6 := ⟨RX6, TX6, 9, (.object "FieldSorter$Cutter"), rfl, rfl, rfl, by decide +kernel, fun a => ⟨rfl, rfl⟩⟩
theorem fs_qX6_5 : fs_PF 6 5 RX6 := ⟨RX6, TX6, 9, (.array (.object "FieldSorter$Image")), rfl, rfl, rfl, by decide +kernel, fun a => ⟨rfl, rfl⟩⟩
theorem fs_qX6_6 : fs_PF 6 6 RX6 := ⟨RX6, TX6, 9, (.array .int), rfl, rfl, rfl, by decide +kernel, fun a => ⟨rfl, rfl⟩⟩
theorem fs_qX6_7 : fs_PF 6 7 RX6 := ⟨RX6, TX6, 9, (.array .int), rfl, rfl, rfl, by decide +kernel, fun a => ⟨rfl, rfl⟩⟩
theorem fs_qX6_8 : fs_PF 6 8 RX6 := ⟨RX6, TX6, 9, (.array .int), rfl, rfl, rfl, by decide +kernel, fun a => ⟨rfl, rfl⟩⟩
theorem fs_qX7_1 : fs_PF 7 1 RX7 := ⟨RX7, TX7, 34, (.array .int), rfl, rfl, rfl, by decide +kernel, fun a => ⟨rfl, rfl⟩⟩
theorem fs_qX7_2 : fs_PF 7 2 RX7 := ⟨RX7, TX7, 34, (.array .int), rfl, rfl, rfl, by decide +kernel, fun a => ⟨rfl, rfl⟩⟩
theorem fs_qX7_3 : fs_PF 7 3 RX7 := ⟨RX7, TX7, 34, (.array .int), rfl, rfl, rfl, by decide +kernel, fun a => ⟨rfl, rfl⟩⟩
theorem fs_qX7_4 : fs_PF 7 4 RX7 := ⟨RX7, TX7, 34, (.array .int), rfl, rfl, rfl, by decide +kernel, fun a => ⟨rfl, rfl⟩⟩
theorem fs_qX7_11 : fs_PF 7 11 RX7 := ⟨RX7, TX7, 34, (.array .int), rfl, rfl, rfl, by decide +kernel, fun a => ⟨rfl, rfl⟩⟩
theorem fs_qX7_12 : fs_PF 7 12 RX7 := ⟨RX7, TX7, 34, (.array .int), rfl, rfl, rfl, by decide +kernel, fun a => ⟨rfl, rfl⟩⟩
theorem fs_qX7_13 : fs_PF 7 13 RX7 := ⟨RX7, TX7, 34, (.array .int), rfl, rfl, rfl, by decide +kernel, fun a => ⟨rfl, rfl⟩⟩
theorem fs_qX7_14 : fs_PF 7 14 RX7 := ⟨RX7, TX7, 34, (.array .int), rfl, rfl, rfl, by decide +kernel, fun a => ⟨rfl, rfl⟩⟩
theorem fs_qX7_15 : fs_PF 7 15 RX7 := ⟨RX7, TX7, 34, (.array .int), rfl, rfl, rfl, by decide +kernel, fun a => ⟨rfl, rfl⟩⟩
theorem fs_qX7_16 : fs_PF 7 16 RX7 := ⟨RX7, TX7, 34, (.array .int), rfl, rfl, rfl, by decide +kernel, fun a => ⟨rfl, rfl⟩⟩
theorem fs_qX7_17 : fs_PF 7 17 RX7 := ⟨RX7, TX7, 34, (.array .boolean), rfl, rfl, rfl, by decide +kernel, fun a => ⟨rfl, rfl⟩⟩
theorem fs_qX7_18 : fs_PF 7 18 RX7 := ⟨RX7, TX7, 34, (.array .int), rfl, rfl, rfl, by decide +kernel, fun a => ⟨rfl, rfl⟩⟩
theorem fs_qX7_19 : fs_PF 7 19 RX7 := ⟨RX7, TX7, 34, (.array .int), rfl, rfl, rfl, by decide +kernel, fun a => ⟨rfl, rfl⟩⟩
theorem fs_qX7_20 : fs_PF 7 20 RX7 := ⟨RX7, TX7, 34, (.array .int), rfl, rfl, rfl, by decide +kernel, fun a => ⟨rfl, rfl⟩⟩
theorem fs_qX7_21 : fs_PF 7 21 RX7 := ⟨RX7, TX7, 34, (.array .int), rfl, rfl, rfl, by decide +kernel, fun a => ⟨rfl, rfl⟩⟩
theorem fs_qX7_22 : fs_PF 7 22 RX7 := ⟨RX7, TX7, 34, (.array .int), rfl, rfl, rfl, by decide +kernel, fun a => ⟨rfl, rfl⟩⟩
theorem fs_qX7_24 : fs_PF 7 24 RX7 := ⟨RX7, TX7, 34, (.array .int), rfl, rfl, rfl, by decide +kernel, fun a => ⟨rfl, rfl⟩⟩
theorem fs_qX7_26 : fs_PF 7 26 RX7 := ⟨RX7, TX7, 34, (.array .int), rfl, rfl, rfl, by decide +kernel, fun a => ⟨rfl, rfl⟩⟩
theorem fs_qX7_27 : fs_PF 7 27 RX7 := ⟨RX7, TX7, 34, (.array .int), rfl, rfl, rfl, by decide +kernel, fun a => ⟨rfl, rfl⟩⟩
theorem fs_qX7_28 : fs_PF 7 28 RX7 := ⟨RX7, TX7, 34, (.array .int), rfl, rfl, rfl, by decide +kernel, fun a => ⟨rfl, rfl⟩⟩
theorem fs_qX7_29 : fs_PF 7 29 RX7 := ⟨RX7, TX7, 34, (.array .int), rfl, rfl, rfl, by decide +kernel, fun a => ⟨rfl, rfl⟩⟩
theorem fs_qX7_30 : fs_PF 7 30 RX7 := ⟨RX7, TX7, 34, (.array .int), rfl, rfl, rfl, by decide +kernel, fun a => ⟨rfl, rfl⟩⟩
theorem fs_qX7_31 : fs_PF 7 31 RX7 := ⟨RX7, TX7, 34, (.array .int), rfl, rfl, rfl, by decide +kernel, fun a => ⟨rfl, rfl⟩⟩
theorem fs_qX7_32 : fs_PF 7 32 RX7 := ⟨RX7, TX7, 34, (.array .int), rfl, rfl, rfl, by decide +kernel, fun a => ⟨rfl, rfl⟩⟩
theorem fs_qX7_33 : fs_PF 7 33 RX7 := ⟨RX7, TX7, 34, (.array .boolean), rfl, rfl, rfl, by decide +kernel, fun a => ⟨rfl, rfl⟩⟩
