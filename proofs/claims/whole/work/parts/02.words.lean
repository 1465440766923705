/-! our own tables: classes, methods, links: every word at its place in lw_tbl -/
abbrev xCl : List vw_C := [(RX0, TX0, 7), (RX1, TX1, 7), (RX2, TX2, 2), (RX3, TX3, 12), (RX4, TX4, 2), (RX5, TX5, 4), (RX6, TX6, 5), (RX7, TX7, 14), (RX8, TX8, 10), (RX9, TX9, 48)]
/-- name, code, locals, answer -/
abbrev xM : Type := MethodName × ByteArray × Nat × Option FieldType
def xT : List Cond := lw_tbl.filter goodWord
theorem xT_of {i : Nat} {w : Cond} (h : lw_tbl[i]? = some w) (hg : goodWord w = true) : w ∈ xT := List.mem_filter.mpr ⟨List.mem_of_getElem? h, hg⟩
theorem xT_good : ∀ w ∈ xT, w ∈ lw_tbl ∧ goodWord w = true := fun _ h => List.mem_filter.mp h
theorem lyX0_0 : u_lay RX0 TX0 0 ∈ xT := xT_of (i := 421) (by decide +kernel) (by decide +kernel)
theorem lyX0_1 : u_lay RX0 TX0 1 ∈ xT := xT_of (i := 423) (by decide +kernel) (by decide +kernel)
theorem lyX0_2 : u_lay RX0 TX0 2 ∈ xT := xT_of (i := 425) (by decide +kernel) (by decide +kernel)
theorem lyX0_3 : u_lay RX0 TX0 3 ∈ xT := xT_of (i := 427) (by decide +kernel) (by decide +kernel)
theorem lyX0_4 : u_lay RX0 TX0 4 ∈ xT := xT_of (i := 429) (by decide +kernel) (by decide +kernel)
theorem lyX0_5 : u_lay RX0 TX0 5 ∈ xT := xT_of (i := 431) (by decide +kernel) (by decide +kernel)
theorem lyX0_6 : u_lay RX0 TX0 6 ∈ xT := xT_of (i := 433) (by decide +kernel) (by decide +kernel)
theorem lyX0 : ∀ k, k < 7 → u_lay RX0 TX0 k ∈ xT
  | 0, _ => lyX0_0
  | 1, _ => lyX0_1
  | 2, _ => lyX0_2
  | 3, _ => lyX0_3
  | 4, _ => lyX0_4
  | 5, _ => lyX0_5
  | 6, _ => lyX0_6
  | n + 7, h => absurd h (by omega)
theorem wiX0 : ∀ w ∈ u_ws RX0 TX0 7, w ∈ xT := fun w h => by
  obtain ⟨k, hk, rfl⟩ := List.mem_map.mp h
  exact lyX0 k (List.mem_range.mp hk)
theorem isX0 : Cond.instantiable RX0 7 ∈ xT := xT_of (i := 402) (by decide +kernel) (by decide +kernel)
theorem ziX0 : Cond.initialized RX0 ∈ xT := xT_of (i := 40) (by decide +kernel) (by decide +kernel)
theorem lyX1_0 : u_lay RX1 TX1 0 ∈ xT := xT_of (i := 160) (by decide +kernel) (by decide +kernel)
theorem lyX1_1 : u_lay RX1 TX1 1 ∈ xT := xT_of (i := 162) (by decide +kernel) (by decide +kernel)
theorem lyX1_2 : u_lay RX1 TX1 2 ∈ xT := xT_of (i := 164) (by decide +kernel) (by decide +kernel)
theorem lyX1_3 : u_lay RX1 TX1 3 ∈ xT := xT_of (i := 166) (by decide +kernel) (by decide +kernel)
theorem lyX1_4 : u_lay RX1 TX1 4 ∈ xT := xT_of (i := 168) (by decide +kernel) (by decide +kernel)
theorem lyX1_5 : u_lay RX1 TX1 5 ∈ xT := xT_of (i := 170) (by decide +kernel) (by decide +kernel)
theorem lyX1_6 : u_lay RX1 TX1 6 ∈ xT := xT_of (i := 172) (by decide +kernel) (by decide +kernel)
theorem lyX1 : ∀ k, k < 7 → u_lay RX1 TX1 k ∈ xT
  | 0, _ => lyX1_0
  | 1, _ => lyX1_1
  | 2, _ => lyX1_2
  | 3, _ => lyX1_3
  | 4, _ => lyX1_4
  | 5, _ => lyX1_5
  | 6, _ => lyX1_6
  | n + 7, h => absurd h (by omega)
theorem wiX1 : ∀ w ∈ u_ws RX1 TX1 7, w ∈ xT := fun w h => by
  obtain ⟨k, hk, rfl⟩ := List.mem_map.mp h
  exact lyX1 k (List.mem_range.mp hk)
theorem isX1 : Cond.instantiable RX1 7 ∈ xT := xT_of (i := 142) (by decide +kernel) (by decide +kernel)
theorem ziX1 : Cond.initialized RX1 ∈ xT := xT_of (i := 35) (by decide +kernel) (by decide +kernel)
theorem lyX2_0 : u_lay RX2 TX2 0 ∈ xT := xT_of (i := 66) (by decide +kernel) (by decide +kernel)
theorem lyX2_1 : u_lay RX2 TX2 1 ∈ xT := xT_of (i := 68) (by decide +kernel) (by decide +kernel)
theorem lyX2 : ∀ k, k < 2 → u_lay RX2 TX2 k ∈ xT
  | 0, _ => lyX2_0
  | 1, _ => lyX2_1
  | n + 2, h => absurd h (by omega)
theorem wiX2 : ∀ w ∈ u_ws RX2 TX2 2, w ∈ xT := fun w h => by
  obtain ⟨k, hk, rfl⟩ := List.mem_map.mp h
  exact lyX2 k (List.mem_range.mp hk)
theorem isX2 : Cond.instantiable RX2 2 ∈ xT := xT_of (i := 57) (by decide +kernel) (by decide +kernel)
theorem ziX2 : Cond.initialized RX2 ∈ xT := xT_of (i := 31) (by decide +kernel) (by decide +kernel)
theorem lyX3_0 : u_lay RX3 TX3 0 ∈ xT := xT_of (i := 240) (by decide +kernel) (by decide +kernel)
theorem lyX3_1 : u_lay RX3 TX3 1 ∈ xT := xT_of (i := 242) (by decide +kernel) (by decide +kernel)
theorem lyX3_2 : u_lay RX3 TX3 2 ∈ xT := xT_of (i := 244) (by decide +kernel) (by decide +kernel)
theorem lyX3_3 : u_lay RX3 TX3 3 ∈ xT := xT_of (i := 246) (by decide +kernel) (by decide +kernel)
theorem lyX3_4 : u_lay RX3 TX3 4 ∈ xT := xT_of (i := 248) (by decide +kernel) (by decide +kernel)
theorem lyX3_5 : u_lay RX3 TX3 5 ∈ xT := xT_of (i := 250) (by decide +kernel) (by decide +kernel)
theorem lyX3_6 : u_lay RX3 TX3 6 ∈ xT := xT_of (i := 252) (by decide +kernel) (by decide +kernel)
theorem lyX3_7 : u_lay RX3 TX3 7 ∈ xT := xT_of (i := 254) (by decide +kernel) (by decide +kernel)
theorem lyX3_8 : u_lay RX3 TX3 8 ∈ xT := xT_of (i := 256) (by decide +kernel) (by decide +kernel)
theorem lyX3_9 : u_lay RX3 TX3 9 ∈ xT := xT_of (i := 258) (by decide +kernel) (by decide +kernel)
theorem lyX3_10 : u_lay RX3 TX3 10 ∈ xT := xT_of (i := 260) (by decide +kernel) (by decide +kernel)
theorem lyX3_11 : u_lay RX3 TX3 11 ∈ xT := xT_of (i := 262) (by decide +kernel) (by decide +kernel)
theorem lyX3 : ∀ k, k < 12 → u_lay RX3 TX3 k ∈ xT
  | 0, _ => lyX3_0
  | 1, _ => lyX3_1
  | 2, _ => lyX3_2
  | 3, _ => lyX3_3
  | 4, _ => lyX3_4
  | 5, _ => lyX3_5
  | 6, _ => lyX3_6
  | 7, _ => lyX3_7
  | 8, _ => lyX3_8
  | 9, _ => lyX3_9
  | 10, _ => lyX3_10
  | 11, _ => lyX3_11
  | n + 12, h => absurd h (by omega)
theorem wiX3 : ∀ w ∈ u_ws RX3 TX3 12, w ∈ xT := fun w h => by
  obtain ⟨k, hk, rfl⟩ := List.mem_map.mp h
  exact lyX3 k (List.mem_range.mp hk)
theorem isX3 : Cond.instantiable RX3 12 ∈ xT := xT_of (i := 134) (by decide +kernel) (by decide +kernel)
theorem ziX3 : Cond.initialized RX3 ∈ xT := xT_of (i := 34) (by decide +kernel) (by decide +kernel)
theorem lyX4_0 : u_lay RX4 TX4 0 ∈ xT := xT_of (i := 190) (by decide +kernel) (by decide +kernel)
theorem lyX4_1 : u_lay RX4 TX4 1 ∈ xT := xT_of (i := 192) (by decide +kernel) (by decide +kernel)
theorem lyX4 : ∀ k, k < 2 → u_lay RX4 TX4 k ∈ xT
  | 0, _ => lyX4_0
  | 1, _ => lyX4_1
  | n + 2, h => absurd h (by omega)
theorem wiX4 : ∀ w ∈ u_ws RX4 TX4 2, w ∈ xT := fun w h => by
  obtain ⟨k, hk, rfl⟩ := List.mem_map.mp h
  exact lyX4 k (List.mem_range.mp hk)
theorem isX4 : Cond.instantiable RX4 2 ∈ xT := xT_of (i := 180) (by decide +kernel) (by decide +kernel)
theorem ziX4 : Cond.initialized RX4 ∈ xT := xT_of (i := 37) (by decide +kernel) (by decide +kernel)
theorem lyX5_0 : u_lay RX5 TX5 0 ∈ xT := xT_of (i := 87) (by decide +kernel) (by decide +kernel)
theorem lyX5_1 : u_lay RX5 TX5 1 ∈ xT := xT_of (i := 89) (by decide +kernel) (by decide +kernel)
theorem lyX5_2 : u_lay RX5 TX5 2 ∈ xT := xT_of (i := 91) (by decide +kernel) (by decide +kernel)
theorem lyX5_3 : u_lay RX5 TX5 3 ∈ xT := xT_of (i := 93) (by decide +kernel) (by decide +kernel)
theorem lyX5 : ∀ k, k < 4 → u_lay RX5 TX5 k ∈ xT
  | 0, _ => lyX5_0
  | 1, _ => lyX5_1
  | 2, _ => lyX5_2
  | 3, _ => lyX5_3
  | n + 4, h => absurd h (by omega)
theorem wiX5 : ∀ w ∈ u_ws RX5 TX5 4, w ∈ xT := fun w h => by
  obtain ⟨k, hk, rfl⟩ := List.mem_map.mp h
  exact lyX5 k (List.mem_range.mp hk)
theorem isX5 : Cond.instantiable RX5 4 ∈ xT := xT_of (i := 74) (by decide +kernel) (by decide +kernel)
theorem ziX5 : Cond.initialized RX5 ∈ xT := xT_of (i := 32) (by decide +kernel) (by decide +kernel)
theorem lyX6_0 : u_lay RX6 TX6 0 ∈ xT := xT_of (i := 207) (by decide +kernel) (by decide +kernel)
theorem lyX6_1 : u_lay RX6 TX6 1 ∈ xT := xT_of (i := 209) (by decide +kernel) (by decide +kernel)
theorem lyX6_2 : u_lay RX6 TX6 2 ∈ xT := xT_of (i := 211) (by decide +kernel) (by decide +kernel)
theorem lyX6_3 : u_lay RX6 TX6 3 ∈ xT := xT_of (i := 213) (by decide +kernel) (by decide +kernel)
theorem lyX6_4 : u_lay RX6 TX6 4 ∈ xT := xT_of (i := 215) (by decide +kernel) (by decide +kernel)
theorem lyX6 : ∀ k, k < 5 → u_lay RX6 TX6 k ∈ xT
  | 0, _ => lyX6_0
  | 1, _ => lyX6_1
  | 2, _ => lyX6_2
  | 3, _ => lyX6_3
  | 4, _ => lyX6_4
  | n + 5, h => absurd h (by omega)
theorem wiX6 : ∀ w ∈ u_ws RX6 TX6 5, w ∈ xT := fun w h => by
  obtain ⟨k, hk, rfl⟩ := List.mem_map.mp h
  exact lyX6 k (List.mem_range.mp hk)
theorem isX6 : Cond.instantiable RX6 5 ∈ xT := xT_of (i := 195) (by decide +kernel) (by decide +kernel)
theorem ziX6 : Cond.initialized RX6 ∈ xT := xT_of (i := 38) (by decide +kernel) (by decide +kernel)
theorem lyX7_0 : u_lay RX7 TX7 0 ∈ xT := xT_of (i := 365) (by decide +kernel) (by decide +kernel)
theorem lyX7_1 : u_lay RX7 TX7 1 ∈ xT := xT_of (i := 367) (by decide +kernel) (by decide +kernel)
theorem lyX7_2 : u_lay RX7 TX7 2 ∈ xT := xT_of (i := 369) (by decide +kernel) (by decide +kernel)
theorem lyX7_3 : u_lay RX7 TX7 3 ∈ xT := xT_of (i := 371) (by decide +kernel) (by decide +kernel)
theorem lyX7_4 : u_lay RX7 TX7 4 ∈ xT := xT_of (i := 373) (by decide +kernel) (by decide +kernel)
theorem lyX7_5 : u_lay RX7 TX7 5 ∈ xT := xT_of (i := 375) (by decide +kernel) (by decide +kernel)
theorem lyX7_6 : u_lay RX7 TX7 6 ∈ xT := xT_of (i := 377) (by decide +kernel) (by decide +kernel)
theorem lyX7_7 : u_lay RX7 TX7 7 ∈ xT := xT_of (i := 379) (by decide +kernel) (by decide +kernel)
theorem lyX7_8 : u_lay RX7 TX7 8 ∈ xT := xT_of (i := 381) (by decide +kernel) (by decide +kernel)
theorem lyX7_9 : u_lay RX7 TX7 9 ∈ xT := xT_of (i := 383) (by decide +kernel) (by decide +kernel)
theorem lyX7_10 : u_lay RX7 TX7 10 ∈ xT := xT_of (i := 385) (by decide +kernel) (by decide +kernel)
theorem lyX7_11 : u_lay RX7 TX7 11 ∈ xT := xT_of (i := 387) (by decide +kernel) (by decide +kernel)
theorem lyX7_12 : u_lay RX7 TX7 12 ∈ xT := xT_of (i := 389) (by decide +kernel) (by decide +kernel)
theorem lyX7_13 : u_lay RX7 TX7 13 ∈ xT := xT_of (i := 391) (by decide +kernel) (by decide +kernel)
theorem lyX7 : ∀ k, k < 14 → u_lay RX7 TX7 k ∈ xT
  | 0, _ => lyX7_0
  | 1, _ => lyX7_1
  | 2, _ => lyX7_2
  | 3, _ => lyX7_3
  | 4, _ => lyX7_4
  | 5, _ => lyX7_5
  | 6, _ => lyX7_6
  | 7, _ => lyX7_7
  | 8, _ => lyX7_8
  | 9, _ => lyX7_9
  | 10, _ => lyX7_10
  | 11, _ => lyX7_11
  | 12, _ => lyX7_12
  | 13, _ => lyX7_13
  | n + 14, h => absurd h (by omega)
theorem wiX7 : ∀ w ∈ u_ws RX7 TX7 14, w ∈ xT := fun w h => by
  obtain ⟨k, hk, rfl⟩ := List.mem_map.mp h
  exact lyX7 k (List.mem_range.mp hk)
theorem isX7 : Cond.instantiable RX7 14 ∈ xT := xT_of (i := 337) (by decide +kernel) (by decide +kernel)
theorem ziX7 : Cond.initialized RX7 ∈ xT := xT_of (i := 39) (by decide +kernel) (by decide +kernel)
theorem lyX8_0 : u_lay RX8 TX8 0 ∈ xT := xT_of (i := 106) (by decide +kernel) (by decide +kernel)
theorem lyX8_1 : u_lay RX8 TX8 1 ∈ xT := xT_of (i := 108) (by decide +kernel) (by decide +kernel)
theorem lyX8_2 : u_lay RX8 TX8 2 ∈ xT := xT_of (i := 110) (by decide +kernel) (by decide +kernel)
theorem lyX8_3 : u_lay RX8 TX8 3 ∈ xT := xT_of (i := 112) (by decide +kernel) (by decide +kernel)
theorem lyX8_4 : u_lay RX8 TX8 4 ∈ xT := xT_of (i := 114) (by decide +kernel) (by decide +kernel)
theorem lyX8_5 : u_lay RX8 TX8 5 ∈ xT := xT_of (i := 116) (by decide +kernel) (by decide +kernel)
theorem lyX8_6 : u_lay RX8 TX8 6 ∈ xT := xT_of (i := 118) (by decide +kernel) (by decide +kernel)
theorem lyX8_7 : u_lay RX8 TX8 7 ∈ xT := xT_of (i := 120) (by decide +kernel) (by decide +kernel)
theorem lyX8_8 : u_lay RX8 TX8 8 ∈ xT := xT_of (i := 122) (by decide +kernel) (by decide +kernel)
theorem lyX8_9 : u_lay RX8 TX8 9 ∈ xT := xT_of (i := 124) (by decide +kernel) (by decide +kernel)
theorem lyX8 : ∀ k, k < 10 → u_lay RX8 TX8 k ∈ xT
  | 0, _ => lyX8_0
  | 1, _ => lyX8_1
  | 2, _ => lyX8_2
  | 3, _ => lyX8_3
  | 4, _ => lyX8_4
  | 5, _ => lyX8_5
  | 6, _ => lyX8_6
  | 7, _ => lyX8_7
  | 8, _ => lyX8_8
  | 9, _ => lyX8_9
  | n + 10, h => absurd h (by omega)
theorem wiX8 : ∀ w ∈ u_ws RX8 TX8 10, w ∈ xT := fun w h => by
  obtain ⟨k, hk, rfl⟩ := List.mem_map.mp h
  exact lyX8 k (List.mem_range.mp hk)
theorem isX8 : Cond.instantiable RX8 10 ∈ xT := xT_of (i := 43) (by decide +kernel) (by decide +kernel)
theorem ziX8 : Cond.initialized RX8 ∈ xT := xT_of (i := 30) (by decide +kernel) (by decide +kernel)
theorem lyX9_0 : u_lay RX9 TX9 0 ∈ xT := xT_of (i := 750) (by decide +kernel) (by decide +kernel)
theorem lyX9_1 : u_lay RX9 TX9 1 ∈ xT := xT_of (i := 752) (by decide +kernel) (by decide +kernel)
theorem lyX9_2 : u_lay RX9 TX9 2 ∈ xT := xT_of (i := 754) (by decide +kernel) (by decide +kernel)
theorem lyX9_3 : u_lay RX9 TX9 3 ∈ xT := xT_of (i := 756) (by decide +kernel) (by decide +kernel)
theorem lyX9_4 : u_lay RX9 TX9 4 ∈ xT := xT_of (i := 758) (by decide +kernel) (by decide +kernel)
theorem lyX9_5 : u_lay RX9 TX9 5 ∈ xT := xT_of (i := 760) (by decide +kernel) (by decide +kernel)
theorem lyX9_6 : u_lay RX9 TX9 6 ∈ xT := xT_of (i := 762) (by decide +kernel) (by decide +kernel)
theorem lyX9_7 : u_lay RX9 TX9 7 ∈ xT := xT_of (i := 764) (by decide +kernel) (by decide +kernel)
theorem lyX9_8 : u_lay RX9 TX9 8 ∈ xT := xT_of (i := 766) (by decide +kernel) (by decide +kernel)
theorem lyX9_9 : u_lay RX9 TX9 9 ∈ xT := xT_of (i := 768) (by decide +kernel) (by decide +kernel)
theorem lyX9_10 : u_lay RX9 TX9 10 ∈ xT := xT_of (i := 770) (by decide +kernel) (by decide +kernel)
theorem lyX9_11 : u_lay RX9 TX9 11 ∈ xT := xT_of (i := 772) (by decide +kernel) (by decide +kernel)
theorem lyX9_12 : u_lay RX9 TX9 12 ∈ xT := xT_of (i := 774) (by decide +kernel) (by decide +kernel)
theorem lyX9_13 : u_lay RX9 TX9 13 ∈ xT := xT_of (i := 776) (by decide +kernel) (by decide +kernel)
theorem lyX9_14 : u_lay RX9 TX9 14 ∈ xT := xT_of (i := 778) (by decide +kernel) (by decide +kernel)
theorem lyX9_15 : u_lay RX9 TX9 15 ∈ xT := xT_of (i := 780) (by decide +kernel) (by decide +kernel)
theorem lyX9_16 : u_lay RX9 TX9 16 ∈ xT := xT_of (i := 782) (by decide +kernel) (by decide +kernel)
theorem lyX9_17 : u_lay RX9 TX9 17 ∈ xT := xT_of (i := 784) (by decide +kernel) (by decide +kernel)
theorem lyX9_18 : u_lay RX9 TX9 18 ∈ xT := xT_of (i := 786) (by decide +kernel) (by decide +kernel)
theorem lyX9_19 : u_lay RX9 TX9 19 ∈ xT := xT_of (i := 788) (by decide +kernel) (by decide +kernel)
theorem lyX9_20 : u_lay RX9 TX9 20 ∈ xT := xT_of (i := 790) (by decide +kernel) (by decide +kernel)
theorem lyX9_21 : u_lay RX9 TX9 21 ∈ xT := xT_of (i := 792) (by decide +kernel) (by decide +kernel)
theorem lyX9_22 : u_lay RX9 TX9 22 ∈ xT := xT_of (i := 794) (by decide +kernel) (by decide +kernel)
theorem lyX9_23 : u_lay RX9 TX9 23 ∈ xT := xT_of (i := 796) (by decide +kernel) (by decide +kernel)
theorem lyX9_24 : u_lay RX9 TX9 24 ∈ xT := xT_of (i := 798) (by decide +kernel) (by decide +kernel)
theorem lyX9_25 : u_lay RX9 TX9 25 ∈ xT := xT_of (i := 800) (by decide +kernel) (by decide +kernel)
theorem lyX9_26 : u_lay RX9 TX9 26 ∈ xT := xT_of (i := 802) (by decide +kernel) (by decide +kernel)
theorem lyX9_27 : u_lay RX9 TX9 27 ∈ xT := xT_of (i := 804) (by decide +kernel) (by decide +kernel)
theorem lyX9_28 : u_lay RX9 TX9 28 ∈ xT := xT_of (i := 806) (by decide +kernel) (by decide +kernel)
theorem lyX9_29 : u_lay RX9 TX9 29 ∈ xT := xT_of (i := 808) (by decide +kernel) (by decide +kernel)
theorem lyX9_30 : u_lay RX9 TX9 30 ∈ xT := xT_of (i := 810) (by decide +kernel) (by decide +kernel)
theorem lyX9_31 : u_lay RX9 TX9 31 ∈ xT := xT_of (i := 812) (by decide +kernel) (by decide +kernel)
theorem lyX9_32 : u_lay RX9 TX9 32 ∈ xT := xT_of (i := 814) (by decide +kernel) (by decide +kernel)
theorem lyX9_33 : u_lay RX9 TX9 33 ∈ xT := xT_of (i := 816) (by decide +kernel) (by decide +kernel)
theorem lyX9_34 : u_lay RX9 TX9 34 ∈ xT := xT_of (i := 818) (by decide +kernel) (by decide +kernel)
theorem lyX9_35 : u_lay RX9 TX9 35 ∈ xT := xT_of (i := 820) (by decide +kernel) (by decide +kernel)
theorem lyX9_36 : u_lay RX9 TX9 36 ∈ xT := xT_of (i := 822) (by decide +kernel) (by decide +kernel)
theorem lyX9_37 : u_lay RX9 TX9 37 ∈ xT := xT_of (i := 824) (by decide +kernel) (by decide +kernel)
theorem lyX9_38 : u_lay RX9 TX9 38 ∈ xT := xT_of (i := 826) (by decide +kernel) (by decide +kernel)
theorem lyX9_39 : u_lay RX9 TX9 39 ∈ xT := xT_of (i := 828) (by decide +kernel) (by decide +kernel)
theorem lyX9_40 : u_lay RX9 TX9 40 ∈ xT := xT_of (i := 830) (by decide +kernel) (by decide +kernel)
theorem lyX9_41 : u_lay RX9 TX9 41 ∈ xT := xT_of (i := 832) (by decide +kernel) (by decide +kernel)
theorem lyX9_42 : u_lay RX9 TX9 42 ∈ xT := xT_of (i := 834) (by decide +kernel) (by decide +kernel)
theorem lyX9_43 : u_lay RX9 TX9 43 ∈ xT := xT_of (i := 836) (by decide +kernel) (by decide +kernel)
theorem lyX9_44 : u_lay RX9 TX9 44 ∈ xT := xT_of (i := 838) (by decide +kernel) (by decide +kernel)
theorem lyX9_45 : u_lay RX9 TX9 45 ∈ xT := xT_of (i := 840) (by decide +kernel) (by decide +kernel)
theorem lyX9_46 : u_lay RX9 TX9 46 ∈ xT := xT_of (i := 842) (by decide +kernel) (by decide +kernel)
theorem lyX9_47 : u_lay RX9 TX9 47 ∈ xT := xT_of (i := 844) (by decide +kernel) (by decide +kernel)
theorem lyX9 : ∀ k, k < 48 → u_lay RX9 TX9 k ∈ xT
  | 0, _ => lyX9_0
  | 1, _ => lyX9_1
  | 2, _ => lyX9_2
  | 3, _ => lyX9_3
  | 4, _ => lyX9_4
  | 5, _ => lyX9_5
  | 6, _ => lyX9_6
  | 7, _ => lyX9_7
  | 8, _ => lyX9_8
  | 9, _ => lyX9_9
  | 10, _ => lyX9_10
  | 11, _ => lyX9_11
  | 12, _ => lyX9_12
  | 13, _ => lyX9_13
  | 14, _ => lyX9_14
  | 15, _ => lyX9_15
  | 16, _ => lyX9_16
  | 17, _ => lyX9_17
  | 18, _ => lyX9_18
  | 19, _ => lyX9_19
  | 20, _ => lyX9_20
  | 21, _ => lyX9_21
  | 22, _ => lyX9_22
  | 23, _ => lyX9_23
  | 24, _ => lyX9_24
  | 25, _ => lyX9_25
  | 26, _ => lyX9_26
  | 27, _ => lyX9_27
  | 28, _ => lyX9_28
  | 29, _ => lyX9_29
  | 30, _ => lyX9_30
  | 31, _ => lyX9_31
  | 32, _ => lyX9_32
  | 33, _ => lyX9_33
  | 34, _ => lyX9_34
  | 35, _ => lyX9_35
  | 36, _ => lyX9_36
  | 37, _ => lyX9_37
  | 38, _ => lyX9_38
  | 39, _ => lyX9_39
  | 40, _ => lyX9_40
  | 41, _ => lyX9_41
  | 42, _ => lyX9_42
  | 43, _ => lyX9_43
  | 44, _ => lyX9_44
  | 45, _ => lyX9_45
  | 46, _ => lyX9_46
  | 47, _ => lyX9_47
  | n + 48, h => absurd h (by omega)
theorem wiX9 : ∀ w ∈ u_ws RX9 TX9 48, w ∈ xT := fun w h => by
  obtain ⟨k, hk, rfl⟩ := List.mem_map.mp h
  exact lyX9 k (List.mem_range.mp hk)
theorem isX9 : Cond.instantiable RX9 48 ∈ xT := xT_of (i := 697) (by decide +kernel) (by decide +kernel)
theorem ziX9 : Cond.initialized RX9 ∈ xT := xT_of (i := 33) (by decide +kernel) (by decide +kernel)
def xFL (own : String) (idx ci k : Nat) (fin : Bool) (ty : FieldType) : Prop := ∃ (C : String) (T : u_T) (N : Nat), xCl[ci]? = some (C, T, N) ∧ k < N ∧ Cond.fieldLink own idx C (T k).2.1 (T k).2.2.1 ∈ xT ∧ (T k).1 = C ∧ (T k).2.2.2 = fin ∧ parseFieldDescriptor (T k).2.2.1 = some ty
theorem fX2_9 : xFL RX2 9 2 0 true (.array .int) := ⟨RX2, TX2, 2, rfl, by decide, xT_of (i := 62) (by decide +kernel) (by decide +kernel), rfl, rfl, by decide +kernel⟩
theorem fX8_255 : xFL RX8 255 2 0 true (.array .int) := ⟨RX2, TX2, 2, rfl, by decide, xT_of (i := 63) (by decide +kernel) (by decide +kernel), rfl, rfl, by decide +kernel⟩
theorem fX2_15 : xFL RX2 15 2 1 true (.array .boolean) := ⟨RX2, TX2, 2, rfl, by decide, xT_of (i := 64) (by decide +kernel) (by decide +kernel), rfl, rfl, by decide +kernel⟩
theorem fX8_251 : xFL RX8 251 2 1 true (.array .boolean) := ⟨RX2, TX2, 2, rfl, by decide, xT_of (i := 65) (by decide +kernel) (by decide +kernel), rfl, rfl, by decide +kernel⟩
theorem fX5_9 : xFL RX5 9 5 0 true (.array .int) := ⟨RX5, TX5, 4, rfl, by decide, xT_of (i := 79) (by decide +kernel) (by decide +kernel), rfl, rfl, by decide +kernel⟩
theorem fX8_283 : xFL RX8 283 5 0 true (.array .int) := ⟨RX5, TX5, 4, rfl, by decide, xT_of (i := 80) (by decide +kernel) (by decide +kernel), rfl, rfl, by decide +kernel⟩
theorem fX5_15 : xFL RX5 15 5 1 true (.array .boolean) := ⟨RX5, TX5, 4, rfl, by decide, xT_of (i := 81) (by decide +kernel) (by decide +kernel), rfl, rfl, by decide +kernel⟩
theorem fX8_299 : xFL RX8 299 5 1 true (.array .boolean) := ⟨RX5, TX5, 4, rfl, by decide, xT_of (i := 82) (by decide +kernel) (by decide +kernel), rfl, rfl, by decide +kernel⟩
theorem fX5_19 : xFL RX5 19 5 2 false (.boolean) := ⟨RX5, TX5, 4, rfl, by decide, xT_of (i := 83) (by decide +kernel) (by decide +kernel), rfl, rfl, by decide +kernel⟩
theorem fX8_293 : xFL RX8 293 5 2 false (.boolean) := ⟨RX5, TX5, 4, rfl, by decide, xT_of (i := 84) (by decide +kernel) (by decide +kernel), rfl, rfl, by decide +kernel⟩
theorem fX5_23 : xFL RX5 23 5 3 false (.int) := ⟨RX5, TX5, 4, rfl, by decide, xT_of (i := 85) (by decide +kernel) (by decide +kernel), rfl, rfl, by decide +kernel⟩
theorem fX8_296 : xFL RX8 296 5 3 false (.int) := ⟨RX5, TX5, 4, rfl, by decide, xT_of (i := 86) (by decide +kernel) (by decide +kernel), rfl, rfl, by decide +kernel⟩
theorem fX8_11 : xFL RX8 11 8 0 true (.array (.object "BathHouse$Pool")) := ⟨RX8, TX8, 10, rfl, by decide, xT_of (i := 96) (by decide +kernel) (by decide +kernel), rfl, rfl, by decide +kernel⟩
theorem fX8_17 : xFL RX8 17 8 1 true (.array (.object "BathHouse$Ticket")) := ⟨RX8, TX8, 10, rfl, by decide, xT_of (i := 97) (by decide +kernel) (by decide +kernel), rfl, rfl, by decide +kernel⟩
theorem fX8_23 : xFL RX8 23 8 2 true (.array (.object "BathHouse$Club")) := ⟨RX8, TX8, 10, rfl, by decide, xT_of (i := 98) (by decide +kernel) (by decide +kernel), rfl, rfl, by decide +kernel⟩
theorem fX8_30 : xFL RX8 30 8 3 true (.object "BathHouse$Lockers") := ⟨RX8, TX8, 10, rfl, by decide, xT_of (i := 99) (by decide +kernel) (by decide +kernel), rfl, rfl, by decide +kernel⟩
theorem fX8_37 : xFL RX8 37 8 4 true (.object "BathHouse$PumpHours") := ⟨RX8, TX8, 10, rfl, by decide, xT_of (i := 100) (by decide +kernel) (by decide +kernel), rfl, rfl, by decide +kernel⟩
theorem fX8_45 : xFL RX8 45 8 5 false (.int) := ⟨RX8, TX8, 10, rfl, by decide, xT_of (i := 101) (by decide +kernel) (by decide +kernel), rfl, rfl, by decide +kernel⟩
theorem fX8_62 : xFL RX8 62 8 6 false (.int) := ⟨RX8, TX8, 10, rfl, by decide, xT_of (i := 102) (by decide +kernel) (by decide +kernel), rfl, rfl, by decide +kernel⟩
theorem fX8_80 : xFL RX8 80 8 7 false (.int) := ⟨RX8, TX8, 10, rfl, by decide, xT_of (i := 103) (by decide +kernel) (by decide +kernel), rfl, rfl, by decide +kernel⟩
theorem fX8_41 : xFL RX8 41 8 8 false (.int) := ⟨RX8, TX8, 10, rfl, by decide, xT_of (i := 104) (by decide +kernel) (by decide +kernel), rfl, rfl, by decide +kernel⟩
theorem fX8_133 : xFL RX8 133 8 9 false (.int) := ⟨RX8, TX8, 10, rfl, by decide, xT_of (i := 105) (by decide +kernel) (by decide +kernel), rfl, rfl, by decide +kernel⟩
theorem fX1_9 : xFL RX1 9 1 0 false (.boolean) := ⟨RX1, TX1, 7, rfl, by decide, xT_of (i := 147) (by decide +kernel) (by decide +kernel), rfl, rfl, by decide +kernel⟩
theorem fX8_149 : xFL RX8 149 1 0 false (.boolean) := ⟨RX1, TX1, 7, rfl, by decide, xT_of (i := 148) (by decide +kernel) (by decide +kernel), rfl, rfl, by decide +kernel⟩
theorem fX1_15 : xFL RX1 15 1 1 false (.boolean) := ⟨RX1, TX1, 7, rfl, by decide, xT_of (i := 149) (by decide +kernel) (by decide +kernel), rfl, rfl, by decide +kernel⟩
theorem fX1_18 : xFL RX1 18 1 2 false (.int) := ⟨RX1, TX1, 7, rfl, by decide, xT_of (i := 150) (by decide +kernel) (by decide +kernel), rfl, rfl, by decide +kernel⟩
theorem fX1_31 : xFL RX1 31 1 3 false (.int) := ⟨RX1, TX1, 7, rfl, by decide, xT_of (i := 151) (by decide +kernel) (by decide +kernel), rfl, rfl, by decide +kernel⟩
theorem fX1_22 : xFL RX1 22 1 4 false (.int) := ⟨RX1, TX1, 7, rfl, by decide, xT_of (i := 152) (by decide +kernel) (by decide +kernel), rfl, rfl, by decide +kernel⟩
theorem fX3_62 : xFL RX3 62 1 4 false (.int) := ⟨RX1, TX1, 7, rfl, by decide, xT_of (i := 153) (by decide +kernel) (by decide +kernel), rfl, rfl, by decide +kernel⟩
theorem fX3_59 : xFL RX3 59 1 5 false (.int) := ⟨RX1, TX1, 7, rfl, by decide, xT_of (i := 154) (by decide +kernel) (by decide +kernel), rfl, rfl, by decide +kernel⟩
theorem fX1_45 : xFL RX1 45 1 5 false (.int) := ⟨RX1, TX1, 7, rfl, by decide, xT_of (i := 155) (by decide +kernel) (by decide +kernel), rfl, rfl, by decide +kernel⟩
theorem fX8_346 : xFL RX8 346 1 5 false (.int) := ⟨RX1, TX1, 7, rfl, by decide, xT_of (i := 156) (by decide +kernel) (by decide +kernel), rfl, rfl, by decide +kernel⟩
theorem fX3_65 : xFL RX3 65 1 6 false (.int) := ⟨RX1, TX1, 7, rfl, by decide, xT_of (i := 157) (by decide +kernel) (by decide +kernel), rfl, rfl, by decide +kernel⟩
theorem fX1_48 : xFL RX1 48 1 6 false (.int) := ⟨RX1, TX1, 7, rfl, by decide, xT_of (i := 158) (by decide +kernel) (by decide +kernel), rfl, rfl, by decide +kernel⟩
theorem fX8_124 : xFL RX8 124 1 6 false (.int) := ⟨RX1, TX1, 7, rfl, by decide, xT_of (i := 159) (by decide +kernel) (by decide +kernel), rfl, rfl, by decide +kernel⟩
theorem fX4_9 : xFL RX4 9 4 0 false (.object "BathHouse$Ticket") := ⟨RX4, TX4, 2, rfl, by decide, xT_of (i := 185) (by decide +kernel) (by decide +kernel), rfl, rfl, by decide +kernel⟩
theorem fX7_88 : xFL RX7 88 4 0 false (.object "BathHouse$Ticket") := ⟨RX4, TX4, 2, rfl, by decide, xT_of (i := 186) (by decide +kernel) (by decide +kernel), rfl, rfl, by decide +kernel⟩
theorem fX8_226 : xFL RX8 226 4 0 false (.object "BathHouse$Ticket") := ⟨RX4, TX4, 2, rfl, by decide, xT_of (i := 187) (by decide +kernel) (by decide +kernel), rfl, rfl, by decide +kernel⟩
theorem fX4_15 : xFL RX4 15 4 1 false (.int) := ⟨RX4, TX4, 2, rfl, by decide, xT_of (i := 188) (by decide +kernel) (by decide +kernel), rfl, rfl, by decide +kernel⟩
theorem fX7_94 : xFL RX7 94 4 1 false (.int) := ⟨RX4, TX4, 2, rfl, by decide, xT_of (i := 189) (by decide +kernel) (by decide +kernel), rfl, rfl, by decide +kernel⟩
theorem fX6_9 : xFL RX6 9 6 0 false (.int) := ⟨RX6, TX6, 5, rfl, by decide, xT_of (i := 200) (by decide +kernel) (by decide +kernel), rfl, rfl, by decide +kernel⟩
theorem fX8_188 : xFL RX8 188 6 0 false (.int) := ⟨RX6, TX6, 5, rfl, by decide, xT_of (i := 201) (by decide +kernel) (by decide +kernel), rfl, rfl, by decide +kernel⟩
theorem fX6_15 : xFL RX6 15 6 1 false (.int) := ⟨RX6, TX6, 5, rfl, by decide, xT_of (i := 202) (by decide +kernel) (by decide +kernel), rfl, rfl, by decide +kernel⟩
theorem fX8_193 : xFL RX8 193 6 1 false (.int) := ⟨RX6, TX6, 5, rfl, by decide, xT_of (i := 203) (by decide +kernel) (by decide +kernel), rfl, rfl, by decide +kernel⟩
theorem fX6_18 : xFL RX6 18 6 2 false (.int) := ⟨RX6, TX6, 5, rfl, by decide, xT_of (i := 204) (by decide +kernel) (by decide +kernel), rfl, rfl, by decide +kernel⟩
theorem fX6_21 : xFL RX6 21 6 3 false (.int) := ⟨RX6, TX6, 5, rfl, by decide, xT_of (i := 205) (by decide +kernel) (by decide +kernel), rfl, rfl, by decide +kernel⟩
theorem fX6_24 : xFL RX6 24 6 4 false (.boolean) := ⟨RX6, TX6, 5, rfl, by decide, xT_of (i := 206) (by decide +kernel) (by decide +kernel), rfl, rfl, by decide +kernel⟩
theorem fX3_24 : xFL RX3 24 3 0 true (.int) := ⟨RX3, TX3, 12, rfl, by decide, xT_of (i := 218) (by decide +kernel) (by decide +kernel), rfl, rfl, by decide +kernel⟩
theorem fX8_259 : xFL RX8 259 3 0 true (.int) := ⟨RX3, TX3, 12, rfl, by decide, xT_of (i := 219) (by decide +kernel) (by decide +kernel), rfl, rfl, by decide +kernel⟩
theorem fX3_28 : xFL RX3 28 3 1 true (.int) := ⟨RX3, TX3, 12, rfl, by decide, xT_of (i := 220) (by decide +kernel) (by decide +kernel), rfl, rfl, by decide +kernel⟩
theorem fX8_172 : xFL RX8 172 3 1 true (.int) := ⟨RX3, TX3, 12, rfl, by decide, xT_of (i := 221) (by decide +kernel) (by decide +kernel), rfl, rfl, by decide +kernel⟩
theorem fX3_31 : xFL RX3 31 3 2 true (.int) := ⟨RX3, TX3, 12, rfl, by decide, xT_of (i := 222) (by decide +kernel) (by decide +kernel), rfl, rfl, by decide +kernel⟩
theorem fX8_337 : xFL RX8 337 3 2 true (.int) := ⟨RX3, TX3, 12, rfl, by decide, xT_of (i := 223) (by decide +kernel) (by decide +kernel), rfl, rfl, by decide +kernel⟩
theorem fX3_42 : xFL RX3 42 3 3 true (.array (.object "BathHouse$Post")) := ⟨RX3, TX3, 12, rfl, by decide, xT_of (i := 224) (by decide +kernel) (by decide +kernel), rfl, rfl, by decide +kernel⟩
theorem fX8_315 : xFL RX8 315 3 3 true (.array (.object "BathHouse$Post")) := ⟨RX3, TX3, 12, rfl, by decide, xT_of (i := 225) (by decide +kernel) (by decide +kernel), rfl, rfl, by decide +kernel⟩
theorem fX3_11 : xFL RX3 11 3 4 true (.array (.object "BathHouse$Thing")) := ⟨RX3, TX3, 12, rfl, by decide, xT_of (i := 226) (by decide +kernel) (by decide +kernel), rfl, rfl, by decide +kernel⟩
theorem fX8_311 : xFL RX8 311 3 4 true (.array (.object "BathHouse$Thing")) := ⟨RX3, TX3, 12, rfl, by decide, xT_of (i := 227) (by decide +kernel) (by decide +kernel), rfl, rfl, by decide +kernel⟩
theorem fX3_20 : xFL RX3 20 3 5 true (.object "BathHouse$Door") := ⟨RX3, TX3, 12, rfl, by decide, xT_of (i := 228) (by decide +kernel) (by decide +kernel), rfl, rfl, by decide +kernel⟩
theorem fX8_120 : xFL RX8 120 3 5 true (.object "BathHouse$Door") := ⟨RX3, TX3, 12, rfl, by decide, xT_of (i := 229) (by decide +kernel) (by decide +kernel), rfl, rfl, by decide +kernel⟩
theorem fX3_48 : xFL RX3 48 3 6 false (.int) := ⟨RX3, TX3, 12, rfl, by decide, xT_of (i := 230) (by decide +kernel) (by decide +kernel), rfl, rfl, by decide +kernel⟩
theorem fX8_156 : xFL RX8 156 3 6 false (.int) := ⟨RX3, TX3, 12, rfl, by decide, xT_of (i := 231) (by decide +kernel) (by decide +kernel), rfl, rfl, by decide +kernel⟩
theorem fX3_51 : xFL RX3 51 3 7 false (.int) := ⟨RX3, TX3, 12, rfl, by decide, xT_of (i := 232) (by decide +kernel) (by decide +kernel), rfl, rfl, by decide +kernel⟩
theorem fX8_169 : xFL RX8 169 3 7 false (.int) := ⟨RX3, TX3, 12, rfl, by decide, xT_of (i := 233) (by decide +kernel) (by decide +kernel), rfl, rfl, by decide +kernel⟩
theorem fX3_72 : xFL RX3 72 3 8 false (.int) := ⟨RX3, TX3, 12, rfl, by decide, xT_of (i := 234) (by decide +kernel) (by decide +kernel), rfl, rfl, by decide +kernel⟩
theorem fX8_204 : xFL RX8 204 3 8 false (.int) := ⟨RX3, TX3, 12, rfl, by decide, xT_of (i := 235) (by decide +kernel) (by decide +kernel), rfl, rfl, by decide +kernel⟩
theorem fX3_86 : xFL RX3 86 3 9 false (.int) := ⟨RX3, TX3, 12, rfl, by decide, xT_of (i := 236) (by decide +kernel) (by decide +kernel), rfl, rfl, by decide +kernel⟩
theorem fX8_216 : xFL RX8 216 3 9 false (.int) := ⟨RX3, TX3, 12, rfl, by decide, xT_of (i := 237) (by decide +kernel) (by decide +kernel), rfl, rfl, by decide +kernel⟩
theorem fX8_277 : xFL RX8 277 3 10 false (.int) := ⟨RX3, TX3, 12, rfl, by decide, xT_of (i := 238) (by decide +kernel) (by decide +kernel), rfl, rfl, by decide +kernel⟩
theorem fX8_280 : xFL RX8 280 3 11 false (.int) := ⟨RX3, TX3, 12, rfl, by decide, xT_of (i := 239) (by decide +kernel) (by decide +kernel), rfl, rfl, by decide +kernel⟩
theorem fX7_21 : xFL RX7 21 7 0 true (.int) := ⟨RX7, TX7, 14, rfl, by decide, xT_of (i := 342) (by decide +kernel) (by decide +kernel), rfl, rfl, by decide +kernel⟩
theorem fX8_319 : xFL RX8 319 7 0 true (.int) := ⟨RX7, TX7, 14, rfl, by decide, xT_of (i := 343) (by decide +kernel) (by decide +kernel), rfl, rfl, by decide +kernel⟩
theorem fX7_24 : xFL RX7 24 7 1 true (.object "BathHouse$Pool") := ⟨RX7, TX7, 14, rfl, by decide, xT_of (i := 344) (by decide +kernel) (by decide +kernel), rfl, rfl, by decide +kernel⟩
theorem fX8_108 : xFL RX8 108 7 1 true (.object "BathHouse$Pool") := ⟨RX7, TX7, 14, rfl, by decide, xT_of (i := 345) (by decide +kernel) (by decide +kernel), rfl, rfl, by decide +kernel⟩
theorem fX7_28 : xFL RX7 28 7 2 true (.int) := ⟨RX7, TX7, 14, rfl, by decide, xT_of (i := 346) (by decide +kernel) (by decide +kernel), rfl, rfl, by decide +kernel⟩
theorem fX3_54 : xFL RX3 54 7 2 true (.int) := ⟨RX7, TX7, 14, rfl, by decide, xT_of (i := 347) (by decide +kernel) (by decide +kernel), rfl, rfl, by decide +kernel⟩
theorem fX8_262 : xFL RX8 262 7 2 true (.int) := ⟨RX7, TX7, 14, rfl, by decide, xT_of (i := 348) (by decide +kernel) (by decide +kernel), rfl, rfl, by decide +kernel⟩
theorem fX7_31 : xFL RX7 31 7 3 true (.int) := ⟨RX7, TX7, 14, rfl, by decide, xT_of (i := 349) (by decide +kernel) (by decide +kernel), rfl, rfl, by decide +kernel⟩
theorem fX7_34 : xFL RX7 34 7 4 true (.object "BathHouse$Club") := ⟨RX7, TX7, 14, rfl, by decide, xT_of (i := 350) (by decide +kernel) (by decide +kernel), rfl, rfl, by decide +kernel⟩
theorem fX7_38 : xFL RX7 38 7 5 true (.boolean) := ⟨RX7, TX7, 14, rfl, by decide, xT_of (i := 351) (by decide +kernel) (by decide +kernel), rfl, rfl, by decide +kernel⟩
theorem fX7_60 : xFL RX7 60 7 6 false (.boolean) := ⟨RX7, TX7, 14, rfl, by decide, xT_of (i := 352) (by decide +kernel) (by decide +kernel), rfl, rfl, by decide +kernel⟩
theorem fX8_116 : xFL RX8 116 7 6 false (.boolean) := ⟨RX7, TX7, 14, rfl, by decide, xT_of (i := 353) (by decide +kernel) (by decide +kernel), rfl, rfl, by decide +kernel⟩
theorem fX7_9 : xFL RX7 9 7 7 false (.int) := ⟨RX7, TX7, 14, rfl, by decide, xT_of (i := 354) (by decide +kernel) (by decide +kernel), rfl, rfl, by decide +kernel⟩
theorem fX8_265 : xFL RX8 265 7 7 false (.int) := ⟨RX7, TX7, 14, rfl, by decide, xT_of (i := 355) (by decide +kernel) (by decide +kernel), rfl, rfl, by decide +kernel⟩
theorem fX7_66 : xFL RX7 66 7 8 false (.int) := ⟨RX7, TX7, 14, rfl, by decide, xT_of (i := 356) (by decide +kernel) (by decide +kernel), rfl, rfl, by decide +kernel⟩
theorem fX7_48 : xFL RX7 48 7 9 false (.int) := ⟨RX7, TX7, 14, rfl, by decide, xT_of (i := 357) (by decide +kernel) (by decide +kernel), rfl, rfl, by decide +kernel⟩
theorem fX8_271 : xFL RX8 271 7 9 false (.int) := ⟨RX7, TX7, 14, rfl, by decide, xT_of (i := 358) (by decide +kernel) (by decide +kernel), rfl, rfl, by decide +kernel⟩
theorem fX7_73 : xFL RX7 73 7 10 false (.int) := ⟨RX7, TX7, 14, rfl, by decide, xT_of (i := 359) (by decide +kernel) (by decide +kernel), rfl, rfl, by decide +kernel⟩
theorem fX8_268 : xFL RX8 268 7 10 false (.int) := ⟨RX7, TX7, 14, rfl, by decide, xT_of (i := 360) (by decide +kernel) (by decide +kernel), rfl, rfl, by decide +kernel⟩
theorem fX7_15 : xFL RX7 15 7 11 false (.int) := ⟨RX7, TX7, 14, rfl, by decide, xT_of (i := 361) (by decide +kernel) (by decide +kernel), rfl, rfl, by decide +kernel⟩
theorem fX8_143 : xFL RX8 143 7 11 false (.int) := ⟨RX7, TX7, 14, rfl, by decide, xT_of (i := 362) (by decide +kernel) (by decide +kernel), rfl, rfl, by decide +kernel⟩
theorem fX7_84 : xFL RX7 84 7 12 false (.object "BathHouse$Post") := ⟨RX7, TX7, 14, rfl, by decide, xT_of (i := 363) (by decide +kernel) (by decide +kernel), rfl, rfl, by decide +kernel⟩
theorem fX7_18 : xFL RX7 18 7 13 false (.int) := ⟨RX7, TX7, 14, rfl, by decide, xT_of (i := 364) (by decide +kernel) (by decide +kernel), rfl, rfl, by decide +kernel⟩
theorem fX0_7 : xFL RX0 7 0 0 true (.object "BathHouse$Pool") := ⟨RX0, TX0, 7, rfl, by decide, xT_of (i := 407) (by decide +kernel) (by decide +kernel), rfl, rfl, by decide +kernel⟩
theorem fX8_322 : xFL RX8 322 0 0 true (.object "BathHouse$Pool") := ⟨RX0, TX0, 7, rfl, by decide, xT_of (i := 408) (by decide +kernel) (by decide +kernel), rfl, rfl, by decide +kernel⟩
theorem fX0_13 : xFL RX0 13 0 1 true (.int) := ⟨RX0, TX0, 7, rfl, by decide, xT_of (i := 409) (by decide +kernel) (by decide +kernel), rfl, rfl, by decide +kernel⟩
theorem fX8_334 : xFL RX8 334 0 1 true (.int) := ⟨RX0, TX0, 7, rfl, by decide, xT_of (i := 410) (by decide +kernel) (by decide +kernel), rfl, rfl, by decide +kernel⟩
theorem fX0_17 : xFL RX0 17 0 2 true (.int) := ⟨RX0, TX0, 7, rfl, by decide, xT_of (i := 411) (by decide +kernel) (by decide +kernel), rfl, rfl, by decide +kernel⟩
theorem fX0_23 : xFL RX0 23 0 3 true (.int) := ⟨RX0, TX0, 7, rfl, by decide, xT_of (i := 412) (by decide +kernel) (by decide +kernel), rfl, rfl, by decide +kernel⟩
theorem fX7_54 : xFL RX7 54 0 3 true (.int) := ⟨RX0, TX0, 7, rfl, by decide, xT_of (i := 413) (by decide +kernel) (by decide +kernel), rfl, rfl, by decide +kernel⟩
theorem fX0_20 : xFL RX0 20 0 4 false (.int) := ⟨RX0, TX0, 7, rfl, by decide, xT_of (i := 414) (by decide +kernel) (by decide +kernel), rfl, rfl, by decide +kernel⟩
theorem fX7_63 : xFL RX7 63 0 4 false (.int) := ⟨RX0, TX0, 7, rfl, by decide, xT_of (i := 415) (by decide +kernel) (by decide +kernel), rfl, rfl, by decide +kernel⟩
theorem fX8_93 : xFL RX8 93 0 4 false (.int) := ⟨RX0, TX0, 7, rfl, by decide, xT_of (i := 416) (by decide +kernel) (by decide +kernel), rfl, rfl, by decide +kernel⟩
theorem fX7_51 : xFL RX7 51 0 5 false (.int) := ⟨RX0, TX0, 7, rfl, by decide, xT_of (i := 417) (by decide +kernel) (by decide +kernel), rfl, rfl, by decide +kernel⟩
theorem fX0_38 : xFL RX0 38 0 5 false (.int) := ⟨RX0, TX0, 7, rfl, by decide, xT_of (i := 418) (by decide +kernel) (by decide +kernel), rfl, rfl, by decide +kernel⟩
theorem fX7_57 : xFL RX7 57 0 6 false (.int) := ⟨RX0, TX0, 7, rfl, by decide, xT_of (i := 419) (by decide +kernel) (by decide +kernel), rfl, rfl, by decide +kernel⟩
theorem fX0_35 : xFL RX0 35 0 6 false (.int) := ⟨RX0, TX0, 7, rfl, by decide, xT_of (i := 420) (by decide +kernel) (by decide +kernel), rfl, rfl, by decide +kernel⟩
theorem fX9_148 : xFL RX9 148 9 0 false (.int) := ⟨RX9, TX9, 48, rfl, by decide, xT_of (i := 702) (by decide +kernel) (by decide +kernel), rfl, rfl, by decide +kernel⟩
theorem fX9_7 : xFL RX9 7 9 1 true (.array .boolean) := ⟨RX9, TX9, 48, rfl, by decide, xT_of (i := 703) (by decide +kernel) (by decide +kernel), rfl, rfl, by decide +kernel⟩
theorem fX9_13 : xFL RX9 13 9 2 true (.array .int) := ⟨RX9, TX9, 48, rfl, by decide, xT_of (i := 704) (by decide +kernel) (by decide +kernel), rfl, rfl, by decide +kernel⟩
theorem fX9_17 : xFL RX9 17 9 3 true (.array .int) := ⟨RX9, TX9, 48, rfl, by decide, xT_of (i := 705) (by decide +kernel) (by decide +kernel), rfl, rfl, by decide +kernel⟩
theorem fX9_20 : xFL RX9 20 9 4 true (.array .int) := ⟨RX9, TX9, 48, rfl, by decide, xT_of (i := 706) (by decide +kernel) (by decide +kernel), rfl, rfl, by decide +kernel⟩
theorem fX9_23 : xFL RX9 23 9 5 true (.array .int) := ⟨RX9, TX9, 48, rfl, by decide, xT_of (i := 707) (by decide +kernel) (by decide +kernel), rfl, rfl, by decide +kernel⟩
theorem fX9_26 : xFL RX9 26 9 6 true (.array .int) := ⟨RX9, TX9, 48, rfl, by decide, xT_of (i := 708) (by decide +kernel) (by decide +kernel), rfl, rfl, by decide +kernel⟩
theorem fX9_29 : xFL RX9 29 9 7 true (.array .int) := ⟨RX9, TX9, 48, rfl, by decide, xT_of (i := 709) (by decide +kernel) (by decide +kernel), rfl, rfl, by decide +kernel⟩
theorem fX9_32 : xFL RX9 32 9 8 true (.array .int) := ⟨RX9, TX9, 48, rfl, by decide, xT_of (i := 710) (by decide +kernel) (by decide +kernel), rfl, rfl, by decide +kernel⟩
theorem fX9_35 : xFL RX9 35 9 9 true (.array .boolean) := ⟨RX9, TX9, 48, rfl, by decide, xT_of (i := 711) (by decide +kernel) (by decide +kernel), rfl, rfl, by decide +kernel⟩
theorem fX9_38 : xFL RX9 38 9 10 true (.array .boolean) := ⟨RX9, TX9, 48, rfl, by decide, xT_of (i := 712) (by decide +kernel) (by decide +kernel), rfl, rfl, by decide +kernel⟩
theorem fX9_41 : xFL RX9 41 9 11 true (.array .int) := ⟨RX9, TX9, 48, rfl, by decide, xT_of (i := 713) (by decide +kernel) (by decide +kernel), rfl, rfl, by decide +kernel⟩
theorem fX9_44 : xFL RX9 44 9 12 true (.array .int) := ⟨RX9, TX9, 48, rfl, by decide, xT_of (i := 714) (by decide +kernel) (by decide +kernel), rfl, rfl, by decide +kernel⟩
theorem fX9_47 : xFL RX9 47 9 13 true (.array .int) := ⟨RX9, TX9, 48, rfl, by decide, xT_of (i := 715) (by decide +kernel) (by decide +kernel), rfl, rfl, by decide +kernel⟩
theorem fX9_50 : xFL RX9 50 9 14 true (.array .int) := ⟨RX9, TX9, 48, rfl, by decide, xT_of (i := 716) (by decide +kernel) (by decide +kernel), rfl, rfl, by decide +kernel⟩
theorem fX9_53 : xFL RX9 53 9 15 true (.array .int) := ⟨RX9, TX9, 48, rfl, by decide, xT_of (i := 717) (by decide +kernel) (by decide +kernel), rfl, rfl, by decide +kernel⟩
theorem fX9_56 : xFL RX9 56 9 16 true (.array .int) := ⟨RX9, TX9, 48, rfl, by decide, xT_of (i := 718) (by decide +kernel) (by decide +kernel), rfl, rfl, by decide +kernel⟩
theorem fX9_59 : xFL RX9 59 9 17 true (.array .boolean) := ⟨RX9, TX9, 48, rfl, by decide, xT_of (i := 719) (by decide +kernel) (by decide +kernel), rfl, rfl, by decide +kernel⟩
theorem fX9_62 : xFL RX9 62 9 18 true (.array .int) := ⟨RX9, TX9, 48, rfl, by decide, xT_of (i := 720) (by decide +kernel) (by decide +kernel), rfl, rfl, by decide +kernel⟩
theorem fX9_65 : xFL RX9 65 9 19 true (.array .int) := ⟨RX9, TX9, 48, rfl, by decide, xT_of (i := 721) (by decide +kernel) (by decide +kernel), rfl, rfl, by decide +kernel⟩
theorem fX9_68 : xFL RX9 68 9 20 true (.array .int) := ⟨RX9, TX9, 48, rfl, by decide, xT_of (i := 722) (by decide +kernel) (by decide +kernel), rfl, rfl, by decide +kernel⟩
theorem fX9_71 : xFL RX9 71 9 21 true (.array .int) := ⟨RX9, TX9, 48, rfl, by decide, xT_of (i := 723) (by decide +kernel) (by decide +kernel), rfl, rfl, by decide +kernel⟩
theorem fX9_145 : xFL RX9 145 9 22 false (.int) := ⟨RX9, TX9, 48, rfl, by decide, xT_of (i := 724) (by decide +kernel) (by decide +kernel), rfl, rfl, by decide +kernel⟩
theorem fX9_74 : xFL RX9 74 9 23 true (.array .int) := ⟨RX9, TX9, 48, rfl, by decide, xT_of (i := 725) (by decide +kernel) (by decide +kernel), rfl, rfl, by decide +kernel⟩
theorem fX9_77 : xFL RX9 77 9 24 true (.array .int) := ⟨RX9, TX9, 48, rfl, by decide, xT_of (i := 726) (by decide +kernel) (by decide +kernel), rfl, rfl, by decide +kernel⟩
theorem fX9_80 : xFL RX9 80 9 25 true (.array .int) := ⟨RX9, TX9, 48, rfl, by decide, xT_of (i := 727) (by decide +kernel) (by decide +kernel), rfl, rfl, by decide +kernel⟩
theorem fX9_83 : xFL RX9 83 9 26 true (.array .boolean) := ⟨RX9, TX9, 48, rfl, by decide, xT_of (i := 728) (by decide +kernel) (by decide +kernel), rfl, rfl, by decide +kernel⟩
theorem fX9_86 : xFL RX9 86 9 27 true (.array .int) := ⟨RX9, TX9, 48, rfl, by decide, xT_of (i := 729) (by decide +kernel) (by decide +kernel), rfl, rfl, by decide +kernel⟩
theorem fX9_89 : xFL RX9 89 9 28 true (.array .int) := ⟨RX9, TX9, 48, rfl, by decide, xT_of (i := 730) (by decide +kernel) (by decide +kernel), rfl, rfl, by decide +kernel⟩
theorem fX9_92 : xFL RX9 92 9 29 true (.array .boolean) := ⟨RX9, TX9, 48, rfl, by decide, xT_of (i := 731) (by decide +kernel) (by decide +kernel), rfl, rfl, by decide +kernel⟩
theorem fX9_95 : xFL RX9 95 9 30 true (.array .int) := ⟨RX9, TX9, 48, rfl, by decide, xT_of (i := 732) (by decide +kernel) (by decide +kernel), rfl, rfl, by decide +kernel⟩
theorem fX9_98 : xFL RX9 98 9 31 true (.array .int) := ⟨RX9, TX9, 48, rfl, by decide, xT_of (i := 733) (by decide +kernel) (by decide +kernel), rfl, rfl, by decide +kernel⟩
theorem fX9_101 : xFL RX9 101 9 32 true (.array .int) := ⟨RX9, TX9, 48, rfl, by decide, xT_of (i := 734) (by decide +kernel) (by decide +kernel), rfl, rfl, by decide +kernel⟩
theorem fX9_104 : xFL RX9 104 9 33 true (.array .int) := ⟨RX9, TX9, 48, rfl, by decide, xT_of (i := 735) (by decide +kernel) (by decide +kernel), rfl, rfl, by decide +kernel⟩
theorem fX9_107 : xFL RX9 107 9 34 true (.array .int) := ⟨RX9, TX9, 48, rfl, by decide, xT_of (i := 736) (by decide +kernel) (by decide +kernel), rfl, rfl, by decide +kernel⟩
theorem fX9_172 : xFL RX9 172 9 35 false (.int) := ⟨RX9, TX9, 48, rfl, by decide, xT_of (i := 737) (by decide +kernel) (by decide +kernel), rfl, rfl, by decide +kernel⟩
theorem fX9_110 : xFL RX9 110 9 36 false (.int) := ⟨RX9, TX9, 48, rfl, by decide, xT_of (i := 738) (by decide +kernel) (by decide +kernel), rfl, rfl, by decide +kernel⟩
theorem fX9_114 : xFL RX9 114 9 37 true (.array .int) := ⟨RX9, TX9, 48, rfl, by decide, xT_of (i := 739) (by decide +kernel) (by decide +kernel), rfl, rfl, by decide +kernel⟩
theorem fX9_117 : xFL RX9 117 9 38 true (.array .int) := ⟨RX9, TX9, 48, rfl, by decide, xT_of (i := 740) (by decide +kernel) (by decide +kernel), rfl, rfl, by decide +kernel⟩
theorem fX9_120 : xFL RX9 120 9 39 true (.array .int) := ⟨RX9, TX9, 48, rfl, by decide, xT_of (i := 741) (by decide +kernel) (by decide +kernel), rfl, rfl, by decide +kernel⟩
theorem fX9_123 : xFL RX9 123 9 40 true (.array .int) := ⟨RX9, TX9, 48, rfl, by decide, xT_of (i := 742) (by decide +kernel) (by decide +kernel), rfl, rfl, by decide +kernel⟩
theorem fX9_126 : xFL RX9 126 9 41 true (.array .int) := ⟨RX9, TX9, 48, rfl, by decide, xT_of (i := 743) (by decide +kernel) (by decide +kernel), rfl, rfl, by decide +kernel⟩
theorem fX9_129 : xFL RX9 129 9 42 true (.array .int) := ⟨RX9, TX9, 48, rfl, by decide, xT_of (i := 744) (by decide +kernel) (by decide +kernel), rfl, rfl, by decide +kernel⟩
theorem fX9_132 : xFL RX9 132 9 43 true (.array .int) := ⟨RX9, TX9, 48, rfl, by decide, xT_of (i := 745) (by decide +kernel) (by decide +kernel), rfl, rfl, by decide +kernel⟩
theorem fX9_135 : xFL RX9 135 9 44 true (.array .int) := ⟨RX9, TX9, 48, rfl, by decide, xT_of (i := 746) (by decide +kernel) (by decide +kernel), rfl, rfl, by decide +kernel⟩
theorem fX9_138 : xFL RX9 138 9 45 true (.array .boolean) := ⟨RX9, TX9, 48, rfl, by decide, xT_of (i := 747) (by decide +kernel) (by decide +kernel), rfl, rfl, by decide +kernel⟩
theorem fX9_219 : xFL RX9 219 9 46 false (.boolean) := ⟨RX9, TX9, 48, rfl, by decide, xT_of (i := 748) (by decide +kernel) (by decide +kernel), rfl, rfl, by decide +kernel⟩
theorem fX9_223 : xFL RX9 223 9 47 false (.int) := ⟨RX9, TX9, 48, rfl, by decide, xT_of (i := 749) (by decide +kernel) (by decide +kernel), rfl, rfl, by decide +kernel⟩
abbrev mX8_init : xM := (yX8_init, cX8_init, 1, none)
abbrev mX2_init : xM := (yX2_init, cX2_init, 2, none)
abbrev mX5_init : xM := (yX5_init, cX5_init, 2, none)
abbrev mX8_pool : xM := (yX8_pool, cX8_pool, 5, some FieldType.boolean)
abbrev mX8_isWithin : xM := (yX8_isWithin, cX8_isWithin, 3, some FieldType.boolean)
abbrev mX3_init : xM := (yX3_init, cX3_init, 6, none)
abbrev mX1_init : xM := (yX1_init, cX1_init, 1, none)
abbrev mJ9_max_7cf53 : xM := (yJ9_max_7cf53, cJ9_max_7cf53, 2, some FieldType.int)
abbrev mX4_init : xM := (yX4_init, cX4_init, 1, none)
abbrev mX6_init : xM := (yX6_init, cX6_init, 1, none)
abbrev mX8_go : xM := (yX8_go, cX8_go, 3, some FieldType.int)
abbrev mX8_endMinute : xM := (yX8_endMinute, cX8_endMinute, 3, none)
abbrev mX3_endMinute : xM := (yX3_endMinute, cX3_endMinute, 2, none)
abbrev mX3_reasonsIn : xM := (yX3_reasonsIn, cX3_reasonsIn, 4, some FieldType.int)
abbrev mX6_isRight : xM := (yX6_isRight, cX6_isRight, 1, some FieldType.boolean)
abbrev mX6_isStale : xM := (yX6_isStale, cX6_isStale, 2, some FieldType.boolean)
abbrev mX3_filledPosts : xM := (yX3_filledPosts, cX3_filledPosts, 4, some FieldType.int)
abbrev mX4_isFilled : xM := (yX4_isFilled, cX4_isFilled, 2, some FieldType.boolean)
abbrev mX1_endMinute : xM := (yX1_endMinute, cX1_endMinute, 1, none)
abbrev mX1_leastNow : xM := (yX1_leastNow, cX1_leastNow, 1, some FieldType.int)
abbrev mX1_mostNow : xM := (yX1_mostNow, cX1_mostNow, 1, some FieldType.int)
abbrev mX1_startFrom : xM := (yX1_startFrom, cX1_startFrom, 3, none)
abbrev mX8_ticket : xM := (yX8_ticket, cX8_ticket, 8, some FieldType.int)
abbrev mX8_poolOf : xM := (yX8_poolOf, cX8_poolOf, 2, some (FieldType.object "BathHouse$Pool"))
abbrev mX8_isTicketSold : xM := (yX8_isTicketSold, cX8_isTicketSold, 5, some FieldType.boolean)
abbrev mX8_isClubKind : xM := (yX8_isClubKind, cX8_isClubKind, 1, some FieldType.boolean)
abbrev mX8_clubOf : xM := (yX8_clubOf, cX8_clubOf, 2, some (FieldType.object "BathHouse$Club"))
abbrev mX0_isSchool : xM := (yX0_isSchool, cX0_isSchool, 1, some FieldType.boolean)
abbrev mX7_init : xM := (yX7_init, cX7_init, 7, none)
abbrev mX8_club : xM := (yX8_club, cX8_club, 10, some FieldType.int)
abbrev mX3_hasLanes : xM := (yX3_hasLanes, cX3_hasLanes, 2, some FieldType.boolean)
abbrev mX0_init : xM := (yX0_init, cX0_init, 6, none)
abbrev mX8_lowestClash : xM := (yX8_lowestClash, cX8_lowestClash, 4, some FieldType.int)
abbrev mX0_clashesWith : xM := (yX0_clashesWith, cX0_clashesWith, 2, some FieldType.boolean)
abbrev mJ9_min_7cf53 : xM := (yJ9_min_7cf53, cJ9_min_7cf53, 2, some FieldType.int)
abbrev mX8_clash : xM := (yX8_clash, cX8_clash, 1, some FieldType.int)
abbrev mX8_leave : xM := (yX8_leave, cX8_leave, 3, some FieldType.boolean)
abbrev mX8_may : xM := (yX8_may, cX8_may, 3, some FieldType.int)
abbrev mX8_ticketOf : xM := (yX8_ticketOf, cX8_ticketOf, 2, some (FieldType.object "BathHouse$Ticket"))
abbrev mX8_reasonAgainst : xM := (yX8_reasonAgainst, cX8_reasonAgainst, 3, some FieldType.int)
abbrev mX8_reasonAgainstHead : xM := (yX8_reasonAgainstHead, cX8_reasonAgainstHead, 3, some FieldType.int)
abbrev mX7_isItsTime : xM := (yX7_isItsTime, cX7_isItsTime, 2, some FieldType.boolean)
abbrev mX0_isThere : xM := (yX0_isThere, cX0_isThere, 2, some FieldType.boolean)
abbrev mX7_lacksTeacher : xM := (yX7_lacksTeacher, cX7_lacksTeacher, 1, some FieldType.boolean)
abbrev mX8_in : xM := (yX8_in, cX8_in, 4, some FieldType.int)
abbrev mX7_comeIn : xM := (yX7_comeIn, cX7_comeIn, 2, none)
abbrev mX0_pass : xM := (yX0_pass, cX0_pass, 3, none)
abbrev mX3_letIn : xM := (yX3_letIn, cX3_letIn, 2, none)
abbrev mX8_out : xM := (yX8_out, cX8_out, 4, some FieldType.int)
abbrev mX7_owes : xM := (yX7_owes, cX7_owes, 3, some FieldType.int)
abbrev mX7_minutesLeft : xM := (yX7_minutesLeft, cX7_minutesLeft, 2, some FieldType.int)
abbrev mX7_goOut : xM := (yX7_goOut, cX7_goOut, 3, none)
abbrev mX7_leavePost : xM := (yX7_leavePost, cX7_leavePost, 2, none)
abbrev mX3_letOut : xM := (yX3_letOut, cX3_letOut, 2, none)
abbrev mX2_lose : xM := (yX2_lose, cX2_lose, 2, none)
abbrev mX2_isLocker : xM := (yX2_isLocker, cX2_isLocker, 1, some FieldType.boolean)
abbrev mX8_eye : xM := (yX8_eye, cX8_eye, 4, some FieldType.boolean)
abbrev mX1_turnEye : xM := (yX1_turnEye, cX1_turnEye, 2, none)
abbrev mX8_hand : xM := (yX8_hand, cX8_hand, 3, some FieldType.int)
abbrev mX8_count : xM := (yX8_count, cX8_count, 4, some FieldType.int)
abbrev mX8_freeLanes : xM := (yX8_freeLanes, cX8_freeLanes, 5, some FieldType.int)
abbrev mJ6_bitCount_0f7a4 : xM := (yJ6_bitCount_0f7a4, cJ6_bitCount_0f7a4, 1, some FieldType.int)
abbrev mX8_bounds : xM := (yX8_bounds, cX8_bounds, 6, some FieldType.boolean)
abbrev mX8_thingOf : xM := (yX8_thingOf, cX8_thingOf, 4, some (FieldType.object "BathHouse$Thing"))
abbrev mX8_measure : xM := (yX8_measure, cX8_measure, 6, some FieldType.int)
abbrev mX6_takeMeasure : xM := (yX6_takeMeasure, cX6_takeMeasure, 3, none)
abbrev mX8_put : xM := (yX8_put, cX8_put, 4, some FieldType.boolean)
abbrev mX8_shut : xM := (yX8_shut, cX8_shut, 3, some FieldType.int)
abbrev mX8_minutes : xM := (yX8_minutes, cX8_minutes, 3, some FieldType.int)
abbrev mX8_post : xM := (yX8_post, cX8_post, 7, some FieldType.int)
abbrev mX8_postOf : xM := (yX8_postOf, cX8_postOf, 4, some (FieldType.object "BathHouse$Post"))
abbrev mX7_mayStand : xM := (yX7_mayStand, cX7_mayStand, 2, some FieldType.boolean)
abbrev mX7_standAt : xM := (yX7_standAt, cX7_standAt, 3, none)
abbrev mX8_numberOf : xM := (yX8_numberOf, cX8_numberOf, 1, some FieldType.int)
abbrev mX8_watcher : xM := (yX8_watcher, cX8_watcher, 4, some FieldType.int)
abbrev mX8_key : xM := (yX8_key, cX8_key, 3, some FieldType.int)
abbrev mX2_takeLowest : xM := (yX2_takeLowest, cX2_takeLowest, 3, some FieldType.int)
abbrev mX8_give : xM := (yX8_give, cX8_give, 4, some FieldType.int)
abbrev mX2_hangKey : xM := (yX2_hangKey, cX2_hangKey, 2, none)
abbrev mX8_mend : xM := (yX8_mend, cX8_mend, 3, some FieldType.int)
abbrev mX8_locker : xM := (yX8_locker, cX8_locker, 2, some FieldType.int)
abbrev mX8_told : xM := (yX8_told, cX8_told, 4, some FieldType.int)
abbrev mX8_pump : xM := (yX8_pump, cX8_pump, 5, some FieldType.boolean)
abbrev mX8_price : xM := (yX8_price, cX8_price, 3, some FieldType.boolean)
abbrev mX8_turn : xM := (yX8_turn, cX8_turn, 5, some FieldType.int)
abbrev mX8_hoursNeeded : xM := (yX8_hoursNeeded, cX8_hoursNeeded, 5, some FieldType.int)
abbrev mX5_takeCheapest : xM := (yX5_takeCheapest, cX5_takeCheapest, 3, none)
abbrev mX5_takeNext : xM := (yX5_takeNext, cX5_takeNext, 3, none)
abbrev mX8_hour : xM := (yX8_hour, cX8_hour, 2, some FieldType.int)
abbrev mX8_all : xM := (yX8_all, cX8_all, 2, some FieldType.int)
abbrev mX2_lostOnes : xM := (yX2_lostOnes, cX2_lostOnes, 3, some FieldType.int)
abbrev mX8_insideAllPools : xM := (yX8_insideAllPools, cX8_insideAllPools, 4, some FieldType.int)
abbrev mX2_keysOut : xM := (yX2_keysOut, cX2_keysOut, 3, some FieldType.int)
abbrev mX9_init : xM := (yX9_init, cX9_init, 2, none)
abbrev mX9_pool : xM := (yX9_pool, cX9_pool, 5, some FieldType.boolean)
abbrev mX9_in : xM := (yX9_in, cX9_in, 3, some FieldType.boolean)
abbrev mX9_go : xM := (yX9_go, cX9_go, 4, some FieldType.int)
abbrev mX9_reasons : xM := (yX9_reasons, cX9_reasons, 5, some FieldType.int)
abbrev mX9_isFilled : xM := (yX9_isFilled, cX9_isFilled, 2, some FieldType.boolean)
abbrev mX9_leastNow : xM := (yX9_leastNow, cX9_leastNow, 3, some FieldType.int)
abbrev mX9_mostNow : xM := (yX9_mostNow, cX9_mostNow, 2, some FieldType.int)
abbrev mX9_begins : xM := (yX9_begins, cX9_begins, 4, none)
abbrev mX9_eye : xM := (yX9_eye, cX9_eye, 3, some FieldType.boolean)
abbrev mX9_has : xM := (yX9_has, cX9_has, 2, some FieldType.boolean)
abbrev mX9_hand : xM := (yX9_hand, cX9_hand, 3, some FieldType.int)
abbrev mX9_truth : xM := (yX9_truth, cX9_truth, 5, some FieldType.int)
abbrev mX9_club : xM := (yX9_club, cX9_club, 9, some FieldType.int)
abbrev mX9_clash : xM := (yX9_clash, cX9_clash, 1, some FieldType.int)
abbrev mX9_leave : xM := (yX9_leave, cX9_leave, 2, some FieldType.boolean)
abbrev mX9_bounds : xM := (yX9_bounds, cX9_bounds, 5, some FieldType.boolean)
abbrev mX9_measure : xM := (yX9_measure, cX9_measure, 5, some FieldType.int)
abbrev mX9_put : xM := (yX9_put, cX9_put, 3, some FieldType.boolean)
abbrev mX9_shut : xM := (yX9_shut, cX9_shut, 2, some FieldType.int)
abbrev mX9_minutes : xM := (yX9_minutes, cX9_minutes, 2, some FieldType.int)
abbrev mX9_ticket : xM := (yX9_ticket, cX9_ticket, 7, some FieldType.int)
abbrev mX9_may : xM := (yX9_may, cX9_may, 4, some FieldType.int)
abbrev mX9_isTicket : xM := (yX9_isTicket, cX9_isTicket, 2, some FieldType.boolean)
abbrev mX9_isClubbed : xM := (yX9_isClubbed, cX9_isClubbed, 2, some FieldType.boolean)
abbrev mX9_isThere : xM := (yX9_isThere, cX9_isThere, 2, some FieldType.boolean)
abbrev mX9_inSchool : xM := (yX9_inSchool, cX9_inSchool, 5, some FieldType.int)
abbrev mX9_in_ : xM := (yX9_in_, cX9_in_, 4, some FieldType.int)
abbrev mX9_out : xM := (yX9_out, cX9_out, 6, some FieldType.int)
abbrev mX9_beyond : xM := (yX9_beyond, cX9_beyond, 2, some FieldType.int)
abbrev mX9_isTimed : xM := (yX9_isTimed, cX9_isTimed, 2, some FieldType.boolean)
abbrev mX9_leaves : xM := (yX9_leaves, cX9_leaves, 2, none)
abbrev mX9_lockerOf : xM := (yX9_lockerOf, cX9_lockerOf, 3, some FieldType.int)
abbrev mX9_post : xM := (yX9_post, cX9_post, 6, some FieldType.int)
abbrev mX9_watcher : xM := (yX9_watcher, cX9_watcher, 3, some FieldType.int)
abbrev mX9_key : xM := (yX9_key, cX9_key, 3, some FieldType.int)
abbrev mX9_give : xM := (yX9_give, cX9_give, 3, some FieldType.int)
abbrev mX9_mend : xM := (yX9_mend, cX9_mend, 3, some FieldType.int)
abbrev mX9_locker : xM := (yX9_locker, cX9_locker, 2, some FieldType.int)
abbrev mX9_count : xM := (yX9_count, cX9_count, 5, some FieldType.int)
abbrev mX9_isFree : xM := (yX9_isFree, cX9_isFree, 4, some FieldType.boolean)
abbrev mX9_told : xM := (yX9_told, cX9_told, 3, some FieldType.int)
abbrev mX9_pump : xM := (yX9_pump, cX9_pump, 4, some FieldType.boolean)
abbrev mX9_price : xM := (yX9_price, cX9_price, 3, some FieldType.boolean)
abbrev mX9_turn : xM := (yX9_turn, cX9_turn, 9, some FieldType.int)
abbrev mX9_hour : xM := (yX9_hour, cX9_hour, 2, some FieldType.int)
abbrev mX9_all : xM := (yX9_all, cX9_all, 4, some FieldType.int)
def xMy (mm : xM) (n : Nat) : Prop := Cond.code mm.1 mm.2.1 mm.2.2.1 mm.2.2.2 ∈ xT ∧ Cond.initialized mm.1.cls ∈ xT ∧ (mm.1.cls ≠ "java/lang/invoke/MethodHandle" ∧ mm.1.cls ≠ "java/lang/invoke/VarHandle" ∧ (parseMethodDescriptor mm.1.desc).map (fun d => d.parameters.length) = some n) ∧ mm.2.2.1 ≤ 13
def xMV (mm : xM) (n : Nat) : Prop := xMy mm n ∧ Cond.instanceMethod mm.1 ∈ xT ∧ Cond.selects mm.1.cls mm.1 mm.1 ∈ xT
def xMS (mm : xM) (n : Nat) : Prop := xMy mm n ∧ Cond.static mm.1 ∈ xT
def xMI (mm : xM) (n : Nat) : Prop := xMy mm n ∧ Cond.instanceMethod mm.1 ∈ xT ∧ mm.1.name = "<init>" ∧ mm.2.2.2 = none
theorem myX8_init : xMy mX8_init 0 := ⟨xT_of (i := 46) (by decide +kernel) (by decide +kernel), ziX8, ⟨by decide +kernel, by decide +kernel, by decide +kernel⟩, by decide⟩
theorem mpX8_init : plainName mX8_init.1.cls = true := by decide +kernel
theorem mzX8_init : xMI mX8_init 0 := ⟨myX8_init, xT_of (i := 45) (by decide +kernel) (by decide +kernel), by decide +kernel, rfl⟩
theorem myX2_init : xMy mX2_init 0 := ⟨xT_of (i := 60) (by decide +kernel) (by decide +kernel), ziX2, ⟨by decide +kernel, by decide +kernel, by decide +kernel⟩, by decide⟩
theorem mpX2_init : plainName mX2_init.1.cls = true := by decide +kernel
theorem mzX2_init : xMI mX2_init 0 := ⟨myX2_init, xT_of (i := 59) (by decide +kernel) (by decide +kernel), by decide +kernel, rfl⟩
theorem myX5_init : xMy mX5_init 0 := ⟨xT_of (i := 77) (by decide +kernel) (by decide +kernel), ziX5, ⟨by decide +kernel, by decide +kernel, by decide +kernel⟩, by decide⟩
theorem mpX5_init : plainName mX5_init.1.cls = true := by decide +kernel
theorem mzX5_init : xMI mX5_init 0 := ⟨myX5_init, xT_of (i := 76) (by decide +kernel) (by decide +kernel), by decide +kernel, rfl⟩
theorem myX8_pool : xMy mX8_pool 4 := ⟨xT_of (i := 130) (by decide +kernel) (by decide +kernel), ziX8, ⟨by decide +kernel, by decide +kernel, by decide +kernel⟩, by decide⟩
theorem mpX8_pool : plainName mX8_pool.1.cls = true := by decide +kernel
theorem mzX8_pool : xMV mX8_pool 4 := ⟨myX8_pool, xT_of (i := 128) (by decide +kernel) (by decide +kernel), xT_of (i := 129) (by decide +kernel) (by decide +kernel)⟩
theorem myX8_isWithin : xMy mX8_isWithin 3 := ⟨xT_of (i := 133) (by decide +kernel) (by decide +kernel), ziX8, ⟨by decide +kernel, by decide +kernel, by decide +kernel⟩, by decide⟩
theorem mpX8_isWithin : plainName mX8_isWithin.1.cls = true := by decide +kernel
theorem mzX8_isWithin : xMS mX8_isWithin 3 := ⟨myX8_isWithin, xT_of (i := 132) (by decide +kernel) (by decide +kernel)⟩
theorem myX3_init : xMy mX3_init 4 := ⟨xT_of (i := 137) (by decide +kernel) (by decide +kernel), ziX3, ⟨by decide +kernel, by decide +kernel, by decide +kernel⟩, by decide⟩
theorem mpX3_init : plainName mX3_init.1.cls = true := by decide +kernel
theorem mzX3_init : xMI mX3_init 4 := ⟨myX3_init, xT_of (i := 136) (by decide +kernel) (by decide +kernel), by decide +kernel, rfl⟩
theorem myX1_init : xMy mX1_init 0 := ⟨xT_of (i := 145) (by decide +kernel) (by decide +kernel), ziX1, ⟨by decide +kernel, by decide +kernel, by decide +kernel⟩, by decide⟩
theorem mpX1_init : plainName mX1_init.1.cls = true := by decide +kernel
theorem mzX1_init : xMI mX1_init 0 := ⟨myX1_init, xT_of (i := 144) (by decide +kernel) (by decide +kernel), by decide +kernel, rfl⟩
theorem mm_max : Cond.static Lib.Math.max.name ∈ xT ∧ Cond.initialized "java/lang/Math" ∈ xT ∧ Cond.code Lib.Math.max.name Lib.Math.max.code 2 (some .int) ∈ xT := ⟨xT_of (i := 176) (by decide +kernel) (by decide +kernel), xT_of (i := 36) (by decide +kernel) (by decide +kernel), xT_of (i := 177) (by decide +kernel) (by decide +kernel)⟩
theorem myX4_init : xMy mX4_init 0 := ⟨xT_of (i := 183) (by decide +kernel) (by decide +kernel), ziX4, ⟨by decide +kernel, by decide +kernel, by decide +kernel⟩, by decide⟩
theorem mpX4_init : plainName mX4_init.1.cls = true := by decide +kernel
theorem mzX4_init : xMI mX4_init 0 := ⟨myX4_init, xT_of (i := 182) (by decide +kernel) (by decide +kernel), by decide +kernel, rfl⟩
theorem myX6_init : xMy mX6_init 0 := ⟨xT_of (i := 198) (by decide +kernel) (by decide +kernel), ziX6, ⟨by decide +kernel, by decide +kernel, by decide +kernel⟩, by decide⟩
theorem mpX6_init : plainName mX6_init.1.cls = true := by decide +kernel
theorem mzX6_init : xMI mX6_init 0 := ⟨myX6_init, xT_of (i := 197) (by decide +kernel) (by decide +kernel), by decide +kernel, rfl⟩
theorem myX8_go : xMy mX8_go 1 := ⟨xT_of (i := 268) (by decide +kernel) (by decide +kernel), ziX8, ⟨by decide +kernel, by decide +kernel, by decide +kernel⟩, by decide⟩
theorem mpX8_go : plainName mX8_go.1.cls = true := by decide +kernel
theorem mzX8_go : xMV mX8_go 1 := ⟨myX8_go, xT_of (i := 266) (by decide +kernel) (by decide +kernel), xT_of (i := 267) (by decide +kernel) (by decide +kernel)⟩
theorem myX8_endMinute : xMy mX8_endMinute 0 := ⟨xT_of (i := 272) (by decide +kernel) (by decide +kernel), ziX8, ⟨by decide +kernel, by decide +kernel, by decide +kernel⟩, by decide⟩
theorem mpX8_endMinute : plainName mX8_endMinute.1.cls = true := by decide +kernel
theorem mzX8_endMinute : xMV mX8_endMinute 0 := ⟨myX8_endMinute, xT_of (i := 271) (by decide +kernel) (by decide +kernel), xT_of (i := 0) (by decide +kernel) (by decide +kernel)⟩
theorem myX3_endMinute : xMy mX3_endMinute 1 := ⟨xT_of (i := 276) (by decide +kernel) (by decide +kernel), ziX3, ⟨by decide +kernel, by decide +kernel, by decide +kernel⟩, by decide⟩
theorem mpX3_endMinute : plainName mX3_endMinute.1.cls = true := by decide +kernel
theorem mzX3_endMinute : xMV mX3_endMinute 1 := ⟨myX3_endMinute, xT_of (i := 274) (by decide +kernel) (by decide +kernel), xT_of (i := 275) (by decide +kernel) (by decide +kernel)⟩
theorem myX3_reasonsIn : xMy mX3_reasonsIn 1 := ⟨xT_of (i := 280) (by decide +kernel) (by decide +kernel), ziX3, ⟨by decide +kernel, by decide +kernel, by decide +kernel⟩, by decide⟩
theorem mpX3_reasonsIn : plainName mX3_reasonsIn.1.cls = true := by decide +kernel
theorem mzX3_reasonsIn : xMV mX3_reasonsIn 1 := ⟨myX3_reasonsIn, xT_of (i := 278) (by decide +kernel) (by decide +kernel), xT_of (i := 279) (by decide +kernel) (by decide +kernel)⟩
theorem myX6_isRight : xMy mX6_isRight 0 := ⟨xT_of (i := 284) (by decide +kernel) (by decide +kernel), ziX6, ⟨by decide +kernel, by decide +kernel, by decide +kernel⟩, by decide⟩
theorem mpX6_isRight : plainName mX6_isRight.1.cls = true := by decide +kernel
theorem mzX6_isRight : xMV mX6_isRight 0 := ⟨myX6_isRight, xT_of (i := 282) (by decide +kernel) (by decide +kernel), xT_of (i := 283) (by decide +kernel) (by decide +kernel)⟩
theorem myX6_isStale : xMy mX6_isStale 1 := ⟨xT_of (i := 288) (by decide +kernel) (by decide +kernel), ziX6, ⟨by decide +kernel, by decide +kernel, by decide +kernel⟩, by decide⟩
theorem mpX6_isStale : plainName mX6_isStale.1.cls = true := by decide +kernel
theorem mzX6_isStale : xMV mX6_isStale 1 := ⟨myX6_isStale, xT_of (i := 286) (by decide +kernel) (by decide +kernel), xT_of (i := 287) (by decide +kernel) (by decide +kernel)⟩
theorem myX3_filledPosts : xMy mX3_filledPosts 1 := ⟨xT_of (i := 292) (by decide +kernel) (by decide +kernel), ziX3, ⟨by decide +kernel, by decide +kernel, by decide +kernel⟩, by decide⟩
theorem mpX3_filledPosts : plainName mX3_filledPosts.1.cls = true := by decide +kernel
theorem mzX3_filledPosts : xMV mX3_filledPosts 1 := ⟨myX3_filledPosts, xT_of (i := 290) (by decide +kernel) (by decide +kernel), xT_of (i := 291) (by decide +kernel) (by decide +kernel)⟩
theorem myX4_isFilled : xMy mX4_isFilled 1 := ⟨xT_of (i := 296) (by decide +kernel) (by decide +kernel), ziX4, ⟨by decide +kernel, by decide +kernel, by decide +kernel⟩, by decide⟩
theorem mpX4_isFilled : plainName mX4_isFilled.1.cls = true := by decide +kernel
theorem mzX4_isFilled : xMV mX4_isFilled 1 := ⟨myX4_isFilled, xT_of (i := 294) (by decide +kernel) (by decide +kernel), xT_of (i := 295) (by decide +kernel) (by decide +kernel)⟩
theorem myX1_endMinute : xMy mX1_endMinute 0 := ⟨xT_of (i := 300) (by decide +kernel) (by decide +kernel), ziX1, ⟨by decide +kernel, by decide +kernel, by decide +kernel⟩, by decide⟩
theorem mpX1_endMinute : plainName mX1_endMinute.1.cls = true := by decide +kernel
theorem mzX1_endMinute : xMV mX1_endMinute 0 := ⟨myX1_endMinute, xT_of (i := 298) (by decide +kernel) (by decide +kernel), xT_of (i := 299) (by decide +kernel) (by decide +kernel)⟩
theorem myX1_leastNow : xMy mX1_leastNow 0 := ⟨xT_of (i := 304) (by decide +kernel) (by decide +kernel), ziX1, ⟨by decide +kernel, by decide +kernel, by decide +kernel⟩, by decide⟩
theorem mpX1_leastNow : plainName mX1_leastNow.1.cls = true := by decide +kernel
theorem mzX1_leastNow : xMV mX1_leastNow 0 := ⟨myX1_leastNow, xT_of (i := 302) (by decide +kernel) (by decide +kernel), xT_of (i := 303) (by decide +kernel) (by decide +kernel)⟩
theorem myX1_mostNow : xMy mX1_mostNow 0 := ⟨xT_of (i := 309) (by decide +kernel) (by decide +kernel), ziX1, ⟨by decide +kernel, by decide +kernel, by decide +kernel⟩, by decide⟩
theorem mpX1_mostNow : plainName mX1_mostNow.1.cls = true := by decide +kernel
theorem mzX1_mostNow : xMV mX1_mostNow 0 := ⟨myX1_mostNow, xT_of (i := 307) (by decide +kernel) (by decide +kernel), xT_of (i := 308) (by decide +kernel) (by decide +kernel)⟩
theorem myX1_startFrom : xMy mX1_startFrom 2 := ⟨xT_of (i := 313) (by decide +kernel) (by decide +kernel), ziX1, ⟨by decide +kernel, by decide +kernel, by decide +kernel⟩, by decide⟩
theorem mpX1_startFrom : plainName mX1_startFrom.1.cls = true := by decide +kernel
theorem mzX1_startFrom : xMV mX1_startFrom 2 := ⟨myX1_startFrom, xT_of (i := 311) (by decide +kernel) (by decide +kernel), xT_of (i := 312) (by decide +kernel) (by decide +kernel)⟩
theorem myX8_ticket : xMy mX8_ticket 4 := ⟨xT_of (i := 317) (by decide +kernel) (by decide +kernel), ziX8, ⟨by decide +kernel, by decide +kernel, by decide +kernel⟩, by decide⟩
theorem mpX8_ticket : plainName mX8_ticket.1.cls = true := by decide +kernel
theorem mzX8_ticket : xMV mX8_ticket 4 := ⟨myX8_ticket, xT_of (i := 315) (by decide +kernel) (by decide +kernel), xT_of (i := 316) (by decide +kernel) (by decide +kernel)⟩
theorem myX8_poolOf : xMy mX8_poolOf 1 := ⟨xT_of (i := 321) (by decide +kernel) (by decide +kernel), ziX8, ⟨by decide +kernel, by decide +kernel, by decide +kernel⟩, by decide⟩
theorem mpX8_poolOf : plainName mX8_poolOf.1.cls = true := by decide +kernel
theorem mzX8_poolOf : xMV mX8_poolOf 1 := ⟨myX8_poolOf, xT_of (i := 320) (by decide +kernel) (by decide +kernel), xT_of (i := 1) (by decide +kernel) (by decide +kernel)⟩
theorem myX8_isTicketSold : xMy mX8_isTicketSold 3 := ⟨xT_of (i := 325) (by decide +kernel) (by decide +kernel), ziX8, ⟨by decide +kernel, by decide +kernel, by decide +kernel⟩, by decide⟩
theorem mpX8_isTicketSold : plainName mX8_isTicketSold.1.cls = true := by decide +kernel
theorem mzX8_isTicketSold : xMV mX8_isTicketSold 3 := ⟨myX8_isTicketSold, xT_of (i := 324) (by decide +kernel) (by decide +kernel), xT_of (i := 2) (by decide +kernel) (by decide +kernel)⟩
theorem myX8_isClubKind : xMy mX8_isClubKind 1 := ⟨xT_of (i := 328) (by decide +kernel) (by decide +kernel), ziX8, ⟨by decide +kernel, by decide +kernel, by decide +kernel⟩, by decide⟩
theorem mpX8_isClubKind : plainName mX8_isClubKind.1.cls = true := by decide +kernel
theorem mzX8_isClubKind : xMS mX8_isClubKind 1 := ⟨myX8_isClubKind, xT_of (i := 327) (by decide +kernel) (by decide +kernel)⟩
theorem myX8_clubOf : xMy mX8_clubOf 1 := ⟨xT_of (i := 332) (by decide +kernel) (by decide +kernel), ziX8, ⟨by decide +kernel, by decide +kernel, by decide +kernel⟩, by decide⟩
theorem mpX8_clubOf : plainName mX8_clubOf.1.cls = true := by decide +kernel
theorem mzX8_clubOf : xMV mX8_clubOf 1 := ⟨myX8_clubOf, xT_of (i := 331) (by decide +kernel) (by decide +kernel), xT_of (i := 3) (by decide +kernel) (by decide +kernel)⟩
theorem myX0_isSchool : xMy mX0_isSchool 0 := ⟨xT_of (i := 336) (by decide +kernel) (by decide +kernel), ziX0, ⟨by decide +kernel, by decide +kernel, by decide +kernel⟩, by decide⟩
theorem mpX0_isSchool : plainName mX0_isSchool.1.cls = true := by decide +kernel
theorem mzX0_isSchool : xMV mX0_isSchool 0 := ⟨myX0_isSchool, xT_of (i := 334) (by decide +kernel) (by decide +kernel), xT_of (i := 335) (by decide +kernel) (by decide +kernel)⟩
theorem myX7_init : xMy mX7_init 6 := ⟨xT_of (i := 340) (by decide +kernel) (by decide +kernel), ziX7, ⟨by decide +kernel, by decide +kernel, by decide +kernel⟩, by decide⟩
theorem mpX7_init : plainName mX7_init.1.cls = true := by decide +kernel
theorem mzX7_init : xMI mX7_init 6 := ⟨myX7_init, xT_of (i := 339) (by decide +kernel) (by decide +kernel), by decide +kernel, rfl⟩
theorem myX8_club : xMy mX8_club 5 := ⟨xT_of (i := 397) (by decide +kernel) (by decide +kernel), ziX8, ⟨by decide +kernel, by decide +kernel, by decide +kernel⟩, by decide⟩
theorem mpX8_club : plainName mX8_club.1.cls = true := by decide +kernel
theorem mzX8_club : xMV mX8_club 5 := ⟨myX8_club, xT_of (i := 395) (by decide +kernel) (by decide +kernel), xT_of (i := 396) (by decide +kernel) (by decide +kernel)⟩
theorem myX3_hasLanes : xMy mX3_hasLanes 1 := ⟨xT_of (i := 401) (by decide +kernel) (by decide +kernel), ziX3, ⟨by decide +kernel, by decide +kernel, by decide +kernel⟩, by decide⟩
theorem mpX3_hasLanes : plainName mX3_hasLanes.1.cls = true := by decide +kernel
theorem mzX3_hasLanes : xMV mX3_hasLanes 1 := ⟨myX3_hasLanes, xT_of (i := 399) (by decide +kernel) (by decide +kernel), xT_of (i := 400) (by decide +kernel) (by decide +kernel)⟩
theorem myX0_init : xMy mX0_init 5 := ⟨xT_of (i := 405) (by decide +kernel) (by decide +kernel), ziX0, ⟨by decide +kernel, by decide +kernel, by decide +kernel⟩, by decide⟩
theorem mpX0_init : plainName mX0_init.1.cls = true := by decide +kernel
theorem mzX0_init : xMI mX0_init 5 := ⟨myX0_init, xT_of (i := 404) (by decide +kernel) (by decide +kernel), by decide +kernel, rfl⟩
theorem myX8_lowestClash : xMy mX8_lowestClash 1 := ⟨xT_of (i := 439) (by decide +kernel) (by decide +kernel), ziX8, ⟨by decide +kernel, by decide +kernel, by decide +kernel⟩, by decide⟩
theorem mpX8_lowestClash : plainName mX8_lowestClash.1.cls = true := by decide +kernel
theorem mzX8_lowestClash : xMV mX8_lowestClash 1 := ⟨myX8_lowestClash, xT_of (i := 438) (by decide +kernel) (by decide +kernel), xT_of (i := 4) (by decide +kernel) (by decide +kernel)⟩
theorem myX0_clashesWith : xMy mX0_clashesWith 1 := ⟨xT_of (i := 443) (by decide +kernel) (by decide +kernel), ziX0, ⟨by decide +kernel, by decide +kernel, by decide +kernel⟩, by decide⟩
theorem mpX0_clashesWith : plainName mX0_clashesWith.1.cls = true := by decide +kernel
theorem mzX0_clashesWith : xMV mX0_clashesWith 1 := ⟨myX0_clashesWith, xT_of (i := 441) (by decide +kernel) (by decide +kernel), xT_of (i := 442) (by decide +kernel) (by decide +kernel)⟩
theorem mm_min : Cond.static Lib.Math.min.name ∈ xT ∧ Cond.initialized "java/lang/Math" ∈ xT ∧ Cond.code Lib.Math.min.name Lib.Math.min.code 2 (some .int) ∈ xT := ⟨xT_of (i := 446) (by decide +kernel) (by decide +kernel), xT_of (i := 36) (by decide +kernel) (by decide +kernel), xT_of (i := 447) (by decide +kernel) (by decide +kernel)⟩
theorem myX8_clash : xMy mX8_clash 0 := ⟨xT_of (i := 451) (by decide +kernel) (by decide +kernel), ziX8, ⟨by decide +kernel, by decide +kernel, by decide +kernel⟩, by decide⟩
theorem mpX8_clash : plainName mX8_clash.1.cls = true := by decide +kernel
theorem mzX8_clash : xMV mX8_clash 0 := ⟨myX8_clash, xT_of (i := 449) (by decide +kernel) (by decide +kernel), xT_of (i := 450) (by decide +kernel) (by decide +kernel)⟩
theorem myX8_leave : xMy mX8_leave 1 := ⟨xT_of (i := 455) (by decide +kernel) (by decide +kernel), ziX8, ⟨by decide +kernel, by decide +kernel, by decide +kernel⟩, by decide⟩
theorem mpX8_leave : plainName mX8_leave.1.cls = true := by decide +kernel
theorem mzX8_leave : xMV mX8_leave 1 := ⟨myX8_leave, xT_of (i := 453) (by decide +kernel) (by decide +kernel), xT_of (i := 454) (by decide +kernel) (by decide +kernel)⟩
theorem myX8_may : xMy mX8_may 1 := ⟨xT_of (i := 459) (by decide +kernel) (by decide +kernel), ziX8, ⟨by decide +kernel, by decide +kernel, by decide +kernel⟩, by decide⟩
theorem mpX8_may : plainName mX8_may.1.cls = true := by decide +kernel
theorem mzX8_may : xMV mX8_may 1 := ⟨myX8_may, xT_of (i := 457) (by decide +kernel) (by decide +kernel), xT_of (i := 458) (by decide +kernel) (by decide +kernel)⟩
theorem myX8_ticketOf : xMy mX8_ticketOf 1 := ⟨xT_of (i := 463) (by decide +kernel) (by decide +kernel), ziX8, ⟨by decide +kernel, by decide +kernel, by decide +kernel⟩, by decide⟩
theorem mpX8_ticketOf : plainName mX8_ticketOf.1.cls = true := by decide +kernel
theorem mzX8_ticketOf : xMV mX8_ticketOf 1 := ⟨myX8_ticketOf, xT_of (i := 462) (by decide +kernel) (by decide +kernel), xT_of (i := 5) (by decide +kernel) (by decide +kernel)⟩
theorem myX8_reasonAgainst : xMy mX8_reasonAgainst 1 := ⟨xT_of (i := 467) (by decide +kernel) (by decide +kernel), ziX8, ⟨by decide +kernel, by decide +kernel, by decide +kernel⟩, by decide⟩
theorem mpX8_reasonAgainst : plainName mX8_reasonAgainst.1.cls = true := by decide +kernel
theorem mzX8_reasonAgainst : xMV mX8_reasonAgainst 1 := ⟨myX8_reasonAgainst, xT_of (i := 466) (by decide +kernel) (by decide +kernel), xT_of (i := 6) (by decide +kernel) (by decide +kernel)⟩
theorem myX8_reasonAgainstHead : xMy mX8_reasonAgainstHead 1 := ⟨xT_of (i := 471) (by decide +kernel) (by decide +kernel), ziX8, ⟨by decide +kernel, by decide +kernel, by decide +kernel⟩, by decide⟩
theorem mpX8_reasonAgainstHead : plainName mX8_reasonAgainstHead.1.cls = true := by decide +kernel
theorem mzX8_reasonAgainstHead : xMV mX8_reasonAgainstHead 1 := ⟨myX8_reasonAgainstHead, xT_of (i := 470) (by decide +kernel) (by decide +kernel), xT_of (i := 7) (by decide +kernel) (by decide +kernel)⟩
theorem myX7_isItsTime : xMy mX7_isItsTime 1 := ⟨xT_of (i := 475) (by decide +kernel) (by decide +kernel), ziX7, ⟨by decide +kernel, by decide +kernel, by decide +kernel⟩, by decide⟩
theorem mpX7_isItsTime : plainName mX7_isItsTime.1.cls = true := by decide +kernel
theorem mzX7_isItsTime : xMV mX7_isItsTime 1 := ⟨myX7_isItsTime, xT_of (i := 473) (by decide +kernel) (by decide +kernel), xT_of (i := 474) (by decide +kernel) (by decide +kernel)⟩
theorem myX0_isThere : xMy mX0_isThere 1 := ⟨xT_of (i := 479) (by decide +kernel) (by decide +kernel), ziX0, ⟨by decide +kernel, by decide +kernel, by decide +kernel⟩, by decide⟩
theorem mpX0_isThere : plainName mX0_isThere.1.cls = true := by decide +kernel
theorem mzX0_isThere : xMV mX0_isThere 1 := ⟨myX0_isThere, xT_of (i := 477) (by decide +kernel) (by decide +kernel), xT_of (i := 478) (by decide +kernel) (by decide +kernel)⟩
theorem myX7_lacksTeacher : xMy mX7_lacksTeacher 0 := ⟨xT_of (i := 485) (by decide +kernel) (by decide +kernel), ziX7, ⟨by decide +kernel, by decide +kernel, by decide +kernel⟩, by decide⟩
theorem mpX7_lacksTeacher : plainName mX7_lacksTeacher.1.cls = true := by decide +kernel
theorem mzX7_lacksTeacher : xMV mX7_lacksTeacher 0 := ⟨myX7_lacksTeacher, xT_of (i := 483) (by decide +kernel) (by decide +kernel), xT_of (i := 484) (by decide +kernel) (by decide +kernel)⟩
theorem myX8_in : xMy mX8_in 1 := ⟨xT_of (i := 489) (by decide +kernel) (by decide +kernel), ziX8, ⟨by decide +kernel, by decide +kernel, by decide +kernel⟩, by decide⟩
theorem mpX8_in : plainName mX8_in.1.cls = true := by decide +kernel
theorem mzX8_in : xMV mX8_in 1 := ⟨myX8_in, xT_of (i := 487) (by decide +kernel) (by decide +kernel), xT_of (i := 488) (by decide +kernel) (by decide +kernel)⟩
theorem myX7_comeIn : xMy mX7_comeIn 1 := ⟨xT_of (i := 493) (by decide +kernel) (by decide +kernel), ziX7, ⟨by decide +kernel, by decide +kernel, by decide +kernel⟩, by decide⟩
theorem mpX7_comeIn : plainName mX7_comeIn.1.cls = true := by decide +kernel
theorem mzX7_comeIn : xMV mX7_comeIn 1 := ⟨myX7_comeIn, xT_of (i := 491) (by decide +kernel) (by decide +kernel), xT_of (i := 492) (by decide +kernel) (by decide +kernel)⟩
theorem myX0_pass : xMy mX0_pass 2 := ⟨xT_of (i := 497) (by decide +kernel) (by decide +kernel), ziX0, ⟨by decide +kernel, by decide +kernel, by decide +kernel⟩, by decide⟩
theorem mpX0_pass : plainName mX0_pass.1.cls = true := by decide +kernel
theorem mzX0_pass : xMV mX0_pass 2 := ⟨myX0_pass, xT_of (i := 495) (by decide +kernel) (by decide +kernel), xT_of (i := 496) (by decide +kernel) (by decide +kernel)⟩
theorem myX3_letIn : xMy mX3_letIn 1 := ⟨xT_of (i := 501) (by decide +kernel) (by decide +kernel), ziX3, ⟨by decide +kernel, by decide +kernel, by decide +kernel⟩, by decide⟩
theorem mpX3_letIn : plainName mX3_letIn.1.cls = true := by decide +kernel
theorem mzX3_letIn : xMV mX3_letIn 1 := ⟨myX3_letIn, xT_of (i := 499) (by decide +kernel) (by decide +kernel), xT_of (i := 500) (by decide +kernel) (by decide +kernel)⟩
theorem myX8_out : xMy mX8_out 1 := ⟨xT_of (i := 505) (by decide +kernel) (by decide +kernel), ziX8, ⟨by decide +kernel, by decide +kernel, by decide +kernel⟩, by decide⟩
theorem mpX8_out : plainName mX8_out.1.cls = true := by decide +kernel
theorem mzX8_out : xMV mX8_out 1 := ⟨myX8_out, xT_of (i := 503) (by decide +kernel) (by decide +kernel), xT_of (i := 504) (by decide +kernel) (by decide +kernel)⟩
theorem myX7_owes : xMy mX7_owes 1 := ⟨xT_of (i := 509) (by decide +kernel) (by decide +kernel), ziX7, ⟨by decide +kernel, by decide +kernel, by decide +kernel⟩, by decide⟩
theorem mpX7_owes : plainName mX7_owes.1.cls = true := by decide +kernel
theorem mzX7_owes : xMV mX7_owes 1 := ⟨myX7_owes, xT_of (i := 507) (by decide +kernel) (by decide +kernel), xT_of (i := 508) (by decide +kernel) (by decide +kernel)⟩
theorem myX7_minutesLeft : xMy mX7_minutesLeft 1 := ⟨xT_of (i := 513) (by decide +kernel) (by decide +kernel), ziX7, ⟨by decide +kernel, by decide +kernel, by decide +kernel⟩, by decide⟩
theorem mpX7_minutesLeft : plainName mX7_minutesLeft.1.cls = true := by decide +kernel
theorem mzX7_minutesLeft : xMV mX7_minutesLeft 1 := ⟨myX7_minutesLeft, xT_of (i := 511) (by decide +kernel) (by decide +kernel), xT_of (i := 512) (by decide +kernel) (by decide +kernel)⟩
theorem myX7_goOut : xMy mX7_goOut 2 := ⟨xT_of (i := 517) (by decide +kernel) (by decide +kernel), ziX7, ⟨by decide +kernel, by decide +kernel, by decide +kernel⟩, by decide⟩
theorem mpX7_goOut : plainName mX7_goOut.1.cls = true := by decide +kernel
theorem mzX7_goOut : xMV mX7_goOut 2 := ⟨myX7_goOut, xT_of (i := 515) (by decide +kernel) (by decide +kernel), xT_of (i := 516) (by decide +kernel) (by decide +kernel)⟩
theorem myX7_leavePost : xMy mX7_leavePost 1 := ⟨xT_of (i := 521) (by decide +kernel) (by decide +kernel), ziX7, ⟨by decide +kernel, by decide +kernel, by decide +kernel⟩, by decide⟩
theorem mpX7_leavePost : plainName mX7_leavePost.1.cls = true := by decide +kernel
theorem mzX7_leavePost : xMV mX7_leavePost 1 := ⟨myX7_leavePost, xT_of (i := 519) (by decide +kernel) (by decide +kernel), xT_of (i := 520) (by decide +kernel) (by decide +kernel)⟩
theorem myX3_letOut : xMy mX3_letOut 1 := ⟨xT_of (i := 525) (by decide +kernel) (by decide +kernel), ziX3, ⟨by decide +kernel, by decide +kernel, by decide +kernel⟩, by decide⟩
theorem mpX3_letOut : plainName mX3_letOut.1.cls = true := by decide +kernel
theorem mzX3_letOut : xMV mX3_letOut 1 := ⟨myX3_letOut, xT_of (i := 523) (by decide +kernel) (by decide +kernel), xT_of (i := 524) (by decide +kernel) (by decide +kernel)⟩
theorem myX2_lose : xMy mX2_lose 1 := ⟨xT_of (i := 529) (by decide +kernel) (by decide +kernel), ziX2, ⟨by decide +kernel, by decide +kernel, by decide +kernel⟩, by decide⟩
theorem mpX2_lose : plainName mX2_lose.1.cls = true := by decide +kernel
theorem mzX2_lose : xMV mX2_lose 1 := ⟨myX2_lose, xT_of (i := 527) (by decide +kernel) (by decide +kernel), xT_of (i := 528) (by decide +kernel) (by decide +kernel)⟩
theorem myX2_isLocker : xMy mX2_isLocker 1 := ⟨xT_of (i := 532) (by decide +kernel) (by decide +kernel), ziX2, ⟨by decide +kernel, by decide +kernel, by decide +kernel⟩, by decide⟩
theorem mpX2_isLocker : plainName mX2_isLocker.1.cls = true := by decide +kernel
theorem mzX2_isLocker : xMS mX2_isLocker 1 := ⟨myX2_isLocker, xT_of (i := 531) (by decide +kernel) (by decide +kernel)⟩
theorem myX8_eye : xMy mX8_eye 2 := ⟨xT_of (i := 536) (by decide +kernel) (by decide +kernel), ziX8, ⟨by decide +kernel, by decide +kernel, by decide +kernel⟩, by decide⟩
theorem mpX8_eye : plainName mX8_eye.1.cls = true := by decide +kernel
theorem mzX8_eye : xMV mX8_eye 2 := ⟨myX8_eye, xT_of (i := 534) (by decide +kernel) (by decide +kernel), xT_of (i := 535) (by decide +kernel) (by decide +kernel)⟩
theorem myX1_turnEye : xMy mX1_turnEye 1 := ⟨xT_of (i := 540) (by decide +kernel) (by decide +kernel), ziX1, ⟨by decide +kernel, by decide +kernel, by decide +kernel⟩, by decide⟩
theorem mpX1_turnEye : plainName mX1_turnEye.1.cls = true := by decide +kernel
theorem mzX1_turnEye : xMV mX1_turnEye 1 := ⟨myX1_turnEye, xT_of (i := 538) (by decide +kernel) (by decide +kernel), xT_of (i := 539) (by decide +kernel) (by decide +kernel)⟩
theorem myX8_hand : xMy mX8_hand 1 := ⟨xT_of (i := 544) (by decide +kernel) (by decide +kernel), ziX8, ⟨by decide +kernel, by decide +kernel, by decide +kernel⟩, by decide⟩
theorem mpX8_hand : plainName mX8_hand.1.cls = true := by decide +kernel
theorem mzX8_hand : xMV mX8_hand 1 := ⟨myX8_hand, xT_of (i := 542) (by decide +kernel) (by decide +kernel), xT_of (i := 543) (by decide +kernel) (by decide +kernel)⟩
theorem myX8_count : xMy mX8_count 2 := ⟨xT_of (i := 549) (by decide +kernel) (by decide +kernel), ziX8, ⟨by decide +kernel, by decide +kernel, by decide +kernel⟩, by decide⟩
theorem mpX8_count : plainName mX8_count.1.cls = true := by decide +kernel
theorem mzX8_count : xMV mX8_count 2 := ⟨myX8_count, xT_of (i := 547) (by decide +kernel) (by decide +kernel), xT_of (i := 548) (by decide +kernel) (by decide +kernel)⟩
theorem myX8_freeLanes : xMy mX8_freeLanes 1 := ⟨xT_of (i := 554) (by decide +kernel) (by decide +kernel), ziX8, ⟨by decide +kernel, by decide +kernel, by decide +kernel⟩, by decide⟩
theorem mpX8_freeLanes : plainName mX8_freeLanes.1.cls = true := by decide +kernel
theorem mzX8_freeLanes : xMV mX8_freeLanes 1 := ⟨myX8_freeLanes, xT_of (i := 553) (by decide +kernel) (by decide +kernel), xT_of (i := 8) (by decide +kernel) (by decide +kernel)⟩
theorem myJ6_bitCount_0f7a4 : xMy mJ6_bitCount_0f7a4 1 := ⟨xT_of (i := 558) (by decide +kernel) (by decide +kernel), xT_of (i := 41) (by decide +kernel) (by decide +kernel), ⟨by decide +kernel, by decide +kernel, by decide +kernel⟩, by decide⟩
theorem mpJ6_bitCount_0f7a4 : plainName mJ6_bitCount_0f7a4.1.cls = true := by decide +kernel
theorem mzJ6_bitCount_0f7a4 : xMS mJ6_bitCount_0f7a4 1 := ⟨myJ6_bitCount_0f7a4, xT_of (i := 557) (by decide +kernel) (by decide +kernel)⟩
theorem myX8_bounds : xMy mX8_bounds 4 := ⟨xT_of (i := 566) (by decide +kernel) (by decide +kernel), ziX8, ⟨by decide +kernel, by decide +kernel, by decide +kernel⟩, by decide⟩
theorem mpX8_bounds : plainName mX8_bounds.1.cls = true := by decide +kernel
theorem mzX8_bounds : xMV mX8_bounds 4 := ⟨myX8_bounds, xT_of (i := 564) (by decide +kernel) (by decide +kernel), xT_of (i := 565) (by decide +kernel) (by decide +kernel)⟩
theorem myX8_thingOf : xMy mX8_thingOf 2 := ⟨xT_of (i := 570) (by decide +kernel) (by decide +kernel), ziX8, ⟨by decide +kernel, by decide +kernel, by decide +kernel⟩, by decide⟩
theorem mpX8_thingOf : plainName mX8_thingOf.1.cls = true := by decide +kernel
theorem mzX8_thingOf : xMV mX8_thingOf 2 := ⟨myX8_thingOf, xT_of (i := 569) (by decide +kernel) (by decide +kernel), xT_of (i := 9) (by decide +kernel) (by decide +kernel)⟩
theorem myX8_measure : xMy mX8_measure 3 := ⟨xT_of (i := 576) (by decide +kernel) (by decide +kernel), ziX8, ⟨by decide +kernel, by decide +kernel, by decide +kernel⟩, by decide⟩
theorem mpX8_measure : plainName mX8_measure.1.cls = true := by decide +kernel
theorem mzX8_measure : xMV mX8_measure 3 := ⟨myX8_measure, xT_of (i := 574) (by decide +kernel) (by decide +kernel), xT_of (i := 575) (by decide +kernel) (by decide +kernel)⟩
theorem myX6_takeMeasure : xMy mX6_takeMeasure 2 := ⟨xT_of (i := 585) (by decide +kernel) (by decide +kernel), ziX6, ⟨by decide +kernel, by decide +kernel, by decide +kernel⟩, by decide⟩
theorem mpX6_takeMeasure : plainName mX6_takeMeasure.1.cls = true := by decide +kernel
theorem mzX6_takeMeasure : xMV mX6_takeMeasure 2 := ⟨myX6_takeMeasure, xT_of (i := 583) (by decide +kernel) (by decide +kernel), xT_of (i := 584) (by decide +kernel) (by decide +kernel)⟩
theorem myX8_put : xMy mX8_put 2 := ⟨xT_of (i := 589) (by decide +kernel) (by decide +kernel), ziX8, ⟨by decide +kernel, by decide +kernel, by decide +kernel⟩, by decide⟩
theorem mpX8_put : plainName mX8_put.1.cls = true := by decide +kernel
theorem mzX8_put : xMV mX8_put 2 := ⟨myX8_put, xT_of (i := 587) (by decide +kernel) (by decide +kernel), xT_of (i := 588) (by decide +kernel) (by decide +kernel)⟩
theorem myX8_shut : xMy mX8_shut 1 := ⟨xT_of (i := 594) (by decide +kernel) (by decide +kernel), ziX8, ⟨by decide +kernel, by decide +kernel, by decide +kernel⟩, by decide⟩
theorem mpX8_shut : plainName mX8_shut.1.cls = true := by decide +kernel
theorem mzX8_shut : xMV mX8_shut 1 := ⟨myX8_shut, xT_of (i := 592) (by decide +kernel) (by decide +kernel), xT_of (i := 593) (by decide +kernel) (by decide +kernel)⟩
theorem myX8_minutes : xMy mX8_minutes 1 := ⟨xT_of (i := 598) (by decide +kernel) (by decide +kernel), ziX8, ⟨by decide +kernel, by decide +kernel, by decide +kernel⟩, by decide⟩
theorem mpX8_minutes : plainName mX8_minutes.1.cls = true := by decide +kernel
theorem mzX8_minutes : xMV mX8_minutes 1 := ⟨myX8_minutes, xT_of (i := 596) (by decide +kernel) (by decide +kernel), xT_of (i := 597) (by decide +kernel) (by decide +kernel)⟩
theorem myX8_post : xMy mX8_post 3 := ⟨xT_of (i := 602) (by decide +kernel) (by decide +kernel), ziX8, ⟨by decide +kernel, by decide +kernel, by decide +kernel⟩, by decide⟩
theorem mpX8_post : plainName mX8_post.1.cls = true := by decide +kernel
theorem mzX8_post : xMV mX8_post 3 := ⟨myX8_post, xT_of (i := 600) (by decide +kernel) (by decide +kernel), xT_of (i := 601) (by decide +kernel) (by decide +kernel)⟩
theorem myX8_postOf : xMy mX8_postOf 2 := ⟨xT_of (i := 606) (by decide +kernel) (by decide +kernel), ziX8, ⟨by decide +kernel, by decide +kernel, by decide +kernel⟩, by decide⟩
theorem mpX8_postOf : plainName mX8_postOf.1.cls = true := by decide +kernel
theorem mzX8_postOf : xMV mX8_postOf 2 := ⟨myX8_postOf, xT_of (i := 605) (by decide +kernel) (by decide +kernel), xT_of (i := 10) (by decide +kernel) (by decide +kernel)⟩
theorem myX7_mayStand : xMy mX7_mayStand 1 := ⟨xT_of (i := 610) (by decide +kernel) (by decide +kernel), ziX7, ⟨by decide +kernel, by decide +kernel, by decide +kernel⟩, by decide⟩
theorem mpX7_mayStand : plainName mX7_mayStand.1.cls = true := by decide +kernel
theorem mzX7_mayStand : xMV mX7_mayStand 1 := ⟨myX7_mayStand, xT_of (i := 608) (by decide +kernel) (by decide +kernel), xT_of (i := 609) (by decide +kernel) (by decide +kernel)⟩
theorem myX7_standAt : xMy mX7_standAt 2 := ⟨xT_of (i := 615) (by decide +kernel) (by decide +kernel), ziX7, ⟨by decide +kernel, by decide +kernel, by decide +kernel⟩, by decide⟩
theorem mpX7_standAt : plainName mX7_standAt.1.cls = true := by decide +kernel
theorem mzX7_standAt : xMV mX7_standAt 2 := ⟨myX7_standAt, xT_of (i := 613) (by decide +kernel) (by decide +kernel), xT_of (i := 614) (by decide +kernel) (by decide +kernel)⟩
theorem myX8_numberOf : xMy mX8_numberOf 1 := ⟨xT_of (i := 618) (by decide +kernel) (by decide +kernel), ziX8, ⟨by decide +kernel, by decide +kernel, by decide +kernel⟩, by decide⟩
theorem mpX8_numberOf : plainName mX8_numberOf.1.cls = true := by decide +kernel
theorem mzX8_numberOf : xMS mX8_numberOf 1 := ⟨myX8_numberOf, xT_of (i := 617) (by decide +kernel) (by decide +kernel)⟩
theorem myX8_watcher : xMy mX8_watcher 2 := ⟨xT_of (i := 622) (by decide +kernel) (by decide +kernel), ziX8, ⟨by decide +kernel, by decide +kernel, by decide +kernel⟩, by decide⟩
theorem mpX8_watcher : plainName mX8_watcher.1.cls = true := by decide +kernel
theorem mzX8_watcher : xMV mX8_watcher 2 := ⟨myX8_watcher, xT_of (i := 620) (by decide +kernel) (by decide +kernel), xT_of (i := 621) (by decide +kernel) (by decide +kernel)⟩
theorem myX8_key : xMy mX8_key 1 := ⟨xT_of (i := 626) (by decide +kernel) (by decide +kernel), ziX8, ⟨by decide +kernel, by decide +kernel, by decide +kernel⟩, by decide⟩
theorem mpX8_key : plainName mX8_key.1.cls = true := by decide +kernel
theorem mzX8_key : xMV mX8_key 1 := ⟨myX8_key, xT_of (i := 624) (by decide +kernel) (by decide +kernel), xT_of (i := 625) (by decide +kernel) (by decide +kernel)⟩
theorem myX2_takeLowest : xMy mX2_takeLowest 1 := ⟨xT_of (i := 630) (by decide +kernel) (by decide +kernel), ziX2, ⟨by decide +kernel, by decide +kernel, by decide +kernel⟩, by decide⟩
theorem mpX2_takeLowest : plainName mX2_takeLowest.1.cls = true := by decide +kernel
theorem mzX2_takeLowest : xMV mX2_takeLowest 1 := ⟨myX2_takeLowest, xT_of (i := 628) (by decide +kernel) (by decide +kernel), xT_of (i := 629) (by decide +kernel) (by decide +kernel)⟩
theorem myX8_give : xMy mX8_give 1 := ⟨xT_of (i := 634) (by decide +kernel) (by decide +kernel), ziX8, ⟨by decide +kernel, by decide +kernel, by decide +kernel⟩, by decide⟩
theorem mpX8_give : plainName mX8_give.1.cls = true := by decide +kernel
theorem mzX8_give : xMV mX8_give 1 := ⟨myX8_give, xT_of (i := 632) (by decide +kernel) (by decide +kernel), xT_of (i := 633) (by decide +kernel) (by decide +kernel)⟩
theorem myX2_hangKey : xMy mX2_hangKey 1 := ⟨xT_of (i := 638) (by decide +kernel) (by decide +kernel), ziX2, ⟨by decide +kernel, by decide +kernel, by decide +kernel⟩, by decide⟩
theorem mpX2_hangKey : plainName mX2_hangKey.1.cls = true := by decide +kernel
theorem mzX2_hangKey : xMV mX2_hangKey 1 := ⟨myX2_hangKey, xT_of (i := 636) (by decide +kernel) (by decide +kernel), xT_of (i := 637) (by decide +kernel) (by decide +kernel)⟩
theorem myX8_mend : xMy mX8_mend 1 := ⟨xT_of (i := 642) (by decide +kernel) (by decide +kernel), ziX8, ⟨by decide +kernel, by decide +kernel, by decide +kernel⟩, by decide⟩
theorem mpX8_mend : plainName mX8_mend.1.cls = true := by decide +kernel
theorem mzX8_mend : xMV mX8_mend 1 := ⟨myX8_mend, xT_of (i := 640) (by decide +kernel) (by decide +kernel), xT_of (i := 641) (by decide +kernel) (by decide +kernel)⟩
theorem myX8_locker : xMy mX8_locker 1 := ⟨xT_of (i := 647) (by decide +kernel) (by decide +kernel), ziX8, ⟨by decide +kernel, by decide +kernel, by decide +kernel⟩, by decide⟩
theorem mpX8_locker : plainName mX8_locker.1.cls = true := by decide +kernel
theorem mzX8_locker : xMV mX8_locker 1 := ⟨myX8_locker, xT_of (i := 645) (by decide +kernel) (by decide +kernel), xT_of (i := 646) (by decide +kernel) (by decide +kernel)⟩
theorem myX8_told : xMy mX8_told 2 := ⟨xT_of (i := 651) (by decide +kernel) (by decide +kernel), ziX8, ⟨by decide +kernel, by decide +kernel, by decide +kernel⟩, by decide⟩
theorem mpX8_told : plainName mX8_told.1.cls = true := by decide +kernel
theorem mzX8_told : xMV mX8_told 2 := ⟨myX8_told, xT_of (i := 649) (by decide +kernel) (by decide +kernel), xT_of (i := 650) (by decide +kernel) (by decide +kernel)⟩
theorem myX8_pump : xMy mX8_pump 3 := ⟨xT_of (i := 656) (by decide +kernel) (by decide +kernel), ziX8, ⟨by decide +kernel, by decide +kernel, by decide +kernel⟩, by decide⟩
theorem mpX8_pump : plainName mX8_pump.1.cls = true := by decide +kernel
theorem mzX8_pump : xMV mX8_pump 3 := ⟨myX8_pump, xT_of (i := 654) (by decide +kernel) (by decide +kernel), xT_of (i := 655) (by decide +kernel) (by decide +kernel)⟩
theorem myX8_price : xMy mX8_price 2 := ⟨xT_of (i := 660) (by decide +kernel) (by decide +kernel), ziX8, ⟨by decide +kernel, by decide +kernel, by decide +kernel⟩, by decide⟩
theorem mpX8_price : plainName mX8_price.1.cls = true := by decide +kernel
theorem mzX8_price : xMV mX8_price 2 := ⟨myX8_price, xT_of (i := 658) (by decide +kernel) (by decide +kernel), xT_of (i := 659) (by decide +kernel) (by decide +kernel)⟩
theorem myX8_turn : xMy mX8_turn 2 := ⟨xT_of (i := 664) (by decide +kernel) (by decide +kernel), ziX8, ⟨by decide +kernel, by decide +kernel, by decide +kernel⟩, by decide⟩
theorem mpX8_turn : plainName mX8_turn.1.cls = true := by decide +kernel
theorem mzX8_turn : xMV mX8_turn 2 := ⟨myX8_turn, xT_of (i := 662) (by decide +kernel) (by decide +kernel), xT_of (i := 663) (by decide +kernel) (by decide +kernel)⟩
theorem myX8_hoursNeeded : xMy mX8_hoursNeeded 3 := ⟨xT_of (i := 667) (by decide +kernel) (by decide +kernel), ziX8, ⟨by decide +kernel, by decide +kernel, by decide +kernel⟩, by decide⟩
theorem mpX8_hoursNeeded : plainName mX8_hoursNeeded.1.cls = true := by decide +kernel
theorem mzX8_hoursNeeded : xMS mX8_hoursNeeded 3 := ⟨myX8_hoursNeeded, xT_of (i := 666) (by decide +kernel) (by decide +kernel)⟩
theorem myX5_takeCheapest : xMy mX5_takeCheapest 1 := ⟨xT_of (i := 671) (by decide +kernel) (by decide +kernel), ziX5, ⟨by decide +kernel, by decide +kernel, by decide +kernel⟩, by decide⟩
theorem mpX5_takeCheapest : plainName mX5_takeCheapest.1.cls = true := by decide +kernel
theorem mzX5_takeCheapest : xMV mX5_takeCheapest 1 := ⟨myX5_takeCheapest, xT_of (i := 669) (by decide +kernel) (by decide +kernel), xT_of (i := 670) (by decide +kernel) (by decide +kernel)⟩
theorem myX5_takeNext : xMy mX5_takeNext 0 := ⟨xT_of (i := 675) (by decide +kernel) (by decide +kernel), ziX5, ⟨by decide +kernel, by decide +kernel, by decide +kernel⟩, by decide⟩
theorem mpX5_takeNext : plainName mX5_takeNext.1.cls = true := by decide +kernel
theorem mzX5_takeNext : xMV mX5_takeNext 0 := ⟨myX5_takeNext, xT_of (i := 674) (by decide +kernel) (by decide +kernel), xT_of (i := 11) (by decide +kernel) (by decide +kernel)⟩
theorem myX8_hour : xMy mX8_hour 1 := ⟨xT_of (i := 679) (by decide +kernel) (by decide +kernel), ziX8, ⟨by decide +kernel, by decide +kernel, by decide +kernel⟩, by decide⟩
theorem mpX8_hour : plainName mX8_hour.1.cls = true := by decide +kernel
theorem mzX8_hour : xMV mX8_hour 1 := ⟨myX8_hour, xT_of (i := 677) (by decide +kernel) (by decide +kernel), xT_of (i := 678) (by decide +kernel) (by decide +kernel)⟩
theorem myX8_all : xMy mX8_all 1 := ⟨xT_of (i := 683) (by decide +kernel) (by decide +kernel), ziX8, ⟨by decide +kernel, by decide +kernel, by decide +kernel⟩, by decide⟩
theorem mpX8_all : plainName mX8_all.1.cls = true := by decide +kernel
theorem mzX8_all : xMV mX8_all 1 := ⟨myX8_all, xT_of (i := 681) (by decide +kernel) (by decide +kernel), xT_of (i := 682) (by decide +kernel) (by decide +kernel)⟩
theorem myX2_lostOnes : xMy mX2_lostOnes 0 := ⟨xT_of (i := 687) (by decide +kernel) (by decide +kernel), ziX2, ⟨by decide +kernel, by decide +kernel, by decide +kernel⟩, by decide⟩
theorem mpX2_lostOnes : plainName mX2_lostOnes.1.cls = true := by decide +kernel
theorem mzX2_lostOnes : xMV mX2_lostOnes 0 := ⟨myX2_lostOnes, xT_of (i := 685) (by decide +kernel) (by decide +kernel), xT_of (i := 686) (by decide +kernel) (by decide +kernel)⟩
theorem myX8_insideAllPools : xMy mX8_insideAllPools 0 := ⟨xT_of (i := 691) (by decide +kernel) (by decide +kernel), ziX8, ⟨by decide +kernel, by decide +kernel, by decide +kernel⟩, by decide⟩
theorem mpX8_insideAllPools : plainName mX8_insideAllPools.1.cls = true := by decide +kernel
theorem mzX8_insideAllPools : xMV mX8_insideAllPools 0 := ⟨myX8_insideAllPools, xT_of (i := 690) (by decide +kernel) (by decide +kernel), xT_of (i := 12) (by decide +kernel) (by decide +kernel)⟩
theorem myX2_keysOut : xMy mX2_keysOut 0 := ⟨xT_of (i := 695) (by decide +kernel) (by decide +kernel), ziX2, ⟨by decide +kernel, by decide +kernel, by decide +kernel⟩, by decide⟩
theorem mpX2_keysOut : plainName mX2_keysOut.1.cls = true := by decide +kernel
theorem mzX2_keysOut : xMV mX2_keysOut 0 := ⟨myX2_keysOut, xT_of (i := 693) (by decide +kernel) (by decide +kernel), xT_of (i := 694) (by decide +kernel) (by decide +kernel)⟩
theorem myX9_init : xMy mX9_init 0 := ⟨xT_of (i := 700) (by decide +kernel) (by decide +kernel), ziX9, ⟨by decide +kernel, by decide +kernel, by decide +kernel⟩, by decide⟩
theorem mpX9_init : plainName mX9_init.1.cls = true := by decide +kernel
theorem mzX9_init : xMI mX9_init 0 := ⟨myX9_init, xT_of (i := 699) (by decide +kernel) (by decide +kernel), by decide +kernel, rfl⟩
theorem myX9_pool : xMy mX9_pool 4 := ⟨xT_of (i := 850) (by decide +kernel) (by decide +kernel), ziX9, ⟨by decide +kernel, by decide +kernel, by decide +kernel⟩, by decide⟩
theorem mpX9_pool : plainName mX9_pool.1.cls = true := by decide +kernel
theorem mzX9_pool : xMV mX9_pool 4 := ⟨myX9_pool, xT_of (i := 848) (by decide +kernel) (by decide +kernel), xT_of (i := 849) (by decide +kernel) (by decide +kernel)⟩
theorem myX9_in : xMy mX9_in 3 := ⟨xT_of (i := 853) (by decide +kernel) (by decide +kernel), ziX9, ⟨by decide +kernel, by decide +kernel, by decide +kernel⟩, by decide⟩
theorem mpX9_in : plainName mX9_in.1.cls = true := by decide +kernel
theorem mzX9_in : xMS mX9_in 3 := ⟨myX9_in, xT_of (i := 852) (by decide +kernel) (by decide +kernel)⟩
theorem myX9_go : xMy mX9_go 1 := ⟨xT_of (i := 857) (by decide +kernel) (by decide +kernel), ziX9, ⟨by decide +kernel, by decide +kernel, by decide +kernel⟩, by decide⟩
theorem mpX9_go : plainName mX9_go.1.cls = true := by decide +kernel
theorem mzX9_go : xMV mX9_go 1 := ⟨myX9_go, xT_of (i := 855) (by decide +kernel) (by decide +kernel), xT_of (i := 856) (by decide +kernel) (by decide +kernel)⟩
theorem myX9_reasons : xMy mX9_reasons 1 := ⟨xT_of (i := 861) (by decide +kernel) (by decide +kernel), ziX9, ⟨by decide +kernel, by decide +kernel, by decide +kernel⟩, by decide⟩
theorem mpX9_reasons : plainName mX9_reasons.1.cls = true := by decide +kernel
theorem mzX9_reasons : xMV mX9_reasons 1 := ⟨myX9_reasons, xT_of (i := 860) (by decide +kernel) (by decide +kernel), xT_of (i := 13) (by decide +kernel) (by decide +kernel)⟩
theorem myX9_isFilled : xMy mX9_isFilled 1 := ⟨xT_of (i := 865) (by decide +kernel) (by decide +kernel), ziX9, ⟨by decide +kernel, by decide +kernel, by decide +kernel⟩, by decide⟩
theorem mpX9_isFilled : plainName mX9_isFilled.1.cls = true := by decide +kernel
theorem mzX9_isFilled : xMV mX9_isFilled 1 := ⟨myX9_isFilled, xT_of (i := 864) (by decide +kernel) (by decide +kernel), xT_of (i := 14) (by decide +kernel) (by decide +kernel)⟩
theorem myX9_leastNow : xMy mX9_leastNow 1 := ⟨xT_of (i := 869) (by decide +kernel) (by decide +kernel), ziX9, ⟨by decide +kernel, by decide +kernel, by decide +kernel⟩, by decide⟩
theorem mpX9_leastNow : plainName mX9_leastNow.1.cls = true := by decide +kernel
theorem mzX9_leastNow : xMV mX9_leastNow 1 := ⟨myX9_leastNow, xT_of (i := 868) (by decide +kernel) (by decide +kernel), xT_of (i := 15) (by decide +kernel) (by decide +kernel)⟩
theorem myX9_mostNow : xMy mX9_mostNow 1 := ⟨xT_of (i := 873) (by decide +kernel) (by decide +kernel), ziX9, ⟨by decide +kernel, by decide +kernel, by decide +kernel⟩, by decide⟩
theorem mpX9_mostNow : plainName mX9_mostNow.1.cls = true := by decide +kernel
theorem mzX9_mostNow : xMV mX9_mostNow 1 := ⟨myX9_mostNow, xT_of (i := 872) (by decide +kernel) (by decide +kernel), xT_of (i := 16) (by decide +kernel) (by decide +kernel)⟩
theorem myX9_begins : xMy mX9_begins 3 := ⟨xT_of (i := 877) (by decide +kernel) (by decide +kernel), ziX9, ⟨by decide +kernel, by decide +kernel, by decide +kernel⟩, by decide⟩
theorem mpX9_begins : plainName mX9_begins.1.cls = true := by decide +kernel
theorem mzX9_begins : xMV mX9_begins 3 := ⟨myX9_begins, xT_of (i := 876) (by decide +kernel) (by decide +kernel), xT_of (i := 17) (by decide +kernel) (by decide +kernel)⟩
theorem myX9_eye : xMy mX9_eye 2 := ⟨xT_of (i := 881) (by decide +kernel) (by decide +kernel), ziX9, ⟨by decide +kernel, by decide +kernel, by decide +kernel⟩, by decide⟩
theorem mpX9_eye : plainName mX9_eye.1.cls = true := by decide +kernel
theorem mzX9_eye : xMV mX9_eye 2 := ⟨myX9_eye, xT_of (i := 879) (by decide +kernel) (by decide +kernel), xT_of (i := 880) (by decide +kernel) (by decide +kernel)⟩
theorem myX9_has : xMy mX9_has 1 := ⟨xT_of (i := 885) (by decide +kernel) (by decide +kernel), ziX9, ⟨by decide +kernel, by decide +kernel, by decide +kernel⟩, by decide⟩
theorem mpX9_has : plainName mX9_has.1.cls = true := by decide +kernel
theorem mzX9_has : xMV mX9_has 1 := ⟨myX9_has, xT_of (i := 884) (by decide +kernel) (by decide +kernel), xT_of (i := 18) (by decide +kernel) (by decide +kernel)⟩
theorem myX9_hand : xMy mX9_hand 1 := ⟨xT_of (i := 889) (by decide +kernel) (by decide +kernel), ziX9, ⟨by decide +kernel, by decide +kernel, by decide +kernel⟩, by decide⟩
theorem mpX9_hand : plainName mX9_hand.1.cls = true := by decide +kernel
theorem mzX9_hand : xMV mX9_hand 1 := ⟨myX9_hand, xT_of (i := 887) (by decide +kernel) (by decide +kernel), xT_of (i := 888) (by decide +kernel) (by decide +kernel)⟩
theorem myX9_truth : xMy mX9_truth 2 := ⟨xT_of (i := 893) (by decide +kernel) (by decide +kernel), ziX9, ⟨by decide +kernel, by decide +kernel, by decide +kernel⟩, by decide⟩
theorem mpX9_truth : plainName mX9_truth.1.cls = true := by decide +kernel
theorem mzX9_truth : xMV mX9_truth 2 := ⟨myX9_truth, xT_of (i := 892) (by decide +kernel) (by decide +kernel), xT_of (i := 19) (by decide +kernel) (by decide +kernel)⟩
theorem myX9_club : xMy mX9_club 5 := ⟨xT_of (i := 897) (by decide +kernel) (by decide +kernel), ziX9, ⟨by decide +kernel, by decide +kernel, by decide +kernel⟩, by decide⟩
theorem mpX9_club : plainName mX9_club.1.cls = true := by decide +kernel
theorem mzX9_club : xMV mX9_club 5 := ⟨myX9_club, xT_of (i := 895) (by decide +kernel) (by decide +kernel), xT_of (i := 896) (by decide +kernel) (by decide +kernel)⟩
theorem myX9_clash : xMy mX9_clash 0 := ⟨xT_of (i := 901) (by decide +kernel) (by decide +kernel), ziX9, ⟨by decide +kernel, by decide +kernel, by decide +kernel⟩, by decide⟩
theorem mpX9_clash : plainName mX9_clash.1.cls = true := by decide +kernel
theorem mzX9_clash : xMV mX9_clash 0 := ⟨myX9_clash, xT_of (i := 899) (by decide +kernel) (by decide +kernel), xT_of (i := 900) (by decide +kernel) (by decide +kernel)⟩
theorem myX9_leave : xMy mX9_leave 1 := ⟨xT_of (i := 905) (by decide +kernel) (by decide +kernel), ziX9, ⟨by decide +kernel, by decide +kernel, by decide +kernel⟩, by decide⟩
theorem mpX9_leave : plainName mX9_leave.1.cls = true := by decide +kernel
theorem mzX9_leave : xMV mX9_leave 1 := ⟨myX9_leave, xT_of (i := 903) (by decide +kernel) (by decide +kernel), xT_of (i := 904) (by decide +kernel) (by decide +kernel)⟩
theorem myX9_bounds : xMy mX9_bounds 4 := ⟨xT_of (i := 909) (by decide +kernel) (by decide +kernel), ziX9, ⟨by decide +kernel, by decide +kernel, by decide +kernel⟩, by decide⟩
theorem mpX9_bounds : plainName mX9_bounds.1.cls = true := by decide +kernel
theorem mzX9_bounds : xMV mX9_bounds 4 := ⟨myX9_bounds, xT_of (i := 907) (by decide +kernel) (by decide +kernel), xT_of (i := 908) (by decide +kernel) (by decide +kernel)⟩
theorem myX9_measure : xMy mX9_measure 3 := ⟨xT_of (i := 915) (by decide +kernel) (by decide +kernel), ziX9, ⟨by decide +kernel, by decide +kernel, by decide +kernel⟩, by decide⟩
theorem mpX9_measure : plainName mX9_measure.1.cls = true := by decide +kernel
theorem mzX9_measure : xMV mX9_measure 3 := ⟨myX9_measure, xT_of (i := 913) (by decide +kernel) (by decide +kernel), xT_of (i := 914) (by decide +kernel) (by decide +kernel)⟩
theorem myX9_put : xMy mX9_put 2 := ⟨xT_of (i := 924) (by decide +kernel) (by decide +kernel), ziX9, ⟨by decide +kernel, by decide +kernel, by decide +kernel⟩, by decide⟩
theorem mpX9_put : plainName mX9_put.1.cls = true := by decide +kernel
theorem mzX9_put : xMV mX9_put 2 := ⟨myX9_put, xT_of (i := 922) (by decide +kernel) (by decide +kernel), xT_of (i := 923) (by decide +kernel) (by decide +kernel)⟩
theorem myX9_shut : xMy mX9_shut 1 := ⟨xT_of (i := 928) (by decide +kernel) (by decide +kernel), ziX9, ⟨by decide +kernel, by decide +kernel, by decide +kernel⟩, by decide⟩
theorem mpX9_shut : plainName mX9_shut.1.cls = true := by decide +kernel
theorem mzX9_shut : xMV mX9_shut 1 := ⟨myX9_shut, xT_of (i := 926) (by decide +kernel) (by decide +kernel), xT_of (i := 927) (by decide +kernel) (by decide +kernel)⟩
theorem myX9_minutes : xMy mX9_minutes 1 := ⟨xT_of (i := 932) (by decide +kernel) (by decide +kernel), ziX9, ⟨by decide +kernel, by decide +kernel, by decide +kernel⟩, by decide⟩
theorem mpX9_minutes : plainName mX9_minutes.1.cls = true := by decide +kernel
theorem mzX9_minutes : xMV mX9_minutes 1 := ⟨myX9_minutes, xT_of (i := 930) (by decide +kernel) (by decide +kernel), xT_of (i := 931) (by decide +kernel) (by decide +kernel)⟩
theorem myX9_ticket : xMy mX9_ticket 4 := ⟨xT_of (i := 936) (by decide +kernel) (by decide +kernel), ziX9, ⟨by decide +kernel, by decide +kernel, by decide +kernel⟩, by decide⟩
theorem mpX9_ticket : plainName mX9_ticket.1.cls = true := by decide +kernel
theorem mzX9_ticket : xMV mX9_ticket 4 := ⟨myX9_ticket, xT_of (i := 934) (by decide +kernel) (by decide +kernel), xT_of (i := 935) (by decide +kernel) (by decide +kernel)⟩
theorem myX9_may : xMy mX9_may 1 := ⟨xT_of (i := 940) (by decide +kernel) (by decide +kernel), ziX9, ⟨by decide +kernel, by decide +kernel, by decide +kernel⟩, by decide⟩
theorem mpX9_may : plainName mX9_may.1.cls = true := by decide +kernel
theorem mzX9_may : xMV mX9_may 1 := ⟨myX9_may, xT_of (i := 938) (by decide +kernel) (by decide +kernel), xT_of (i := 939) (by decide +kernel) (by decide +kernel)⟩
theorem myX9_isTicket : xMy mX9_isTicket 1 := ⟨xT_of (i := 944) (by decide +kernel) (by decide +kernel), ziX9, ⟨by decide +kernel, by decide +kernel, by decide +kernel⟩, by decide⟩
theorem mpX9_isTicket : plainName mX9_isTicket.1.cls = true := by decide +kernel
theorem mzX9_isTicket : xMV mX9_isTicket 1 := ⟨myX9_isTicket, xT_of (i := 943) (by decide +kernel) (by decide +kernel), xT_of (i := 20) (by decide +kernel) (by decide +kernel)⟩
theorem myX9_isClubbed : xMy mX9_isClubbed 1 := ⟨xT_of (i := 948) (by decide +kernel) (by decide +kernel), ziX9, ⟨by decide +kernel, by decide +kernel, by decide +kernel⟩, by decide⟩
theorem mpX9_isClubbed : plainName mX9_isClubbed.1.cls = true := by decide +kernel
theorem mzX9_isClubbed : xMV mX9_isClubbed 1 := ⟨myX9_isClubbed, xT_of (i := 947) (by decide +kernel) (by decide +kernel), xT_of (i := 21) (by decide +kernel) (by decide +kernel)⟩
theorem myX9_isThere : xMy mX9_isThere 1 := ⟨xT_of (i := 952) (by decide +kernel) (by decide +kernel), ziX9, ⟨by decide +kernel, by decide +kernel, by decide +kernel⟩, by decide⟩
theorem mpX9_isThere : plainName mX9_isThere.1.cls = true := by decide +kernel
theorem mzX9_isThere : xMV mX9_isThere 1 := ⟨myX9_isThere, xT_of (i := 951) (by decide +kernel) (by decide +kernel), xT_of (i := 22) (by decide +kernel) (by decide +kernel)⟩
theorem myX9_inSchool : xMy mX9_inSchool 2 := ⟨xT_of (i := 956) (by decide +kernel) (by decide +kernel), ziX9, ⟨by decide +kernel, by decide +kernel, by decide +kernel⟩, by decide⟩
theorem mpX9_inSchool : plainName mX9_inSchool.1.cls = true := by decide +kernel
theorem mzX9_inSchool : xMV mX9_inSchool 2 := ⟨myX9_inSchool, xT_of (i := 955) (by decide +kernel) (by decide +kernel), xT_of (i := 23) (by decide +kernel) (by decide +kernel)⟩
theorem myX9_in_ : xMy mX9_in_ 1 := ⟨xT_of (i := 960) (by decide +kernel) (by decide +kernel), ziX9, ⟨by decide +kernel, by decide +kernel, by decide +kernel⟩, by decide⟩
theorem mpX9_in_ : plainName mX9_in_.1.cls = true := by decide +kernel
theorem mzX9_in_ : xMV mX9_in_ 1 := ⟨myX9_in_, xT_of (i := 958) (by decide +kernel) (by decide +kernel), xT_of (i := 959) (by decide +kernel) (by decide +kernel)⟩
theorem myX9_out : xMy mX9_out 1 := ⟨xT_of (i := 965) (by decide +kernel) (by decide +kernel), ziX9, ⟨by decide +kernel, by decide +kernel, by decide +kernel⟩, by decide⟩
theorem mpX9_out : plainName mX9_out.1.cls = true := by decide +kernel
theorem mzX9_out : xMV mX9_out 1 := ⟨myX9_out, xT_of (i := 963) (by decide +kernel) (by decide +kernel), xT_of (i := 964) (by decide +kernel) (by decide +kernel)⟩
theorem myX9_beyond : xMy mX9_beyond 1 := ⟨xT_of (i := 969) (by decide +kernel) (by decide +kernel), ziX9, ⟨by decide +kernel, by decide +kernel, by decide +kernel⟩, by decide⟩
theorem mpX9_beyond : plainName mX9_beyond.1.cls = true := by decide +kernel
theorem mzX9_beyond : xMV mX9_beyond 1 := ⟨myX9_beyond, xT_of (i := 968) (by decide +kernel) (by decide +kernel), xT_of (i := 24) (by decide +kernel) (by decide +kernel)⟩
theorem myX9_isTimed : xMy mX9_isTimed 1 := ⟨xT_of (i := 973) (by decide +kernel) (by decide +kernel), ziX9, ⟨by decide +kernel, by decide +kernel, by decide +kernel⟩, by decide⟩
theorem mpX9_isTimed : plainName mX9_isTimed.1.cls = true := by decide +kernel
theorem mzX9_isTimed : xMV mX9_isTimed 1 := ⟨myX9_isTimed, xT_of (i := 972) (by decide +kernel) (by decide +kernel), xT_of (i := 25) (by decide +kernel) (by decide +kernel)⟩
theorem myX9_leaves : xMy mX9_leaves 1 := ⟨xT_of (i := 977) (by decide +kernel) (by decide +kernel), ziX9, ⟨by decide +kernel, by decide +kernel, by decide +kernel⟩, by decide⟩
theorem mpX9_leaves : plainName mX9_leaves.1.cls = true := by decide +kernel
theorem mzX9_leaves : xMV mX9_leaves 1 := ⟨myX9_leaves, xT_of (i := 976) (by decide +kernel) (by decide +kernel), xT_of (i := 26) (by decide +kernel) (by decide +kernel)⟩
theorem myX9_lockerOf : xMy mX9_lockerOf 1 := ⟨xT_of (i := 981) (by decide +kernel) (by decide +kernel), ziX9, ⟨by decide +kernel, by decide +kernel, by decide +kernel⟩, by decide⟩
theorem mpX9_lockerOf : plainName mX9_lockerOf.1.cls = true := by decide +kernel
theorem mzX9_lockerOf : xMV mX9_lockerOf 1 := ⟨myX9_lockerOf, xT_of (i := 980) (by decide +kernel) (by decide +kernel), xT_of (i := 27) (by decide +kernel) (by decide +kernel)⟩
theorem myX9_post : xMy mX9_post 3 := ⟨xT_of (i := 985) (by decide +kernel) (by decide +kernel), ziX9, ⟨by decide +kernel, by decide +kernel, by decide +kernel⟩, by decide⟩
theorem mpX9_post : plainName mX9_post.1.cls = true := by decide +kernel
theorem mzX9_post : xMV mX9_post 3 := ⟨myX9_post, xT_of (i := 983) (by decide +kernel) (by decide +kernel), xT_of (i := 984) (by decide +kernel) (by decide +kernel)⟩
theorem myX9_watcher : xMy mX9_watcher 2 := ⟨xT_of (i := 989) (by decide +kernel) (by decide +kernel), ziX9, ⟨by decide +kernel, by decide +kernel, by decide +kernel⟩, by decide⟩
theorem mpX9_watcher : plainName mX9_watcher.1.cls = true := by decide +kernel
theorem mzX9_watcher : xMV mX9_watcher 2 := ⟨myX9_watcher, xT_of (i := 987) (by decide +kernel) (by decide +kernel), xT_of (i := 988) (by decide +kernel) (by decide +kernel)⟩
theorem myX9_key : xMy mX9_key 1 := ⟨xT_of (i := 993) (by decide +kernel) (by decide +kernel), ziX9, ⟨by decide +kernel, by decide +kernel, by decide +kernel⟩, by decide⟩
theorem mpX9_key : plainName mX9_key.1.cls = true := by decide +kernel
theorem mzX9_key : xMV mX9_key 1 := ⟨myX9_key, xT_of (i := 991) (by decide +kernel) (by decide +kernel), xT_of (i := 992) (by decide +kernel) (by decide +kernel)⟩
theorem myX9_give : xMy mX9_give 1 := ⟨xT_of (i := 997) (by decide +kernel) (by decide +kernel), ziX9, ⟨by decide +kernel, by decide +kernel, by decide +kernel⟩, by decide⟩
theorem mpX9_give : plainName mX9_give.1.cls = true := by decide +kernel
theorem mzX9_give : xMV mX9_give 1 := ⟨myX9_give, xT_of (i := 995) (by decide +kernel) (by decide +kernel), xT_of (i := 996) (by decide +kernel) (by decide +kernel)⟩
theorem myX9_mend : xMy mX9_mend 1 := ⟨xT_of (i := 1001) (by decide +kernel) (by decide +kernel), ziX9, ⟨by decide +kernel, by decide +kernel, by decide +kernel⟩, by decide⟩
theorem mpX9_mend : plainName mX9_mend.1.cls = true := by decide +kernel
theorem mzX9_mend : xMV mX9_mend 1 := ⟨myX9_mend, xT_of (i := 999) (by decide +kernel) (by decide +kernel), xT_of (i := 1000) (by decide +kernel) (by decide +kernel)⟩
theorem myX9_locker : xMy mX9_locker 1 := ⟨xT_of (i := 1005) (by decide +kernel) (by decide +kernel), ziX9, ⟨by decide +kernel, by decide +kernel, by decide +kernel⟩, by decide⟩
theorem mpX9_locker : plainName mX9_locker.1.cls = true := by decide +kernel
theorem mzX9_locker : xMV mX9_locker 1 := ⟨myX9_locker, xT_of (i := 1003) (by decide +kernel) (by decide +kernel), xT_of (i := 1004) (by decide +kernel) (by decide +kernel)⟩
theorem myX9_count : xMy mX9_count 2 := ⟨xT_of (i := 1009) (by decide +kernel) (by decide +kernel), ziX9, ⟨by decide +kernel, by decide +kernel, by decide +kernel⟩, by decide⟩
theorem mpX9_count : plainName mX9_count.1.cls = true := by decide +kernel
theorem mzX9_count : xMV mX9_count 2 := ⟨myX9_count, xT_of (i := 1007) (by decide +kernel) (by decide +kernel), xT_of (i := 1008) (by decide +kernel) (by decide +kernel)⟩
theorem myX9_isFree : xMy mX9_isFree 2 := ⟨xT_of (i := 1013) (by decide +kernel) (by decide +kernel), ziX9, ⟨by decide +kernel, by decide +kernel, by decide +kernel⟩, by decide⟩
theorem mpX9_isFree : plainName mX9_isFree.1.cls = true := by decide +kernel
theorem mzX9_isFree : xMV mX9_isFree 2 := ⟨myX9_isFree, xT_of (i := 1012) (by decide +kernel) (by decide +kernel), xT_of (i := 28) (by decide +kernel) (by decide +kernel)⟩
theorem myX9_told : xMy mX9_told 2 := ⟨xT_of (i := 1017) (by decide +kernel) (by decide +kernel), ziX9, ⟨by decide +kernel, by decide +kernel, by decide +kernel⟩, by decide⟩
theorem mpX9_told : plainName mX9_told.1.cls = true := by decide +kernel
theorem mzX9_told : xMV mX9_told 2 := ⟨myX9_told, xT_of (i := 1015) (by decide +kernel) (by decide +kernel), xT_of (i := 1016) (by decide +kernel) (by decide +kernel)⟩
theorem myX9_pump : xMy mX9_pump 3 := ⟨xT_of (i := 1021) (by decide +kernel) (by decide +kernel), ziX9, ⟨by decide +kernel, by decide +kernel, by decide +kernel⟩, by decide⟩
theorem mpX9_pump : plainName mX9_pump.1.cls = true := by decide +kernel
theorem mzX9_pump : xMV mX9_pump 3 := ⟨myX9_pump, xT_of (i := 1019) (by decide +kernel) (by decide +kernel), xT_of (i := 1020) (by decide +kernel) (by decide +kernel)⟩
theorem myX9_price : xMy mX9_price 2 := ⟨xT_of (i := 1025) (by decide +kernel) (by decide +kernel), ziX9, ⟨by decide +kernel, by decide +kernel, by decide +kernel⟩, by decide⟩
theorem mpX9_price : plainName mX9_price.1.cls = true := by decide +kernel
theorem mzX9_price : xMV mX9_price 2 := ⟨myX9_price, xT_of (i := 1023) (by decide +kernel) (by decide +kernel), xT_of (i := 1024) (by decide +kernel) (by decide +kernel)⟩
theorem myX9_turn : xMy mX9_turn 2 := ⟨xT_of (i := 1029) (by decide +kernel) (by decide +kernel), ziX9, ⟨by decide +kernel, by decide +kernel, by decide +kernel⟩, by decide⟩
theorem mpX9_turn : plainName mX9_turn.1.cls = true := by decide +kernel
theorem mzX9_turn : xMV mX9_turn 2 := ⟨myX9_turn, xT_of (i := 1027) (by decide +kernel) (by decide +kernel), xT_of (i := 1028) (by decide +kernel) (by decide +kernel)⟩
theorem myX9_hour : xMy mX9_hour 1 := ⟨xT_of (i := 1034) (by decide +kernel) (by decide +kernel), ziX9, ⟨by decide +kernel, by decide +kernel, by decide +kernel⟩, by decide⟩
theorem mpX9_hour : plainName mX9_hour.1.cls = true := by decide +kernel
theorem mzX9_hour : xMV mX9_hour 1 := ⟨myX9_hour, xT_of (i := 1032) (by decide +kernel) (by decide +kernel), xT_of (i := 1033) (by decide +kernel) (by decide +kernel)⟩
theorem myX9_all : xMy mX9_all 1 := ⟨xT_of (i := 1038) (by decide +kernel) (by decide +kernel), ziX9, ⟨by decide +kernel, by decide +kernel, by decide +kernel⟩, by decide⟩
theorem mpX9_all : plainName mX9_all.1.cls = true := by decide +kernel
theorem mzX9_all : xMV mX9_all 1 := ⟨myX9_all, xT_of (i := 1036) (by decide +kernel) (by decide +kernel), xT_of (i := 1037) (by decide +kernel) (by decide +kernel)⟩
theorem kL_9 : Cond.methodLink RL 9 yX8_init ∈ xT := xT_of (i := 44) (by decide +kernel) (by decide +kernel)
theorem kX8_1 : Cond.methodLink RX8 1 objectInit ∈ xT := xT_of (i := 47) (by decide +kernel) (by decide +kernel)
theorem kX8_29 : Cond.methodLink RX8 29 yX2_init ∈ xT := xT_of (i := 58) (by decide +kernel) (by decide +kernel)
theorem kX2_3 : Cond.methodLink RX2 3 objectInit ∈ xT := xT_of (i := 61) (by decide +kernel) (by decide +kernel)
theorem kX8_36 : Cond.methodLink RX8 36 yX5_init ∈ xT := xT_of (i := 75) (by decide +kernel) (by decide +kernel)
theorem kX5_3 : Cond.methodLink RX5 3 objectInit ∈ xT := xT_of (i := 78) (by decide +kernel) (by decide +kernel)
theorem kL_13 : Cond.methodLink RL 13 yX8_pool ∈ xT := xT_of (i := 127) (by decide +kernel) (by decide +kernel)
theorem kX8_48 : Cond.methodLink RX8 48 yX8_isWithin ∈ xT := xT_of (i := 131) (by decide +kernel) (by decide +kernel)
theorem kX8_52 : Cond.methodLink RX8 52 yX3_init ∈ xT := xT_of (i := 135) (by decide +kernel) (by decide +kernel)
theorem kX3_3 : Cond.methodLink RX3 3 objectInit ∈ xT := xT_of (i := 138) (by decide +kernel) (by decide +kernel)
theorem kX1_3 : Cond.methodLink RX1 3 objectInit ∈ xT := xT_of (i := 146) (by decide +kernel) (by decide +kernel)
theorem kX3_34 : Cond.methodLink RX3 34 Lib.Math.max.name ∈ xT := xT_of (i := 175) (by decide +kernel) (by decide +kernel)
theorem kX4_3 : Cond.methodLink RX4 3 objectInit ∈ xT := xT_of (i := 184) (by decide +kernel) (by decide +kernel)
theorem kX6_3 : Cond.methodLink RX6 3 objectInit ∈ xT := xT_of (i := 199) (by decide +kernel) (by decide +kernel)
theorem kL_18 : Cond.methodLink RL 18 yX8_go ∈ xT := xT_of (i := 265) (by decide +kernel) (by decide +kernel)
theorem kX8_55 : Cond.methodLink RX8 55 yX8_endMinute ∈ xT := xT_of (i := 269) (by decide +kernel) (by decide +kernel)
theorem kX8_320 : Cond.methodLink RX8 320 yX3_endMinute ∈ xT := xT_of (i := 273) (by decide +kernel) (by decide +kernel)
theorem kX3_89 : Cond.methodLink RX3 89 yX3_reasonsIn ∈ xT := xT_of (i := 277) (by decide +kernel) (by decide +kernel)
theorem kX3_75 : Cond.methodLink RX3 75 yX6_isRight ∈ xT := xT_of (i := 281) (by decide +kernel) (by decide +kernel)
theorem kX3_79 : Cond.methodLink RX3 79 yX6_isStale ∈ xT := xT_of (i := 285) (by decide +kernel) (by decide +kernel)
theorem kX3_82 : Cond.methodLink RX3 82 yX3_filledPosts ∈ xT := xT_of (i := 289) (by decide +kernel) (by decide +kernel)
theorem kX3_68 : Cond.methodLink RX3 68 yX4_isFilled ∈ xT := xT_of (i := 293) (by decide +kernel) (by decide +kernel)
theorem kX3_92 : Cond.methodLink RX3 92 yX1_endMinute ∈ xT := xT_of (i := 297) (by decide +kernel) (by decide +kernel)
theorem kX1_34 : Cond.methodLink RX1 34 yX1_leastNow ∈ xT := xT_of (i := 301) (by decide +kernel) (by decide +kernel)
theorem kX1_25 : Cond.methodLink RX1 25 Lib.Math.max.name ∈ xT := xT_of (i := 305) (by decide +kernel) (by decide +kernel)
theorem kX1_38 : Cond.methodLink RX1 38 yX1_mostNow ∈ xT := xT_of (i := 306) (by decide +kernel) (by decide +kernel)
theorem kX1_41 : Cond.methodLink RX1 41 yX1_startFrom ∈ xT := xT_of (i := 310) (by decide +kernel) (by decide +kernel)
theorem kL_23 : Cond.methodLink RL 23 yX8_ticket ∈ xT := xT_of (i := 314) (by decide +kernel) (by decide +kernel)
theorem kX8_58 : Cond.methodLink RX8 58 yX8_poolOf ∈ xT := xT_of (i := 318) (by decide +kernel) (by decide +kernel)
theorem kX8_65 : Cond.methodLink RX8 65 yX8_isTicketSold ∈ xT := xT_of (i := 322) (by decide +kernel) (by decide +kernel)
theorem kX8_69 : Cond.methodLink RX8 69 yX8_isClubKind ∈ xT := xT_of (i := 326) (by decide +kernel) (by decide +kernel)
theorem kX8_73 : Cond.methodLink RX8 73 yX8_clubOf ∈ xT := xT_of (i := 329) (by decide +kernel) (by decide +kernel)
theorem kX8_323 : Cond.methodLink RX8 323 yX0_isSchool ∈ xT := xT_of (i := 333) (by decide +kernel) (by decide +kernel)
theorem kX8_77 : Cond.methodLink RX8 77 yX7_init ∈ xT := xT_of (i := 338) (by decide +kernel) (by decide +kernel)
theorem kX7_3 : Cond.methodLink RX7 3 objectInit ∈ xT := xT_of (i := 341) (by decide +kernel) (by decide +kernel)
theorem kL_28 : Cond.methodLink RL 28 yX8_club ∈ xT := xT_of (i := 394) (by decide +kernel) (by decide +kernel)
theorem kX8_83 : Cond.methodLink RX8 83 yX3_hasLanes ∈ xT := xT_of (i := 398) (by decide +kernel) (by decide +kernel)
theorem kX8_86 : Cond.methodLink RX8 86 yX0_init ∈ xT := xT_of (i := 403) (by decide +kernel) (by decide +kernel)
theorem kX0_1 : Cond.methodLink RX0 1 objectInit ∈ xT := xT_of (i := 406) (by decide +kernel) (by decide +kernel)
theorem kX8_89 : Cond.methodLink RX8 89 yX8_lowestClash ∈ xT := xT_of (i := 436) (by decide +kernel) (by decide +kernel)
theorem kX8_327 : Cond.methodLink RX8 327 yX0_clashesWith ∈ xT := xT_of (i := 440) (by decide +kernel) (by decide +kernel)
theorem kX0_26 : Cond.methodLink RX0 26 Lib.Math.max.name ∈ xT := xT_of (i := 444) (by decide +kernel) (by decide +kernel)
theorem kX0_32 : Cond.methodLink RX0 32 Lib.Math.min.name ∈ xT := xT_of (i := 445) (by decide +kernel) (by decide +kernel)
theorem kL_33 : Cond.methodLink RL 33 yX8_clash ∈ xT := xT_of (i := 448) (by decide +kernel) (by decide +kernel)
theorem kL_38 : Cond.methodLink RL 38 yX8_leave ∈ xT := xT_of (i := 452) (by decide +kernel) (by decide +kernel)
theorem kL_43 : Cond.methodLink RL 43 yX8_may ∈ xT := xT_of (i := 456) (by decide +kernel) (by decide +kernel)
theorem kX8_96 : Cond.methodLink RX8 96 yX8_ticketOf ∈ xT := xT_of (i := 460) (by decide +kernel) (by decide +kernel)
theorem kX8_100 : Cond.methodLink RX8 100 yX8_reasonAgainst ∈ xT := xT_of (i := 464) (by decide +kernel) (by decide +kernel)
theorem kX8_343 : Cond.methodLink RX8 343 yX8_reasonAgainstHead ∈ xT := xT_of (i := 468) (by decide +kernel) (by decide +kernel)
theorem kX8_349 : Cond.methodLink RX8 349 yX7_isItsTime ∈ xT := xT_of (i := 472) (by decide +kernel) (by decide +kernel)
theorem kX7_42 : Cond.methodLink RX7 42 yX0_isThere ∈ xT := xT_of (i := 476) (by decide +kernel) (by decide +kernel)
theorem kX8_213 : Cond.methodLink RX8 213 yX3_reasonsIn ∈ xT := xT_of (i := 480) (by decide +kernel) (by decide +kernel)
theorem kX8_166 : Cond.methodLink RX8 166 yX1_mostNow ∈ xT := xT_of (i := 481) (by decide +kernel) (by decide +kernel)
theorem kX8_352 : Cond.methodLink RX8 352 yX7_lacksTeacher ∈ xT := xT_of (i := 482) (by decide +kernel) (by decide +kernel)
theorem kL_47 : Cond.methodLink RL 47 yX8_in ∈ xT := xT_of (i := 486) (by decide +kernel) (by decide +kernel)
theorem kX8_104 : Cond.methodLink RX8 104 yX7_comeIn ∈ xT := xT_of (i := 490) (by decide +kernel) (by decide +kernel)
theorem kX7_69 : Cond.methodLink RX7 69 yX0_pass ∈ xT := xT_of (i := 494) (by decide +kernel) (by decide +kernel)
theorem kX8_112 : Cond.methodLink RX8 112 yX3_letIn ∈ xT := xT_of (i := 498) (by decide +kernel) (by decide +kernel)
theorem kL_51 : Cond.methodLink RL 51 yX8_out ∈ xT := xT_of (i := 502) (by decide +kernel) (by decide +kernel)
theorem kX8_129 : Cond.methodLink RX8 129 yX7_owes ∈ xT := xT_of (i := 506) (by decide +kernel) (by decide +kernel)
theorem kX7_80 : Cond.methodLink RX7 80 yX7_minutesLeft ∈ xT := xT_of (i := 510) (by decide +kernel) (by decide +kernel)
theorem kX8_136 : Cond.methodLink RX8 136 yX7_goOut ∈ xT := xT_of (i := 514) (by decide +kernel) (by decide +kernel)
theorem kX7_76 : Cond.methodLink RX7 76 yX7_leavePost ∈ xT := xT_of (i := 518) (by decide +kernel) (by decide +kernel)
theorem kX8_140 : Cond.methodLink RX8 140 yX3_letOut ∈ xT := xT_of (i := 522) (by decide +kernel) (by decide +kernel)
theorem kX8_146 : Cond.methodLink RX8 146 yX2_lose ∈ xT := xT_of (i := 526) (by decide +kernel) (by decide +kernel)
theorem kX2_19 : Cond.methodLink RX2 19 yX2_isLocker ∈ xT := xT_of (i := 530) (by decide +kernel) (by decide +kernel)
theorem kL_55 : Cond.methodLink RL 55 yX8_eye ∈ xT := xT_of (i := 533) (by decide +kernel) (by decide +kernel)
theorem kX8_152 : Cond.methodLink RX8 152 yX1_turnEye ∈ xT := xT_of (i := 537) (by decide +kernel) (by decide +kernel)
theorem kL_60 : Cond.methodLink RL 60 yX8_hand ∈ xT := xT_of (i := 541) (by decide +kernel) (by decide +kernel)
theorem kX8_159 : Cond.methodLink RX8 159 yX1_startFrom ∈ xT := xT_of (i := 545) (by decide +kernel) (by decide +kernel)
theorem kL_64 : Cond.methodLink RL 64 yX8_count ∈ xT := xT_of (i := 546) (by decide +kernel) (by decide +kernel)
theorem kX8_162 : Cond.methodLink RX8 162 yX1_leastNow ∈ xT := xT_of (i := 550) (by decide +kernel) (by decide +kernel)
theorem kX8_175 : Cond.methodLink RX8 175 yX8_freeLanes ∈ xT := xT_of (i := 551) (by decide +kernel) (by decide +kernel)
theorem kX8_331 : Cond.methodLink RX8 331 yX0_isThere ∈ xT := xT_of (i := 555) (by decide +kernel) (by decide +kernel)
theorem kX8_338 : Cond.methodLink RX8 338 yJ6_bitCount_0f7a4 ∈ xT := xT_of (i := 556) (by decide +kernel) (by decide +kernel)
theorem kX8_179 : Cond.methodLink RX8 179 yX3_filledPosts ∈ xT := xT_of (i := 562) (by decide +kernel) (by decide +kernel)
theorem kL_69 : Cond.methodLink RL 69 yX8_bounds ∈ xT := xT_of (i := 563) (by decide +kernel) (by decide +kernel)
theorem kX8_182 : Cond.methodLink RX8 182 yX8_thingOf ∈ xT := xT_of (i := 567) (by decide +kernel) (by decide +kernel)
theorem kL_74 : Cond.methodLink RL 74 yX8_measure ∈ xT := xT_of (i := 573) (by decide +kernel) (by decide +kernel)
theorem kX8_201 : Cond.methodLink RX8 201 yX6_takeMeasure ∈ xT := xT_of (i := 582) (by decide +kernel) (by decide +kernel)
theorem kL_79 : Cond.methodLink RL 79 yX8_put ∈ xT := xT_of (i := 586) (by decide +kernel) (by decide +kernel)
theorem kX8_207 : Cond.methodLink RX8 207 Lib.Math.max.name ∈ xT := xT_of (i := 590) (by decide +kernel) (by decide +kernel)
theorem kL_84 : Cond.methodLink RL 84 yX8_shut ∈ xT := xT_of (i := 591) (by decide +kernel) (by decide +kernel)
theorem kL_88 : Cond.methodLink RL 88 yX8_minutes ∈ xT := xT_of (i := 595) (by decide +kernel) (by decide +kernel)
theorem kL_92 : Cond.methodLink RL 92 yX8_post ∈ xT := xT_of (i := 599) (by decide +kernel) (by decide +kernel)
theorem kX8_219 : Cond.methodLink RX8 219 yX8_postOf ∈ xT := xT_of (i := 603) (by decide +kernel) (by decide +kernel)
theorem kX8_223 : Cond.methodLink RX8 223 yX7_mayStand ∈ xT := xT_of (i := 607) (by decide +kernel) (by decide +kernel)
theorem kX8_232 : Cond.methodLink RX8 232 yX7_leavePost ∈ xT := xT_of (i := 611) (by decide +kernel) (by decide +kernel)
theorem kX8_235 : Cond.methodLink RX8 235 yX7_standAt ∈ xT := xT_of (i := 612) (by decide +kernel) (by decide +kernel)
theorem kX8_239 : Cond.methodLink RX8 239 yX8_numberOf ∈ xT := xT_of (i := 616) (by decide +kernel) (by decide +kernel)
theorem kL_97 : Cond.methodLink RL 97 yX8_watcher ∈ xT := xT_of (i := 619) (by decide +kernel) (by decide +kernel)
theorem kL_101 : Cond.methodLink RL 101 yX8_key ∈ xT := xT_of (i := 623) (by decide +kernel) (by decide +kernel)
theorem kX8_242 : Cond.methodLink RX8 242 yX2_takeLowest ∈ xT := xT_of (i := 627) (by decide +kernel) (by decide +kernel)
theorem kL_105 : Cond.methodLink RL 105 yX8_give ∈ xT := xT_of (i := 631) (by decide +kernel) (by decide +kernel)
theorem kX8_245 : Cond.methodLink RX8 245 yX2_hangKey ∈ xT := xT_of (i := 635) (by decide +kernel) (by decide +kernel)
theorem kL_109 : Cond.methodLink RL 109 yX8_mend ∈ xT := xT_of (i := 639) (by decide +kernel) (by decide +kernel)
theorem kX8_248 : Cond.methodLink RX8 248 yX2_isLocker ∈ xT := xT_of (i := 643) (by decide +kernel) (by decide +kernel)
theorem kL_113 : Cond.methodLink RL 113 yX8_locker ∈ xT := xT_of (i := 644) (by decide +kernel) (by decide +kernel)
theorem kL_117 : Cond.methodLink RL 117 yX8_told ∈ xT := xT_of (i := 648) (by decide +kernel) (by decide +kernel)
theorem kX8_274 : Cond.methodLink RX8 274 yX7_minutesLeft ∈ xT := xT_of (i := 652) (by decide +kernel) (by decide +kernel)
theorem kL_121 : Cond.methodLink RL 121 yX8_pump ∈ xT := xT_of (i := 653) (by decide +kernel) (by decide +kernel)
theorem kL_126 : Cond.methodLink RL 126 yX8_price ∈ xT := xT_of (i := 657) (by decide +kernel) (by decide +kernel)
theorem kL_130 : Cond.methodLink RL 130 yX8_turn ∈ xT := xT_of (i := 661) (by decide +kernel) (by decide +kernel)
theorem kX8_286 : Cond.methodLink RX8 286 yX8_hoursNeeded ∈ xT := xT_of (i := 665) (by decide +kernel) (by decide +kernel)
theorem kX8_290 : Cond.methodLink RX8 290 yX5_takeCheapest ∈ xT := xT_of (i := 668) (by decide +kernel) (by decide +kernel)
theorem kX5_27 : Cond.methodLink RX5 27 yX5_takeNext ∈ xT := xT_of (i := 672) (by decide +kernel) (by decide +kernel)
theorem kL_134 : Cond.methodLink RL 134 yX8_hour ∈ xT := xT_of (i := 676) (by decide +kernel) (by decide +kernel)
theorem kL_138 : Cond.methodLink RL 138 yX8_all ∈ xT := xT_of (i := 680) (by decide +kernel) (by decide +kernel)
theorem kX8_302 : Cond.methodLink RX8 302 yX2_lostOnes ∈ xT := xT_of (i := 684) (by decide +kernel) (by decide +kernel)
theorem kX8_305 : Cond.methodLink RX8 305 yX8_insideAllPools ∈ xT := xT_of (i := 688) (by decide +kernel) (by decide +kernel)
theorem kX8_308 : Cond.methodLink RX8 308 yX2_keysOut ∈ xT := xT_of (i := 692) (by decide +kernel) (by decide +kernel)
theorem kL_12 : Cond.methodLink RL 12 yX9_init ∈ xT := xT_of (i := 698) (by decide +kernel) (by decide +kernel)
theorem kX9_1 : Cond.methodLink RX9 1 objectInit ∈ xT := xT_of (i := 701) (by decide +kernel) (by decide +kernel)
theorem kL_17 : Cond.methodLink RL 17 yX9_pool ∈ xT := xT_of (i := 847) (by decide +kernel) (by decide +kernel)
theorem kX9_141 : Cond.methodLink RX9 141 yX9_in ∈ xT := xT_of (i := 851) (by decide +kernel) (by decide +kernel)
theorem kL_22 : Cond.methodLink RL 22 yX9_go ∈ xT := xT_of (i := 854) (by decide +kernel) (by decide +kernel)
theorem kX9_151 : Cond.methodLink RX9 151 yX9_reasons ∈ xT := xT_of (i := 858) (by decide +kernel) (by decide +kernel)
theorem kX9_175 : Cond.methodLink RX9 175 yX9_isFilled ∈ xT := xT_of (i := 862) (by decide +kernel) (by decide +kernel)
theorem kX9_155 : Cond.methodLink RX9 155 yX9_leastNow ∈ xT := xT_of (i := 866) (by decide +kernel) (by decide +kernel)
theorem kX9_158 : Cond.methodLink RX9 158 yX9_mostNow ∈ xT := xT_of (i := 870) (by decide +kernel) (by decide +kernel)
theorem kX9_161 : Cond.methodLink RX9 161 yX9_begins ∈ xT := xT_of (i := 874) (by decide +kernel) (by decide +kernel)
theorem kL_59 : Cond.methodLink RL 59 yX9_eye ∈ xT := xT_of (i := 878) (by decide +kernel) (by decide +kernel)
theorem kX9_165 : Cond.methodLink RX9 165 yX9_has ∈ xT := xT_of (i := 882) (by decide +kernel) (by decide +kernel)
theorem kL_63 : Cond.methodLink RL 63 yX9_hand ∈ xT := xT_of (i := 886) (by decide +kernel) (by decide +kernel)
theorem kX9_168 : Cond.methodLink RX9 168 yX9_truth ∈ xT := xT_of (i := 890) (by decide +kernel) (by decide +kernel)
theorem kL_32 : Cond.methodLink RL 32 yX9_club ∈ xT := xT_of (i := 894) (by decide +kernel) (by decide +kernel)
theorem kL_37 : Cond.methodLink RL 37 yX9_clash ∈ xT := xT_of (i := 898) (by decide +kernel) (by decide +kernel)
theorem kL_42 : Cond.methodLink RL 42 yX9_leave ∈ xT := xT_of (i := 902) (by decide +kernel) (by decide +kernel)
theorem kL_72 : Cond.methodLink RL 72 yX9_bounds ∈ xT := xT_of (i := 906) (by decide +kernel) (by decide +kernel)
theorem kL_78 : Cond.methodLink RL 78 yX9_measure ∈ xT := xT_of (i := 912) (by decide +kernel) (by decide +kernel)
theorem kL_83 : Cond.methodLink RL 83 yX9_put ∈ xT := xT_of (i := 921) (by decide +kernel) (by decide +kernel)
theorem kL_87 : Cond.methodLink RL 87 yX9_shut ∈ xT := xT_of (i := 925) (by decide +kernel) (by decide +kernel)
theorem kL_91 : Cond.methodLink RL 91 yX9_minutes ∈ xT := xT_of (i := 929) (by decide +kernel) (by decide +kernel)
theorem kL_27 : Cond.methodLink RL 27 yX9_ticket ∈ xT := xT_of (i := 933) (by decide +kernel) (by decide +kernel)
theorem kL_46 : Cond.methodLink RL 46 yX9_may ∈ xT := xT_of (i := 937) (by decide +kernel) (by decide +kernel)
theorem kX9_185 : Cond.methodLink RX9 185 yX9_isTicket ∈ xT := xT_of (i := 941) (by decide +kernel) (by decide +kernel)
theorem kX9_188 : Cond.methodLink RX9 188 yX9_isClubbed ∈ xT := xT_of (i := 945) (by decide +kernel) (by decide +kernel)
theorem kX9_191 : Cond.methodLink RX9 191 yX9_isThere ∈ xT := xT_of (i := 949) (by decide +kernel) (by decide +kernel)
theorem kX9_194 : Cond.methodLink RX9 194 yX9_inSchool ∈ xT := xT_of (i := 953) (by decide +kernel) (by decide +kernel)
theorem kL_50 : Cond.methodLink RL 50 yX9_in_ ∈ xT := xT_of (i := 957) (by decide +kernel) (by decide +kernel)
theorem kX9_197 : Cond.methodLink RX9 197 yX9_may ∈ xT := xT_of (i := 961) (by decide +kernel) (by decide +kernel)
theorem kL_54 : Cond.methodLink RL 54 yX9_out ∈ xT := xT_of (i := 962) (by decide +kernel) (by decide +kernel)
theorem kX9_203 : Cond.methodLink RX9 203 yX9_beyond ∈ xT := xT_of (i := 966) (by decide +kernel) (by decide +kernel)
theorem kX9_200 : Cond.methodLink RX9 200 yX9_isTimed ∈ xT := xT_of (i := 970) (by decide +kernel) (by decide +kernel)
theorem kX9_206 : Cond.methodLink RX9 206 yX9_leaves ∈ xT := xT_of (i := 974) (by decide +kernel) (by decide +kernel)
theorem kX9_210 : Cond.methodLink RX9 210 yX9_lockerOf ∈ xT := xT_of (i := 978) (by decide +kernel) (by decide +kernel)
theorem kL_96 : Cond.methodLink RL 96 yX9_post ∈ xT := xT_of (i := 982) (by decide +kernel) (by decide +kernel)
theorem kL_100 : Cond.methodLink RL 100 yX9_watcher ∈ xT := xT_of (i := 986) (by decide +kernel) (by decide +kernel)
theorem kL_104 : Cond.methodLink RL 104 yX9_key ∈ xT := xT_of (i := 990) (by decide +kernel) (by decide +kernel)
theorem kL_108 : Cond.methodLink RL 108 yX9_give ∈ xT := xT_of (i := 994) (by decide +kernel) (by decide +kernel)
theorem kL_112 : Cond.methodLink RL 112 yX9_mend ∈ xT := xT_of (i := 998) (by decide +kernel) (by decide +kernel)
theorem kL_116 : Cond.methodLink RL 116 yX9_locker ∈ xT := xT_of (i := 1002) (by decide +kernel) (by decide +kernel)
theorem kL_68 : Cond.methodLink RL 68 yX9_count ∈ xT := xT_of (i := 1006) (by decide +kernel) (by decide +kernel)
theorem kX9_213 : Cond.methodLink RX9 213 yX9_isFree ∈ xT := xT_of (i := 1010) (by decide +kernel) (by decide +kernel)
theorem kL_120 : Cond.methodLink RL 120 yX9_told ∈ xT := xT_of (i := 1014) (by decide +kernel) (by decide +kernel)
theorem kL_125 : Cond.methodLink RL 125 yX9_pump ∈ xT := xT_of (i := 1018) (by decide +kernel) (by decide +kernel)
theorem kL_129 : Cond.methodLink RL 129 yX9_price ∈ xT := xT_of (i := 1022) (by decide +kernel) (by decide +kernel)
theorem kL_133 : Cond.methodLink RL 133 yX9_turn ∈ xT := xT_of (i := 1026) (by decide +kernel) (by decide +kernel)
theorem kL_137 : Cond.methodLink RL 137 yX9_hour ∈ xT := xT_of (i := 1031) (by decide +kernel) (by decide +kernel)
theorem kL_141 : Cond.methodLink RL 141 yX9_all ∈ xT := xT_of (i := 1035) (by decide +kernel) (by decide +kernel)
theorem x_obj1 : Cond.instanceMethod objectInit ∈ xT := xT_of (i := 48) (by decide +kernel) (by decide +kernel)
theorem x_obj2 : Cond.code objectInit ⟨#[0xb1]⟩ 1 none ∈ xT := xT_of (i := 49) (by decide +kernel) (by decide +kernel)
theorem nL_7 : Cond.classLink RL 7 RX8 ∈ xT := xT_of (i := 42) (by decide +kernel) (by decide +kernel)
theorem nX8_9 : Cond.classLink RX8 9 RX3 ∈ xT := xT_of (i := 50) (by decide +kernel) (by decide +kernel)
theorem nX8_15 : Cond.classLink RX8 15 RX7 ∈ xT := xT_of (i := 52) (by decide +kernel) (by decide +kernel)
theorem nX8_21 : Cond.classLink RX8 21 RX0 ∈ xT := xT_of (i := 54) (by decide +kernel) (by decide +kernel)
theorem nX8_27 : Cond.classLink RX8 27 RX2 ∈ xT := xT_of (i := 56) (by decide +kernel) (by decide +kernel)
theorem nX8_34 : Cond.classLink RX8 34 RX5 ∈ xT := xT_of (i := 73) (by decide +kernel) (by decide +kernel)
theorem nX3_9 : Cond.classLink RX3 9 RX6 ∈ xT := xT_of (i := 139) (by decide +kernel) (by decide +kernel)
theorem nX3_17 : Cond.classLink RX3 17 RX1 ∈ xT := xT_of (i := 141) (by decide +kernel) (by decide +kernel)
theorem nX3_40 : Cond.classLink RX3 40 RX4 ∈ xT := xT_of (i := 178) (by decide +kernel) (by decide +kernel)
theorem oJ6_265 : Cond.constant RJ6 265 (1431655765) ∈ xT := xT_of (i := 559) (by decide +kernel) (by decide +kernel)
theorem oJ6_266 : Cond.constant RJ6 266 (858993459) ∈ xT := xT_of (i := 560) (by decide +kernel) (by decide +kernel)
theorem oJ6_267 : Cond.constant RJ6 267 (252645135) ∈ xT := xT_of (i := 561) (by decide +kernel) (by decide +kernel)
theorem oX8_186 : Cond.constant RX8 186 (-100000) ∈ xT := xT_of (i := 571) (by decide +kernel) (by decide +kernel)
theorem oX8_187 : Cond.constant RX8 187 (100000) ∈ xT := xT_of (i := 572) (by decide +kernel) (by decide +kernel)
theorem oX8_196 : Cond.constant RX8 196 (-200001) ∈ xT := xT_of (i := 577) (by decide +kernel) (by decide +kernel)
theorem oX8_197 : Cond.constantFloat RX8 197 (1148846080) ∈ xT := xT_of (i := 578) (by decide +kernel) (by decide +kernel)
theorem oX8_198 : Cond.constantFloat RX8 198 (3296329728) ∈ xT := xT_of (i := 579) (by decide +kernel) (by decide +kernel)
theorem oX8_199 : Cond.constant RX8 199 (-200000) ∈ xT := xT_of (i := 580) (by decide +kernel) (by decide +kernel)
theorem oX8_200 : Cond.constantFloat RX8 200 (1120403456) ∈ xT := xT_of (i := 581) (by decide +kernel) (by decide +kernel)
theorem nL_10 : Cond.classLink RL 10 RX9 ∈ xT := xT_of (i := 696) (by decide +kernel) (by decide +kernel)
theorem oX9_178 : Cond.constant RX9 178 (-100000) ∈ xT := xT_of (i := 910) (by decide +kernel) (by decide +kernel)
theorem oX9_179 : Cond.constant RX9 179 (100000) ∈ xT := xT_of (i := 911) (by decide +kernel) (by decide +kernel)
theorem oX9_180 : Cond.constant RX9 180 (-200001) ∈ xT := xT_of (i := 916) (by decide +kernel) (by decide +kernel)
theorem oX9_181 : Cond.constantFloat RX9 181 (3296329728) ∈ xT := xT_of (i := 917) (by decide +kernel) (by decide +kernel)
theorem oX9_182 : Cond.constantFloat RX9 182 (1148846080) ∈ xT := xT_of (i := 918) (by decide +kernel) (by decide +kernel)
theorem oX9_183 : Cond.constant RX9 183 (-200000) ∈ xT := xT_of (i := 919) (by decide +kernel) (by decide +kernel)
theorem oX9_184 : Cond.constantFloat RX9 184 (1120403456) ∈ xT := xT_of (i := 920) (by decide +kernel) (by decide +kernel)
theorem oX9_217 : Cond.constantLong RX9 217 (100) ∈ xT := xT_of (i := 1030) (by decide +kernel) (by decide +kernel)
theorem oL_73 : Cond.constantFloat RL 73 (1040187392) ∈ xT := xT_of (i := 1039) (by decide +kernel) (by decide +kernel)
theorem x_arrI : Cond.arrayClass .int ∈ xT := xT_of (i := 71) (by decide +kernel) (by decide +kernel)
theorem x_arrZ : Cond.arrayClass .boolean ∈ xT := xT_of (i := 72) (by decide +kernel) (by decide +kernel)
/-- what the tables say beside the words: nest mates, classes of arrays -/
def xN (U : State) : Prop := va_AO RX3 U ∧ va_AO RX7 U ∧ va_AO RX0 U ∧ va_AO RX6 U ∧ va_Nw (.methodLinkNest RX3 19 yX1_init "BathHouse") U ∧ va_AO RX4 U ∧ va_Nw (.methodLinkNest RX3 46 yX4_init "BathHouse") U ∧ va_Nw (.methodLinkNest RX3 47 yX6_init "BathHouse") U
theorem xN_of {s : State} {args : Array Value} (hts : ∀ w ∈ lw_tbl, w.before args s = true) : xN s := ⟨va_AO.of (hts _ (List.mem_of_getElem? (i := 51) (by decide +kernel))), va_AO.of (hts _ (List.mem_of_getElem? (i := 53) (by decide +kernel))), va_AO.of (hts _ (List.mem_of_getElem? (i := 55) (by decide +kernel))), va_AO.of (hts _ (List.mem_of_getElem? (i := 140) (by decide +kernel))), va_Nw.of rfl (hts _ (List.mem_of_getElem? (i := 143) (by decide +kernel))), va_AO.of (hts _ (List.mem_of_getElem? (i := 179) (by decide +kernel))), va_Nw.of rfl (hts _ (List.mem_of_getElem? (i := 181) (by decide +kernel))), va_Nw.of rfl (hts _ (List.mem_of_getElem? (i := 196) (by decide +kernel)))⟩
