/-! part 99q: the classes' numbers -/
theorem uk_0 : ∀ w ∈ u_ws RX0 TX0 8, w ∈ lw_tbl := by decide +kernel
theorem ui_0 : ∃ n, Cond.instantiable RX0 n ∈ lw_tbl := ⟨8, by decide +kernel⟩
theorem uk_1 : ∀ w ∈ u_ws RX1 TX1 3, w ∈ lw_tbl := by decide +kernel
theorem ui_1 : ∃ n, Cond.instantiable RX1 n ∈ lw_tbl := ⟨3, by decide +kernel⟩
theorem uk_2 : ∀ w ∈ u_ws RX2 TX2 5, w ∈ lw_tbl := by decide +kernel
theorem ui_2 : ∃ n, Cond.instantiable RX2 n ∈ lw_tbl := ⟨5, by decide +kernel⟩
theorem uk_3 : ∀ w ∈ u_ws RX3 TX3 3, w ∈ lw_tbl := by decide +kernel
theorem ui_3 : ∃ n, Cond.instantiable RX3 n ∈ lw_tbl := ⟨3, by decide +kernel⟩
theorem uk_4 : ∀ w ∈ u_ws RX4 TX4 4, w ∈ lw_tbl := by decide +kernel
theorem ui_4 : ∃ n, Cond.instantiable RX4 n ∈ lw_tbl := ⟨4, by decide +kernel⟩
theorem uk_5 : ∀ w ∈ u_ws RX5 TX5 9, w ∈ lw_tbl := by decide +kernel
theorem ui_5 : ∃ n, Cond.instantiable RX5 n ∈ lw_tbl := ⟨9, by decide +kernel⟩
theorem uk_6 : ∀ w ∈ u_ws RX6 TX6 6, w ∈ lw_tbl := by decide +kernel
theorem ui_6 : ∃ n, Cond.instantiable RX6 n ∈ lw_tbl := ⟨6, by decide +kernel⟩
theorem uk_7 : ∀ w ∈ u_ws RX7 TX7 24, w ∈ lw_tbl := by decide +kernel
theorem ui_7 : ∃ n, Cond.instantiable RX7 n ∈ lw_tbl := ⟨24, by decide +kernel⟩
theorem vaK_of {s : State} {a : Array Value} (hts : ∀ w ∈ lw_tbl, w.before a s = true) : ∃ D : va_G, va_K D vwCl [] s := by
  obtain ⟨n0, m0⟩ := ui_0
  obtain ⟨c0, S0, K0⟩ := u_known (C := RX0) (T := TX0) (N := 8) (n := n0) hts uk_0 (hts _ m0)
  obtain ⟨n1, m1⟩ := ui_1
  obtain ⟨c1, S1, K1⟩ := u_known (C := RX1) (T := TX1) (N := 3) (n := n1) hts uk_1 (hts _ m1)
  obtain ⟨n2, m2⟩ := ui_2
  obtain ⟨c2, S2, K2⟩ := u_known (C := RX2) (T := TX2) (N := 5) (n := n2) hts uk_2 (hts _ m2)
  obtain ⟨n3, m3⟩ := ui_3
  obtain ⟨c3, S3, K3⟩ := u_known (C := RX3) (T := TX3) (N := 3) (n := n3) hts uk_3 (hts _ m3)
  obtain ⟨n4, m4⟩ := ui_4
  obtain ⟨c4, S4, K4⟩ := u_known (C := RX4) (T := TX4) (N := 4) (n := n4) hts uk_4 (hts _ m4)
  obtain ⟨n5, m5⟩ := ui_5
  obtain ⟨c5, S5, K5⟩ := u_known (C := RX5) (T := TX5) (N := 9) (n := n5) hts uk_5 (hts _ m5)
  obtain ⟨n6, m6⟩ := ui_6
  obtain ⟨c6, S6, K6⟩ := u_known (C := RX6) (T := TX6) (N := 6) (n := n6) hts uk_6 (hts _ m6)
  obtain ⟨n7, m7⟩ := ui_7
  obtain ⟨c7, S7, K7⟩ := u_known (C := RX7) (T := TX7) (N := 24) (n := n7) hts uk_7 (hts _ m7)
  refine ⟨(fun k => if k = 0 then c0 else if k = 1 then c1 else if k = 2 then c2 else if k = 3 then c3 else if k = 4 then c4 else if k = 5 then c5 else if k = 6 then c6 else c7, fun k => if k = 0 then S0 else if k = 1 then S1 else if k = 2 then S2 else if k = 3 then S3 else if k = 4 then S4 else if k = 5 then S5 else if k = 6 then S6 else S7), ?_, fun k q h => by simp at h⟩
  intro k q hq
  match k, hq with
  | 0, hq => cases hq; exact K0
  | 1, hq => cases hq; exact K1
  | 2, hq => cases hq; exact K2
  | 3, hq => cases hq; exact K3
  | 4, hq => cases hq; exact K4
  | 5, hq => cases hq; exact K5
  | 6, hq => cases hq; exact K6
  | 7, hq => cases hq; exact K7
  | k + 8, hq => simp [vwCl] at hq
