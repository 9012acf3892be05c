/-! what the tables and the statement give of the start -/
theorem xg_tbl : ∀ w ∈ xTw, w ∈ lw_tbl := by decide +kernel
theorem xg_sref : ∀ q ∈ xStrs, Cond.stringRef RX8 q.1 q.2 ∈ lw_tbl := by decide +kernel
theorem xg_more : ∀ w ∈ [Cond.laysStatic Bundle.tN "UNASSIGNED_STACK" Bundle.steD, Cond.laysStatic Bundle.tN "SUPPRESSED_SENTINEL" Bundle.listD, Cond.initialized Bundle.tN, Cond.instantiable RX0 10, Cond.instantiable RX1 1, Cond.instantiable RX2 3, Cond.instantiable RX3 3, Cond.instantiable RX4 4, Cond.instantiable RX5 2, Cond.instantiable RX6 3, Cond.instantiable RX7 4, Cond.instantiable RX8 10, Cond.arrayOver (.object RX0), Cond.arrayOver (.object RX1), Cond.arrayOver (.object RX2), Cond.arrayOver (.object RX3), Cond.arrayOver (.object RX4), Cond.arrayOver (.object RX5), Cond.arrayOver (.object RX6), Cond.arrayOver (.object RX7)], w ∈ lw_tbl := by decide +kernel
theorem xg_str : ∀ q ∈ xStrs, Cond.exactly (.string RX8 q.1) "java/lang/String" ∈ flatC (Jvm.Cond.and given_1 narrow_1) := by decide +kernel
theorem xg_giv : ∀ w ∈ [Cond.not (.castable eIA eIO), Cond.not (.castable eIS eIO), Cond.not (.castable eIS eIA), Cond.isRef (.static Bundle.tN "UNASSIGNED_STACK" Bundle.steD), Cond.isRef (.static Bundle.tN "SUPPRESSED_SENTINEL" Bundle.listD)], w ∈ flatC (Jvm.Cond.and given_1 narrow_1) := by decide +kernel
theorem xg_D {s : State} {args : Array Value} (hts : ∀ w ∈ lw_tbl, w.before args s = true) : ∃ D : va_G, xK D s := by
  have hL : ∀ w ∈ wsL_law, w.before args s = true := fun w h => hts w (wsL_law_in w h)
  have hi : ∀ C n, Cond.instantiable C n ∈ [Cond.laysStatic Bundle.tN "UNASSIGNED_STACK" Bundle.steD, Cond.laysStatic Bundle.tN "SUPPRESSED_SENTINEL" Bundle.listD, Cond.initialized Bundle.tN, Cond.instantiable RX0 10, Cond.instantiable RX1 1, Cond.instantiable RX2 3, Cond.instantiable RX3 3, Cond.instantiable RX4 4, Cond.instantiable RX5 2, Cond.instantiable RX6 3, Cond.instantiable RX7 4, Cond.instantiable RX8 10, Cond.arrayOver (.object RX0), Cond.arrayOver (.object RX1), Cond.arrayOver (.object RX2), Cond.arrayOver (.object RX3), Cond.arrayOver (.object RX4), Cond.arrayOver (.object RX5), Cond.arrayOver (.object RX6), Cond.arrayOver (.object RX7)] → (Cond.instantiable C n).before args s = true := fun C n h => hts _ (xg_more _ h)
  have h2 : ∀ k : Nat, ∃ (c : ClassId) (iS : Nat → Nat), ∀ q : vw_C, vwCl[k]? = some q → u_Kn s q.1 q.2.1 q.2.2 c iS := by
    intro k
    match k with
    | 0 =>
      obtain ⟨c, iS, hKn⟩ := u_known (C := RX0) (T := TX0) (N := 10) (n := 10) hL inlX0 (hi RX0 10 (by decide +kernel))
      exact ⟨c, iS, fun q hq => by cases hq; exact hKn⟩
    | 1 =>
      obtain ⟨c, iS, hKn⟩ := u_known (C := RX1) (T := TX1) (N := 1) (n := 1) hL inlX1 (hi RX1 1 (by decide +kernel))
      exact ⟨c, iS, fun q hq => by cases hq; exact hKn⟩
    | 2 =>
      obtain ⟨c, iS, hKn⟩ := u_known (C := RX2) (T := TX2) (N := 3) (n := 3) hL inlX2 (hi RX2 3 (by decide +kernel))
      exact ⟨c, iS, fun q hq => by cases hq; exact hKn⟩
    | 3 =>
      obtain ⟨c, iS, hKn⟩ := u_known (C := RX3) (T := TX3) (N := 3) (n := 3) hL inlX3 (hi RX3 3 (by decide +kernel))
      exact ⟨c, iS, fun q hq => by cases hq; exact hKn⟩
    | 4 =>
      obtain ⟨c, iS, hKn⟩ := u_known (C := RX4) (T := TX4) (N := 4) (n := 4) hL inlX4 (hi RX4 4 (by decide +kernel))
      exact ⟨c, iS, fun q hq => by cases hq; exact hKn⟩
    | 5 =>
      obtain ⟨c, iS, hKn⟩ := u_known (C := RX5) (T := TX5) (N := 2) (n := 2) hL inlX5 (hi RX5 2 (by decide +kernel))
      exact ⟨c, iS, fun q hq => by cases hq; exact hKn⟩
    | 6 =>
      obtain ⟨c, iS, hKn⟩ := u_known (C := RX6) (T := TX6) (N := 3) (n := 3) hL inlX6 (hi RX6 3 (by decide +kernel))
      exact ⟨c, iS, fun q hq => by cases hq; exact hKn⟩
    | 7 =>
      obtain ⟨c, iS, hKn⟩ := u_known (C := RX7) (T := TX7) (N := 4) (n := 4) hL inlX7 (hi RX7 4 (by decide +kernel))
      exact ⟨c, iS, fun q hq => by cases hq; exact hKn⟩
    | 8 =>
      obtain ⟨c, iS, hKn⟩ := u_known (C := RX8) (T := TX8) (N := 10) (n := 10) hL inlX8 (hi RX8 10 (by decide +kernel))
      exact ⟨c, iS, fun q hq => by cases hq; exact hKn⟩
    | n + 9 => exact ⟨0, fun _ => 0, fun q hq => by simp [vwCl] at hq⟩
  refine ⟨(fun k => (h2 k).choose, fun k => (h2 k).choose_spec.choose), ⟨fun k q hq => (h2 k).choose_spec.choose_spec q hq, fun k q h => by simp at h⟩, fun k C hk hC => ?_⟩
  match k, hk, hC with
  | 0, _, hC =>
    cases hC
    exact va_AO.of (hts _ (xg_more _ (by decide +kernel)))
  | 1, _, hC =>
    cases hC
    exact va_AO.of (hts _ (xg_more _ (by decide +kernel)))
  | 2, _, hC =>
    cases hC
    exact va_AO.of (hts _ (xg_more _ (by decide +kernel)))
  | 3, _, hC =>
    cases hC
    exact va_AO.of (hts _ (xg_more _ (by decide +kernel)))
  | 4, _, hC =>
    cases hC
    exact va_AO.of (hts _ (xg_more _ (by decide +kernel)))
  | 5, _, hC =>
    cases hC
    exact va_AO.of (hts _ (xg_more _ (by decide +kernel)))
  | 6, _, hC =>
    cases hC
    exact va_AO.of (hts _ (xg_more _ (by decide +kernel)))
  | 7, _, hC =>
    cases hC
    exact va_AO.of (hts _ (xg_more _ (by decide +kernel)))
  | n + 8, hk, _ => exact absurd hk (by omega)
theorem xg_Tb {s : State} {args : Array Value} (hts : ∀ w ∈ lw_tbl, w.before args s = true) (hgv : (Jvm.Cond.and given_1 narrow_1).before args s = true) : xTb s := by
  refine ⟨fun q hq => ?_, fun w hw => va_Nw.of (xTw_ot w hw) (hts w (xg_tbl w hw))⟩
  have h1 := hts _ (xg_sref q hq)
  obtain ⟨a, c, cell, k, e1, -⟩ := Cond.exactly_spec (flat_of_before _ hgv _ (xg_str q hq))
  refine ⟨a, vk_R.of h1 e1⟩
