/-! the start: what the throws and catches need, out of the Statement's premises -/
def gl_need : List Cond := [.isRef (.static Bundle.tN "UNASSIGNED_STACK" Bundle.steD), .isRef (.static Bundle.tN "SUPPRESSED_SENTINEL" Bundle.listD)] ++ gl_str.map (fun q => .exactly (.string RX0 q.1) "java/lang/String") ++ gl_not.map (fun q => .not (.castable q.1 q.2))
theorem gl_flat : ∀ w ∈ gl_need, w ∈ flatC (Jvm.Cond.and given_1 narrow_1) := by decide +kernel
def gl_tab : List Cond := gl_str.map (fun q => .stringRef RX0 q.1 q.2) ++ gl_cast.map (fun q => .castable q.1 q.2) ++ gl_decl.map (fun x => .declares x) ++ [.laysStatic Bundle.tN "UNASSIGNED_STACK" Bundle.steD, .laysStatic Bundle.tN "SUPPRESSED_SENTINEL" Bundle.listD, .initialized Bundle.tN]
theorem gl_tabs : ∀ w ∈ gl_tab, w ∈ tables_1 := by decide +kernel
theorem gl_start {A : Array Value} {s : State} (hts : ∀ w ∈ lw_tbl, w.before A s = true) (hgv : (Jvm.Cond.and given_1 narrow_1).before A s = true) : ∃ sa : Nat → Nat, gl_ok s.heap.size sa s := by
  have hn := flat_of_before _ hgv
  have ht : ∀ w ∈ gl_tab, w.before A s = true := fun w h => hts w (List.mem_append_right _ (gl_tabs w h))
  have hn' : ∀ w ∈ gl_need, w.before A s = true := fun w h => hn w (gl_flat w h)
  have h0 : ∀ k : Nat, ∃ a : Nat, ∀ q ∈ gl_str, q.1 = k → (Term.string RX0 k).eval A s none [] s = some (.ref a) := by
    intro k
    by_cases hk : ∃ q ∈ gl_str, q.1 = k
    · obtain ⟨q, hq, rfl⟩ := hk
      obtain ⟨a, c, cell, kk, q1, -⟩ := Cond.exactly_spec (args := A) (first := s) (o := none) (s := s) (idx := []) (t := .string RX0 q.1) (cls := "java/lang/String") (hn' _ (List.mem_append_left _ (List.mem_append_right _ (List.mem_map.mpr ⟨q, hq, rfl⟩))))
      exact ⟨a, fun q' _ _ => q1⟩
    · exact ⟨0, fun q hq e => absurd ⟨q, hq, e⟩ hk⟩
  obtain ⟨sa, hsa⟩ := Classical.axiomOfChoice h0
  have hA : ∀ a : Nat, a < s.heap.size → ¬ (fun q => s.heap.size ≤ q) a := fun a h => Nat.not_le.mpr h
  exact ⟨sa, vx_Zqof (args := A) (ht _ (by decide +kernel)) (ht _ (by decide +kernel)) (hn' _ (by decide +kernel)) hA, vx_Zqof (args := A) (ht _ (by decide +kernel)) (ht _ (by decide +kernel)) (hn' _ (by decide +kernel)) hA,
    fun q hq => vk_R.of (A := A) (ht _ (List.mem_append_left _ (List.mem_append_left _ (List.mem_append_left _ (List.mem_map.mpr ⟨q, hq, rfl⟩))))) (hsa q.1 q hq rfl),
    fun q hq => va_Nw.of (A := A) rfl (ht _ (List.mem_append_left _ (List.mem_append_left _ (List.mem_append_right _ (List.mem_map.mpr ⟨q, hq, rfl⟩))))),
    fun q hq => va_Nc.of (args := A) (hn' _ (List.mem_append_right _ (List.mem_map.mpr ⟨q, hq, rfl⟩))),
    fun x hx => va_Nw.of (A := A) rfl (ht _ (List.mem_append_left _ (List.mem_append_right _ (List.mem_map.mpr ⟨x, hx, rfl⟩))))⟩
