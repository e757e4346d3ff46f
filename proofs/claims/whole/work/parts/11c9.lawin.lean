theorem wsL_law_in : ∀ w ∈ wsL_law, w ∈ lw_tbl := by
  intro w h
  unfold wsL_law at h
  rcases List.mem_append.mp h with h | h
  · rcases List.mem_append.mp h with h | h
    · rcases List.mem_append.mp h with h | h
      · rcases List.mem_append.mp h with h | h
        · rcases List.mem_append.mp h with h | h
          · exact (List.mem_append.mp h).elim (wl_r1 w) (fun h => (List.mem_append.mp h).elim (wl_r2 w) (fun h => (List.mem_append.mp h).elim (wl_r3 w) (fun h => (List.mem_append.mp h).elim (wl_r4 w) (fun h => (List.mem_append.mp h).elim (wl_r5 w) (fun h => (List.mem_append.mp h).elim (wl_r6 w) (fun h => (List.mem_append.mp h).elim (wl_r7 w) (fun h => (List.mem_append.mp h).elim (wl_r8 w) (fun h => (List.mem_append.mp h).elim (wl_r9 w) (fun h => (List.mem_append.mp h).elim (wl_r10 w) (fun h => (List.mem_append.mp h).elim (wl_r11 w) (fun h => (List.mem_append.mp h).elim (wl_r12 w) (fun h => (List.mem_append.mp h).elim (wl_r13 w) (fun h => (List.mem_append.mp h).elim (wl_r14 w) (fun h => (List.mem_append.mp h).elim (wl_r15 w) (fun h => (List.mem_append.mp h).elim (wl_r16 w) (fun h => (List.mem_append.mp h).elim (wl_r17 w) (fun h => (List.mem_append.mp h).elim (wl_r18 w) (fun h => (List.mem_append.mp h).elim (wl_r19 w) (fun h => (List.mem_append.mp h).elim (wl_r20 w) (fun h => wl_r21 w h))))))))))))))))))))
          · exact wl_x2 w h
        · exact wl_x3 w h
      · exact wl_x1 w h
    · exact wl_x0 w h
  · exact absurd h List.not_mem_nil
