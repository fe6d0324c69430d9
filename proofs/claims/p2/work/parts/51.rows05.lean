set_option maxRecDepth 20000 in
theorem kL_wsX11_digest : ∀ w ∈ wsX11_digest, w ∈ lw_tbl := by
  unfold wsX11_digest
  exact (List.forall_mem_cons.mpr ⟨(zin_wsL_law_r49 _ (List.mem_of_getElem? (i := 16) rfl)), (List.forall_mem_append.mpr ⟨(List.forall_mem_append.mpr ⟨kL_wsX11_digest_r1, kL_wsX11_digest_r2⟩), zin_wsX110⟩)⟩)
set_option maxRecDepth 20000 in
theorem hL_law_X11_digest : GoodIn lw_tbl (wsV RL 146 RX11 yX11_digest wsX11_digest) := goodIn_app (goodIn_sub (List.forall_mem_cons.mpr ⟨(zin_wsL_law_r49 _ (List.mem_of_getElem? (i := 13) rfl)), (List.forall_mem_cons.mpr ⟨(zin_wsL_law_r49 _ (List.mem_of_getElem? (i := 14) rfl)), (List.forall_mem_cons.mpr ⟨(zin_wsL_law_r49 _ (List.mem_of_getElem? (i := 15) rfl)), (List.forall_mem_cons.mpr ⟨(zin_wsL_law_r1 _ (List.mem_of_getElem? (i := 5) rfl)), (fun _ h => absurd h List.not_mem_nil)⟩)⟩)⟩)⟩) (by decide +kernel)) (goodIn_sub kL_wsX11_digest (by decide +kernel))