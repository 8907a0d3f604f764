theorem inlX10 : ∀ w ∈ u_ws RX10 TX10 13, w ∈ wsL_law := fun w h => (ggL_law_X10_init w (List.mem_cons_of_mem _ (List.mem_append_right _ (List.mem_append_right _ (List.mem_append_left _ h))))).1
theorem inlX11 : ∀ w ∈ u_ws RX11 TX11 54, w ∈ wsL_law := fun w h => (ggL_law_X11_init w (List.mem_cons_of_mem _ (List.mem_append_right _ (List.mem_append_left _ h)))).1
