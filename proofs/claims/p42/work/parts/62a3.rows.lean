set_option maxRecDepth 20000 in
theorem gL_law_X8_init : GoodIn wsL_law (wsX8_init) := goodIn_sub kq_wsX8_init (by decide +kernel)
set_option maxRecDepth 20000 in
theorem gL_law_X9_init : GoodIn wsL_law (wsX9_init) := goodIn_sub kq_wsX9_init (by decide +kernel)
set_option maxRecDepth 20000 in
theorem gL_law_X8_feed : GoodIn wsL_law (wsV RL 13 RX8 yX8_feed wsX8_feed) := goodIn_sub (by
  unfold wsV
  exact List.forall_mem_append.mpr ⟨(List.forall_mem_cons.mpr ⟨(kr_wsL_law_r12 _ (List.mem_of_getElem? (i := 18) rfl)), (List.forall_mem_cons.mpr ⟨(kr_wsL_law_r12 _ (List.mem_of_getElem? (i := 19) rfl)), (List.forall_mem_cons.mpr ⟨(kr_wsL_law_r12 _ (List.mem_of_getElem? (i := 20) rfl)), (List.forall_mem_cons.mpr ⟨(kr_wsL_law_r1 _ (List.mem_of_getElem? (i := 2) rfl)), (fun _ h => absurd h List.not_mem_nil)⟩)⟩)⟩)⟩), kq_wsX8_feed⟩) (by decide +kernel)
set_option maxRecDepth 20000 in
theorem gL_law_X9_feed : GoodIn wsL_law (wsV RL 17 RX9 yX9_feed wsX9_feed) := goodIn_sub (by
  unfold wsV
  exact List.forall_mem_append.mpr ⟨(List.forall_mem_cons.mpr ⟨(kr_wsL_law_r13 _ (List.mem_of_getElem? (i := 2) rfl)), (List.forall_mem_cons.mpr ⟨(kr_wsL_law_r13 _ (List.mem_of_getElem? (i := 3) rfl)), (List.forall_mem_cons.mpr ⟨(kr_wsL_law_r13 _ (List.mem_of_getElem? (i := 4) rfl)), (List.forall_mem_cons.mpr ⟨(kr_wsL_law_r1 _ (List.mem_of_getElem? (i := 5) rfl)), (fun _ h => absurd h List.not_mem_nil)⟩)⟩)⟩)⟩), kq_wsX9_feed⟩) (by decide +kernel)
set_option maxRecDepth 20000 in
theorem gL_law_X8_end : GoodIn wsL_law (wsV RL 18 RX8 yX8_end wsX8_end) := goodIn_sub (by
  unfold wsV
  exact List.forall_mem_append.mpr ⟨(List.forall_mem_cons.mpr ⟨(kr_wsL_law_r13 _ (List.mem_of_getElem? (i := 7) rfl)), (List.forall_mem_cons.mpr ⟨(kr_wsL_law_r13 _ (List.mem_of_getElem? (i := 8) rfl)), (List.forall_mem_cons.mpr ⟨(kr_wsL_law_r13 _ (List.mem_of_getElem? (i := 9) rfl)), (List.forall_mem_cons.mpr ⟨(kr_wsL_law_r1 _ (List.mem_of_getElem? (i := 2) rfl)), (fun _ h => absurd h List.not_mem_nil)⟩)⟩)⟩)⟩), kq_wsX8_end⟩) (by decide +kernel)
set_option maxRecDepth 20000 in
theorem gL_law_X9_end : GoodIn wsL_law (wsV RL 22 RX9 yX9_end wsX9_end) := goodIn_sub (by
  unfold wsV
  exact List.forall_mem_append.mpr ⟨(List.forall_mem_cons.mpr ⟨(kr_wsL_law_r13 _ (List.mem_of_getElem? (i := 11) rfl)), (List.forall_mem_cons.mpr ⟨(kr_wsL_law_r13 _ (List.mem_of_getElem? (i := 12) rfl)), (List.forall_mem_cons.mpr ⟨(kr_wsL_law_r13 _ (List.mem_of_getElem? (i := 13) rfl)), (List.forall_mem_cons.mpr ⟨(kr_wsL_law_r1 _ (List.mem_of_getElem? (i := 5) rfl)), (fun _ h => absurd h List.not_mem_nil)⟩)⟩)⟩)⟩), kq_wsX9_end⟩) (by decide +kernel)
set_option maxRecDepth 20000 in
theorem gL_law_X8_mews : GoodIn wsL_law (wsV RL 23 RX8 yX8_mews wsX8_mews) := goodIn_sub (by
  unfold wsV
  exact List.forall_mem_append.mpr ⟨(List.forall_mem_cons.mpr ⟨(kr_wsL_law_r13 _ (List.mem_of_getElem? (i := 15) rfl)), (List.forall_mem_cons.mpr ⟨(kr_wsL_law_r13 _ (List.mem_of_getElem? (i := 16) rfl)), (List.forall_mem_cons.mpr ⟨(kr_wsL_law_r13 _ (List.mem_of_getElem? (i := 17) rfl)), (List.forall_mem_cons.mpr ⟨(kr_wsL_law_r1 _ (List.mem_of_getElem? (i := 2) rfl)), (fun _ h => absurd h List.not_mem_nil)⟩)⟩)⟩)⟩), kq_wsX8_mews⟩) (by decide +kernel)
set_option maxRecDepth 20000 in
theorem gL_law_X9_mews : GoodIn wsL_law (wsV RL 27 RX9 yX9_mews wsX9_mews) := goodIn_sub (by
  unfold wsV
  exact List.forall_mem_append.mpr ⟨(List.forall_mem_cons.mpr ⟨(kr_wsL_law_r24 _ (List.mem_of_getElem? (i := 22) rfl)), (List.forall_mem_cons.mpr ⟨(kr_wsL_law_r24 _ (List.mem_of_getElem? (i := 23) rfl)), (List.forall_mem_cons.mpr ⟨(kr_wsL_law_r25 _ (List.mem_of_getElem? (i := 0) rfl)), (List.forall_mem_cons.mpr ⟨(kr_wsL_law_r1 _ (List.mem_of_getElem? (i := 5) rfl)), (fun _ h => absurd h List.not_mem_nil)⟩)⟩)⟩)⟩), kq_wsX9_mews⟩) (by decide +kernel)
set_option maxRecDepth 20000 in
theorem gL_law_X8_fault : GoodIn wsL_law (wsV RL 28 RX8 yX8_fault wsX8_fault) := goodIn_sub (by
  unfold wsV
  exact List.forall_mem_append.mpr ⟨(List.forall_mem_cons.mpr ⟨(kr_wsL_law_r32 _ (List.mem_of_getElem? (i := 2) rfl)), (List.forall_mem_cons.mpr ⟨(kr_wsL_law_r32 _ (List.mem_of_getElem? (i := 3) rfl)), (List.forall_mem_cons.mpr ⟨(kr_wsL_law_r32 _ (List.mem_of_getElem? (i := 4) rfl)), (List.forall_mem_cons.mpr ⟨(kr_wsL_law_r1 _ (List.mem_of_getElem? (i := 2) rfl)), (fun _ h => absurd h List.not_mem_nil)⟩)⟩)⟩)⟩), kq_wsX8_fault⟩) (by decide +kernel)
set_option maxRecDepth 20000 in
theorem gL_law_X9_fault : GoodIn wsL_law (wsV RL 31 RX9 yX9_fault wsX9_fault) := goodIn_sub (by
  unfold wsV
  exact List.forall_mem_append.mpr ⟨(List.forall_mem_cons.mpr ⟨(kr_wsL_law_r32 _ (List.mem_of_getElem? (i := 8) rfl)), (List.forall_mem_cons.mpr ⟨(kr_wsL_law_r32 _ (List.mem_of_getElem? (i := 9) rfl)), (List.forall_mem_cons.mpr ⟨(kr_wsL_law_r32 _ (List.mem_of_getElem? (i := 10) rfl)), (List.forall_mem_cons.mpr ⟨(kr_wsL_law_r1 _ (List.mem_of_getElem? (i := 5) rfl)), (fun _ h => absurd h List.not_mem_nil)⟩)⟩)⟩)⟩), kq_wsX9_fault⟩) (by decide +kernel)
set_option maxRecDepth 20000 in
theorem gL_law_X8_cat : GoodIn wsL_law (wsV RL 32 RX8 yX8_cat wsX8_cat) := goodIn_sub (by
  unfold wsV
  exact List.forall_mem_append.mpr ⟨(List.forall_mem_cons.mpr ⟨(kr_wsL_law_r32 _ (List.mem_of_getElem? (i := 12) rfl)), (List.forall_mem_cons.mpr ⟨(kr_wsL_law_r32 _ (List.mem_of_getElem? (i := 13) rfl)), (List.forall_mem_cons.mpr ⟨(kr_wsL_law_r32 _ (List.mem_of_getElem? (i := 14) rfl)), (List.forall_mem_cons.mpr ⟨(kr_wsL_law_r1 _ (List.mem_of_getElem? (i := 2) rfl)), (fun _ h => absurd h List.not_mem_nil)⟩)⟩)⟩)⟩), kq_wsX8_cat⟩) (by decide +kernel)
set_option maxRecDepth 20000 in
theorem gL_law_X9_cat : GoodIn wsL_law (wsV RL 36 RX9 yX9_cat wsX9_cat) := goodIn_sub (by
  unfold wsV
  exact List.forall_mem_append.mpr ⟨(List.forall_mem_cons.mpr ⟨(kr_wsL_law_r33 _ (List.mem_of_getElem? (i := 20) rfl)), (List.forall_mem_cons.mpr ⟨(kr_wsL_law_r33 _ (List.mem_of_getElem? (i := 21) rfl)), (List.forall_mem_cons.mpr ⟨(kr_wsL_law_r33 _ (List.mem_of_getElem? (i := 22) rfl)), (List.forall_mem_cons.mpr ⟨(kr_wsL_law_r1 _ (List.mem_of_getElem? (i := 5) rfl)), (fun _ h => absurd h List.not_mem_nil)⟩)⟩)⟩)⟩), kq_wsX9_cat⟩) (by decide +kernel)
set_option maxRecDepth 20000 in
theorem gL_law_X8_room : GoodIn wsL_law (wsV RL 37 RX8 yX8_room wsX8_room) := goodIn_sub (by
  unfold wsV
  exact List.forall_mem_append.mpr ⟨(List.forall_mem_cons.mpr ⟨(kr_wsL_law_r34 _ (List.mem_of_getElem? (i := 23) rfl)), (List.forall_mem_cons.mpr ⟨(kr_wsL_law_r35 _ (List.mem_of_getElem? (i := 0) rfl)), (List.forall_mem_cons.mpr ⟨(kr_wsL_law_r35 _ (List.mem_of_getElem? (i := 1) rfl)), (List.forall_mem_cons.mpr ⟨(kr_wsL_law_r1 _ (List.mem_of_getElem? (i := 2) rfl)), (fun _ h => absurd h List.not_mem_nil)⟩)⟩)⟩)⟩), kq_wsX8_room⟩) (by decide +kernel)
set_option maxRecDepth 20000 in
theorem gL_law_X9_room : GoodIn wsL_law (wsV RL 40 RX9 yX9_room wsX9_room) := goodIn_sub (by
  unfold wsV
  exact List.forall_mem_append.mpr ⟨(List.forall_mem_cons.mpr ⟨(kr_wsL_law_r35 _ (List.mem_of_getElem? (i := 10) rfl)), (List.forall_mem_cons.mpr ⟨(kr_wsL_law_r35 _ (List.mem_of_getElem? (i := 11) rfl)), (List.forall_mem_cons.mpr ⟨(kr_wsL_law_r35 _ (List.mem_of_getElem? (i := 12) rfl)), (List.forall_mem_cons.mpr ⟨(kr_wsL_law_r1 _ (List.mem_of_getElem? (i := 5) rfl)), (fun _ h => absurd h List.not_mem_nil)⟩)⟩)⟩)⟩), kq_wsX9_room⟩) (by decide +kernel)
set_option maxRecDepth 20000 in
theorem gL_law_X8_tenant : GoodIn wsL_law (wsV RL 41 RX8 yX8_tenant wsX8_tenant) := goodIn_sub (by
  unfold wsV
  exact List.forall_mem_append.mpr ⟨(List.forall_mem_cons.mpr ⟨(kr_wsL_law_r35 _ (List.mem_of_getElem? (i := 22) rfl)), (List.forall_mem_cons.mpr ⟨(kr_wsL_law_r35 _ (List.mem_of_getElem? (i := 23) rfl)), (List.forall_mem_cons.mpr ⟨(kr_wsL_law_r36 _ (List.mem_of_getElem? (i := 0) rfl)), (List.forall_mem_cons.mpr ⟨(kr_wsL_law_r1 _ (List.mem_of_getElem? (i := 2) rfl)), (fun _ h => absurd h List.not_mem_nil)⟩)⟩)⟩)⟩), kq_wsX8_tenant⟩) (by decide +kernel)
set_option maxRecDepth 20000 in
theorem gL_law_X9_tenant : GoodIn wsL_law (wsV RL 44 RX9 yX9_tenant wsX9_tenant) := goodIn_sub (by
  unfold wsV
  exact List.forall_mem_append.mpr ⟨(List.forall_mem_cons.mpr ⟨(kr_wsL_law_r36 _ (List.mem_of_getElem? (i := 11) rfl)), (List.forall_mem_cons.mpr ⟨(kr_wsL_law_r36 _ (List.mem_of_getElem? (i := 12) rfl)), (List.forall_mem_cons.mpr ⟨(kr_wsL_law_r36 _ (List.mem_of_getElem? (i := 13) rfl)), (List.forall_mem_cons.mpr ⟨(kr_wsL_law_r1 _ (List.mem_of_getElem? (i := 5) rfl)), (fun _ h => absurd h List.not_mem_nil)⟩)⟩)⟩)⟩), kq_wsX9_tenant⟩) (by decide +kernel)
set_option maxRecDepth 20000 in
theorem gL_law_X8_liking : GoodIn wsL_law (wsV RL 45 RX8 yX8_liking wsX8_liking) := goodIn_sub (by
  unfold wsV
  exact List.forall_mem_append.mpr ⟨(List.forall_mem_cons.mpr ⟨(kr_wsL_law_r36 _ (List.mem_of_getElem? (i := 19) rfl)), (List.forall_mem_cons.mpr ⟨(kr_wsL_law_r36 _ (List.mem_of_getElem? (i := 20) rfl)), (List.forall_mem_cons.mpr ⟨(kr_wsL_law_r36 _ (List.mem_of_getElem? (i := 21) rfl)), (List.forall_mem_cons.mpr ⟨(kr_wsL_law_r1 _ (List.mem_of_getElem? (i := 2) rfl)), (fun _ h => absurd h List.not_mem_nil)⟩)⟩)⟩)⟩), kq_wsX8_liking⟩) (by decide +kernel)
set_option maxRecDepth 20000 in
theorem gL_law_X9_liking : GoodIn wsL_law (wsV RL 48 RX9 yX9_liking wsX9_liking) := goodIn_sub (by
  unfold wsV
  exact List.forall_mem_append.mpr ⟨(List.forall_mem_cons.mpr ⟨(kr_wsL_law_r38 _ (List.mem_of_getElem? (i := 3) rfl)), (List.forall_mem_cons.mpr ⟨(kr_wsL_law_r38 _ (List.mem_of_getElem? (i := 4) rfl)), (List.forall_mem_cons.mpr ⟨(kr_wsL_law_r38 _ (List.mem_of_getElem? (i := 5) rfl)), (List.forall_mem_cons.mpr ⟨(kr_wsL_law_r1 _ (List.mem_of_getElem? (i := 5) rfl)), (fun _ h => absurd h List.not_mem_nil)⟩)⟩)⟩)⟩), kq_wsX9_liking⟩) (by decide +kernel)
set_option maxRecDepth 20000 in
theorem gL_law_X8_quarter : GoodIn wsL_law (wsV RL 49 RX8 yX8_quarter wsX8_quarter) := goodIn_sub (by
  unfold wsV
  exact List.forall_mem_append.mpr ⟨(List.forall_mem_cons.mpr ⟨(kr_wsL_law_r39 _ (List.mem_of_getElem? (i := 14) rfl)), (List.forall_mem_cons.mpr ⟨(kr_wsL_law_r39 _ (List.mem_of_getElem? (i := 15) rfl)), (List.forall_mem_cons.mpr ⟨(kr_wsL_law_r39 _ (List.mem_of_getElem? (i := 16) rfl)), (List.forall_mem_cons.mpr ⟨(kr_wsL_law_r1 _ (List.mem_of_getElem? (i := 2) rfl)), (fun _ h => absurd h List.not_mem_nil)⟩)⟩)⟩)⟩), kq_wsX8_quarter⟩) (by decide +kernel)
set_option maxRecDepth 20000 in
theorem gL_law_X9_quarter : GoodIn wsL_law (wsV RL 52 RX9 yX9_quarter wsX9_quarter) := goodIn_sub (by
  unfold wsV
  exact List.forall_mem_append.mpr ⟨(List.forall_mem_cons.mpr ⟨(kr_wsL_law_r41 _ (List.mem_of_getElem? (i := 4) rfl)), (List.forall_mem_cons.mpr ⟨(kr_wsL_law_r41 _ (List.mem_of_getElem? (i := 5) rfl)), (List.forall_mem_cons.mpr ⟨(kr_wsL_law_r41 _ (List.mem_of_getElem? (i := 6) rfl)), (List.forall_mem_cons.mpr ⟨(kr_wsL_law_r1 _ (List.mem_of_getElem? (i := 5) rfl)), (fun _ h => absurd h List.not_mem_nil)⟩)⟩)⟩)⟩), kq_wsX9_quarter⟩) (by decide +kernel)
set_option maxRecDepth 20000 in
theorem gL_law_X8_move : GoodIn wsL_law (wsV RL 53 RX8 yX8_move wsX8_move) := goodIn_sub (by
  unfold wsV
  exact List.forall_mem_append.mpr ⟨(List.forall_mem_cons.mpr ⟨(kr_wsL_law_r43 _ (List.mem_of_getElem? (i := 4) rfl)), (List.forall_mem_cons.mpr ⟨(kr_wsL_law_r43 _ (List.mem_of_getElem? (i := 5) rfl)), (List.forall_mem_cons.mpr ⟨(kr_wsL_law_r43 _ (List.mem_of_getElem? (i := 6) rfl)), (List.forall_mem_cons.mpr ⟨(kr_wsL_law_r1 _ (List.mem_of_getElem? (i := 2) rfl)), (fun _ h => absurd h List.not_mem_nil)⟩)⟩)⟩)⟩), kq_wsX8_move⟩) (by decide +kernel)
set_option maxRecDepth 20000 in
theorem gL_law_X9_move : GoodIn wsL_law (wsV RL 56 RX9 yX9_move wsX9_move) := goodIn_sub (by
  unfold wsV
  exact List.forall_mem_append.mpr ⟨(List.forall_mem_cons.mpr ⟨(kr_wsL_law_r43 _ (List.mem_of_getElem? (i := 9) rfl)), (List.forall_mem_cons.mpr ⟨(kr_wsL_law_r43 _ (List.mem_of_getElem? (i := 10) rfl)), (List.forall_mem_cons.mpr ⟨(kr_wsL_law_r43 _ (List.mem_of_getElem? (i := 11) rfl)), (List.forall_mem_cons.mpr ⟨(kr_wsL_law_r1 _ (List.mem_of_getElem? (i := 5) rfl)), (fun _ h => absurd h List.not_mem_nil)⟩)⟩)⟩)⟩), kq_wsX9_move⟩) (by decide +kernel)
set_option maxRecDepth 20000 in
theorem gL_law_X8_leave : GoodIn wsL_law (wsV RL 57 RX8 yX8_leave wsX8_leave) := goodIn_sub (by
  unfold wsV
  exact List.forall_mem_append.mpr ⟨(List.forall_mem_cons.mpr ⟨(kr_wsL_law_r43 _ (List.mem_of_getElem? (i := 17) rfl)), (List.forall_mem_cons.mpr ⟨(kr_wsL_law_r43 _ (List.mem_of_getElem? (i := 18) rfl)), (List.forall_mem_cons.mpr ⟨(kr_wsL_law_r43 _ (List.mem_of_getElem? (i := 19) rfl)), (List.forall_mem_cons.mpr ⟨(kr_wsL_law_r1 _ (List.mem_of_getElem? (i := 2) rfl)), (fun _ h => absurd h List.not_mem_nil)⟩)⟩)⟩)⟩), kq_wsX8_leave⟩) (by decide +kernel)
set_option maxRecDepth 20000 in
theorem gL_law_X9_leave : GoodIn wsL_law (wsV RL 60 RX9 yX9_leave wsX9_leave) := goodIn_sub (by
  unfold wsV
  exact List.forall_mem_append.mpr ⟨(List.forall_mem_cons.mpr ⟨(kr_wsL_law_r44 _ (List.mem_of_getElem? (i := 1) rfl)), (List.forall_mem_cons.mpr ⟨(kr_wsL_law_r44 _ (List.mem_of_getElem? (i := 2) rfl)), (List.forall_mem_cons.mpr ⟨(kr_wsL_law_r44 _ (List.mem_of_getElem? (i := 3) rfl)), (List.forall_mem_cons.mpr ⟨(kr_wsL_law_r1 _ (List.mem_of_getElem? (i := 5) rfl)), (fun _ h => absurd h List.not_mem_nil)⟩)⟩)⟩)⟩), kq_wsX9_leave⟩) (by decide +kernel)
set_option maxRecDepth 20000 in
theorem gL_law_X8_exchange : GoodIn wsL_law (wsV RL 61 RX8 yX8_exchange wsX8_exchange) := goodIn_sub (by
  unfold wsV
  exact List.forall_mem_append.mpr ⟨(List.forall_mem_cons.mpr ⟨(kr_wsL_law_r44 _ (List.mem_of_getElem? (i := 5) rfl)), (List.forall_mem_cons.mpr ⟨(kr_wsL_law_r44 _ (List.mem_of_getElem? (i := 6) rfl)), (List.forall_mem_cons.mpr ⟨(kr_wsL_law_r44 _ (List.mem_of_getElem? (i := 7) rfl)), (List.forall_mem_cons.mpr ⟨(kr_wsL_law_r1 _ (List.mem_of_getElem? (i := 2) rfl)), (fun _ h => absurd h List.not_mem_nil)⟩)⟩)⟩)⟩), kq_wsX8_exchange⟩) (by decide +kernel)
set_option maxRecDepth 20000 in
theorem gL_law_X9_exchange : GoodIn wsL_law (wsV RL 64 RX9 yX9_exchange wsX9_exchange) := goodIn_sub (by
  unfold wsV
  exact List.forall_mem_append.mpr ⟨(List.forall_mem_cons.mpr ⟨(kr_wsL_law_r44 _ (List.mem_of_getElem? (i := 9) rfl)), (List.forall_mem_cons.mpr ⟨(kr_wsL_law_r44 _ (List.mem_of_getElem? (i := 10) rfl)), (List.forall_mem_cons.mpr ⟨(kr_wsL_law_r44 _ (List.mem_of_getElem? (i := 11) rfl)), (List.forall_mem_cons.mpr ⟨(kr_wsL_law_r1 _ (List.mem_of_getElem? (i := 5) rfl)), (fun _ h => absurd h List.not_mem_nil)⟩)⟩)⟩)⟩), kq_wsX9_exchange⟩) (by decide +kernel)
set_option maxRecDepth 20000 in
theorem gL_law_X8_claim : GoodIn wsL_law (wsV RL 65 RX8 yX8_claim wsX8_claim) := goodIn_sub (by
  unfold wsV
  exact List.forall_mem_append.mpr ⟨(List.forall_mem_cons.mpr ⟨(kr_wsL_law_r44 _ (List.mem_of_getElem? (i := 13) rfl)), (List.forall_mem_cons.mpr ⟨(kr_wsL_law_r44 _ (List.mem_of_getElem? (i := 14) rfl)), (List.forall_mem_cons.mpr ⟨(kr_wsL_law_r44 _ (List.mem_of_getElem? (i := 15) rfl)), (List.forall_mem_cons.mpr ⟨(kr_wsL_law_r1 _ (List.mem_of_getElem? (i := 2) rfl)), (fun _ h => absurd h List.not_mem_nil)⟩)⟩)⟩)⟩), kq_wsX8_claim⟩) (by decide +kernel)
set_option maxRecDepth 20000 in
theorem gL_law_X9_claim : GoodIn wsL_law (wsV RL 68 RX9 yX9_claim wsX9_claim) := goodIn_sub (by
  unfold wsV
  exact List.forall_mem_append.mpr ⟨(List.forall_mem_cons.mpr ⟨(kr_wsL_law_r44 _ (List.mem_of_getElem? (i := 22) rfl)), (List.forall_mem_cons.mpr ⟨(kr_wsL_law_r44 _ (List.mem_of_getElem? (i := 23) rfl)), (List.forall_mem_cons.mpr ⟨(kr_wsL_law_r45 _ (List.mem_of_getElem? (i := 0) rfl)), (List.forall_mem_cons.mpr ⟨(kr_wsL_law_r1 _ (List.mem_of_getElem? (i := 5) rfl)), (fun _ h => absurd h List.not_mem_nil)⟩)⟩)⟩)⟩), kq_wsX9_claim⟩) (by decide +kernel)
set_option maxRecDepth 20000 in
theorem gL_law_X8_spend : GoodIn wsL_law (wsV RL 69 RX8 yX8_spend wsX8_spend) := goodIn_sub (by
  unfold wsV
  exact List.forall_mem_append.mpr ⟨(List.forall_mem_cons.mpr ⟨(kr_wsL_law_r45 _ (List.mem_of_getElem? (i := 2) rfl)), (List.forall_mem_cons.mpr ⟨(kr_wsL_law_r45 _ (List.mem_of_getElem? (i := 3) rfl)), (List.forall_mem_cons.mpr ⟨(kr_wsL_law_r45 _ (List.mem_of_getElem? (i := 4) rfl)), (List.forall_mem_cons.mpr ⟨(kr_wsL_law_r1 _ (List.mem_of_getElem? (i := 2) rfl)), (fun _ h => absurd h List.not_mem_nil)⟩)⟩)⟩)⟩), kq_wsX8_spend⟩) (by decide +kernel)
set_option maxRecDepth 20000 in
theorem gL_law_X9_spend : GoodIn wsL_law (wsV RL 72 RX9 yX9_spend wsX9_spend) := goodIn_sub (by
  unfold wsV
  exact List.forall_mem_append.mpr ⟨(List.forall_mem_cons.mpr ⟨(kr_wsL_law_r45 _ (List.mem_of_getElem? (i := 6) rfl)), (List.forall_mem_cons.mpr ⟨(kr_wsL_law_r45 _ (List.mem_of_getElem? (i := 7) rfl)), (List.forall_mem_cons.mpr ⟨(kr_wsL_law_r45 _ (List.mem_of_getElem? (i := 8) rfl)), (List.forall_mem_cons.mpr ⟨(kr_wsL_law_r1 _ (List.mem_of_getElem? (i := 5) rfl)), (fun _ h => absurd h List.not_mem_nil)⟩)⟩)⟩)⟩), kq_wsX9_spend⟩) (by decide +kernel)
set_option maxRecDepth 20000 in
theorem gL_law_X8_calm : GoodIn wsL_law (wsV RL 73 RX8 yX8_calm wsX8_calm) := goodIn_sub (by
  unfold wsV
  exact List.forall_mem_append.mpr ⟨(List.forall_mem_cons.mpr ⟨(kr_wsL_law_r45 _ (List.mem_of_getElem? (i := 14) rfl)), (List.forall_mem_cons.mpr ⟨(kr_wsL_law_r45 _ (List.mem_of_getElem? (i := 15) rfl)), (List.forall_mem_cons.mpr ⟨(kr_wsL_law_r45 _ (List.mem_of_getElem? (i := 16) rfl)), (List.forall_mem_cons.mpr ⟨(kr_wsL_law_r1 _ (List.mem_of_getElem? (i := 2) rfl)), (fun _ h => absurd h List.not_mem_nil)⟩)⟩)⟩)⟩), kq_wsX8_calm⟩) (by decide +kernel)
set_option maxRecDepth 20000 in
theorem gL_law_X9_calm : GoodIn wsL_law (wsV RL 76 RX9 yX9_calm wsX9_calm) := goodIn_sub (by
  unfold wsV
  exact List.forall_mem_append.mpr ⟨(List.forall_mem_cons.mpr ⟨(kr_wsL_law_r45 _ (List.mem_of_getElem? (i := 18) rfl)), (List.forall_mem_cons.mpr ⟨(kr_wsL_law_r45 _ (List.mem_of_getElem? (i := 19) rfl)), (List.forall_mem_cons.mpr ⟨(kr_wsL_law_r45 _ (List.mem_of_getElem? (i := 20) rfl)), (List.forall_mem_cons.mpr ⟨(kr_wsL_law_r1 _ (List.mem_of_getElem? (i := 5) rfl)), (fun _ h => absurd h List.not_mem_nil)⟩)⟩)⟩)⟩), kq_wsX9_calm⟩) (by decide +kernel)
set_option maxRecDepth 20000 in
theorem gL_law_X8_undo : GoodIn wsL_law (wsV RL 77 RX8 yX8_undo wsX8_undo) := goodIn_sub (by
  unfold wsV
  exact List.forall_mem_append.mpr ⟨(List.forall_mem_cons.mpr ⟨(kr_wsL_law_r45 _ (List.mem_of_getElem? (i := 22) rfl)), (List.forall_mem_cons.mpr ⟨(kr_wsL_law_r45 _ (List.mem_of_getElem? (i := 23) rfl)), (List.forall_mem_cons.mpr ⟨(kr_wsL_law_r46 _ (List.mem_of_getElem? (i := 0) rfl)), (List.forall_mem_cons.mpr ⟨(kr_wsL_law_r1 _ (List.mem_of_getElem? (i := 2) rfl)), (fun _ h => absurd h List.not_mem_nil)⟩)⟩)⟩)⟩), kq_wsX8_undo⟩) (by decide +kernel)
set_option maxRecDepth 20000 in
theorem gL_law_X9_undo : GoodIn wsL_law (wsV RL 81 RX9 yX9_undo wsX9_undo) := goodIn_sub (by
  unfold wsV
  exact List.forall_mem_append.mpr ⟨(List.forall_mem_cons.mpr ⟨(kr_wsL_law_r46 _ (List.mem_of_getElem? (i := 6) rfl)), (List.forall_mem_cons.mpr ⟨(kr_wsL_law_r46 _ (List.mem_of_getElem? (i := 7) rfl)), (List.forall_mem_cons.mpr ⟨(kr_wsL_law_r46 _ (List.mem_of_getElem? (i := 8) rfl)), (List.forall_mem_cons.mpr ⟨(kr_wsL_law_r1 _ (List.mem_of_getElem? (i := 5) rfl)), (fun _ h => absurd h List.not_mem_nil)⟩)⟩)⟩)⟩), kq_wsX9_undo⟩) (by decide +kernel)
set_option maxRecDepth 20000 in
theorem gL_law_X8_redo : GoodIn wsL_law (wsV RL 82 RX8 yX8_redo wsX8_redo) := goodIn_sub (by
  unfold wsV
  exact List.forall_mem_append.mpr ⟨(List.forall_mem_cons.mpr ⟨(kr_wsL_law_r46 _ (List.mem_of_getElem? (i := 14) rfl)), (List.forall_mem_cons.mpr ⟨(kr_wsL_law_r46 _ (List.mem_of_getElem? (i := 15) rfl)), (List.forall_mem_cons.mpr ⟨(kr_wsL_law_r46 _ (List.mem_of_getElem? (i := 16) rfl)), (List.forall_mem_cons.mpr ⟨(kr_wsL_law_r1 _ (List.mem_of_getElem? (i := 2) rfl)), (fun _ h => absurd h List.not_mem_nil)⟩)⟩)⟩)⟩), kq_wsX8_redo⟩) (by decide +kernel)
set_option maxRecDepth 20000 in
theorem gL_law_X9_redo : GoodIn wsL_law (wsV RL 85 RX9 yX9_redo wsX9_redo) := goodIn_sub (by
  unfold wsV
  exact List.forall_mem_append.mpr ⟨(List.forall_mem_cons.mpr ⟨(kr_wsL_law_r46 _ (List.mem_of_getElem? (i := 22) rfl)), (List.forall_mem_cons.mpr ⟨(kr_wsL_law_r46 _ (List.mem_of_getElem? (i := 23) rfl)), (List.forall_mem_cons.mpr ⟨(kr_wsL_law_r47 _ (List.mem_of_getElem? (i := 0) rfl)), (List.forall_mem_cons.mpr ⟨(kr_wsL_law_r1 _ (List.mem_of_getElem? (i := 5) rfl)), (fun _ h => absurd h List.not_mem_nil)⟩)⟩)⟩)⟩), kq_wsX9_redo⟩) (by decide +kernel)
set_option maxRecDepth 20000 in
theorem gL_law_X8_will : GoodIn wsL_law (wsV RL 86 RX8 yX8_will wsX8_will) := goodIn_sub (by
  unfold wsV
  exact List.forall_mem_append.mpr ⟨(List.forall_mem_cons.mpr ⟨(kr_wsL_law_r47 _ (List.mem_of_getElem? (i := 2) rfl)), (List.forall_mem_cons.mpr ⟨(kr_wsL_law_r47 _ (List.mem_of_getElem? (i := 3) rfl)), (List.forall_mem_cons.mpr ⟨(kr_wsL_law_r47 _ (List.mem_of_getElem? (i := 4) rfl)), (List.forall_mem_cons.mpr ⟨(kr_wsL_law_r1 _ (List.mem_of_getElem? (i := 2) rfl)), (fun _ h => absurd h List.not_mem_nil)⟩)⟩)⟩)⟩), kq_wsX8_will⟩) (by decide +kernel)
set_option maxRecDepth 20000 in
theorem gL_law_X9_will : GoodIn wsL_law (wsV RL 90 RX9 yX9_will wsX9_will) := goodIn_sub (by
  unfold wsV
  exact List.forall_mem_append.mpr ⟨(List.forall_mem_cons.mpr ⟨(kr_wsL_law_r47 _ (List.mem_of_getElem? (i := 16) rfl)), (List.forall_mem_cons.mpr ⟨(kr_wsL_law_r47 _ (List.mem_of_getElem? (i := 17) rfl)), (List.forall_mem_cons.mpr ⟨(kr_wsL_law_r47 _ (List.mem_of_getElem? (i := 18) rfl)), (List.forall_mem_cons.mpr ⟨(kr_wsL_law_r1 _ (List.mem_of_getElem? (i := 5) rfl)), (fun _ h => absurd h List.not_mem_nil)⟩)⟩)⟩)⟩), kq_wsX9_will⟩) (by decide +kernel)
set_option maxRecDepth 20000 in
theorem gL_law_X8_lasts : GoodIn wsL_law (wsV RL 91 RX8 yX8_lasts wsX8_lasts) := goodIn_sub (by
  unfold wsV
  exact List.forall_mem_append.mpr ⟨(List.forall_mem_cons.mpr ⟨(kr_wsL_law_r48 _ (List.mem_of_getElem? (i := 7) rfl)), (List.forall_mem_cons.mpr ⟨(kr_wsL_law_r48 _ (List.mem_of_getElem? (i := 8) rfl)), (List.forall_mem_cons.mpr ⟨(kr_wsL_law_r48 _ (List.mem_of_getElem? (i := 9) rfl)), (List.forall_mem_cons.mpr ⟨(kr_wsL_law_r1 _ (List.mem_of_getElem? (i := 2) rfl)), (fun _ h => absurd h List.not_mem_nil)⟩)⟩)⟩)⟩), kq_wsX8_lasts⟩) (by decide +kernel)
set_option maxRecDepth 20000 in
theorem gL_law_X9_lasts : GoodIn wsL_law (wsV RL 94 RX9 yX9_lasts wsX9_lasts) := goodIn_sub (by
  unfold wsV
  exact List.forall_mem_append.mpr ⟨(List.forall_mem_cons.mpr ⟨(kr_wsL_law_r48 _ (List.mem_of_getElem? (i := 11) rfl)), (List.forall_mem_cons.mpr ⟨(kr_wsL_law_r48 _ (List.mem_of_getElem? (i := 12) rfl)), (List.forall_mem_cons.mpr ⟨(kr_wsL_law_r48 _ (List.mem_of_getElem? (i := 13) rfl)), (List.forall_mem_cons.mpr ⟨(kr_wsL_law_r1 _ (List.mem_of_getElem? (i := 5) rfl)), (fun _ h => absurd h List.not_mem_nil)⟩)⟩)⟩)⟩), kq_wsX9_lasts⟩) (by decide +kernel)
set_option maxRecDepth 20000 in
theorem gL_law_X8_shaky : GoodIn wsL_law (wsV RL 95 RX8 yX8_shaky wsX8_shaky) := goodIn_sub (by
  unfold wsV
  exact List.forall_mem_append.mpr ⟨(List.forall_mem_cons.mpr ⟨(kr_wsL_law_r48 _ (List.mem_of_getElem? (i := 19) rfl)), (List.forall_mem_cons.mpr ⟨(kr_wsL_law_r48 _ (List.mem_of_getElem? (i := 20) rfl)), (List.forall_mem_cons.mpr ⟨(kr_wsL_law_r48 _ (List.mem_of_getElem? (i := 21) rfl)), (List.forall_mem_cons.mpr ⟨(kr_wsL_law_r1 _ (List.mem_of_getElem? (i := 2) rfl)), (fun _ h => absurd h List.not_mem_nil)⟩)⟩)⟩)⟩), kq_wsX8_shaky⟩) (by decide +kernel)
set_option maxRecDepth 20000 in
theorem gL_law_X9_shaky : GoodIn wsL_law (wsV RL 98 RX9 yX9_shaky wsX9_shaky) := goodIn_sub (by
  unfold wsV
  exact List.forall_mem_append.mpr ⟨(List.forall_mem_cons.mpr ⟨(kr_wsL_law_r49 _ (List.mem_of_getElem? (i := 0) rfl)), (List.forall_mem_cons.mpr ⟨(kr_wsL_law_r49 _ (List.mem_of_getElem? (i := 1) rfl)), (List.forall_mem_cons.mpr ⟨(kr_wsL_law_r49 _ (List.mem_of_getElem? (i := 2) rfl)), (List.forall_mem_cons.mpr ⟨(kr_wsL_law_r1 _ (List.mem_of_getElem? (i := 5) rfl)), (fun _ h => absurd h List.not_mem_nil)⟩)⟩)⟩)⟩), kq_wsX9_shaky⟩) (by decide +kernel)
set_option maxRecDepth 20000 in
theorem gL_law_X8_letting : GoodIn wsL_law (wsV RL 99 RX8 yX8_letting wsX8_letting) := goodIn_sub (by
  unfold wsV
  exact List.forall_mem_append.mpr ⟨(List.forall_mem_cons.mpr ⟨(kr_wsL_law_r49 _ (List.mem_of_getElem? (i := 4) rfl)), (List.forall_mem_cons.mpr ⟨(kr_wsL_law_r49 _ (List.mem_of_getElem? (i := 5) rfl)), (List.forall_mem_cons.mpr ⟨(kr_wsL_law_r49 _ (List.mem_of_getElem? (i := 6) rfl)), (List.forall_mem_cons.mpr ⟨(kr_wsL_law_r1 _ (List.mem_of_getElem? (i := 2) rfl)), (fun _ h => absurd h List.not_mem_nil)⟩)⟩)⟩)⟩), kq_wsX8_letting⟩) (by decide +kernel)
set_option maxRecDepth 20000 in
theorem gL_law_X9_letting : GoodIn wsL_law (wsV RL 102 RX9 yX9_letting wsX9_letting) := goodIn_sub (by
  unfold wsV
  exact List.forall_mem_append.mpr ⟨(List.forall_mem_cons.mpr ⟨(kr_wsL_law_r50 _ (List.mem_of_getElem? (i := 15) rfl)), (List.forall_mem_cons.mpr ⟨(kr_wsL_law_r50 _ (List.mem_of_getElem? (i := 16) rfl)), (List.forall_mem_cons.mpr ⟨(kr_wsL_law_r50 _ (List.mem_of_getElem? (i := 17) rfl)), (List.forall_mem_cons.mpr ⟨(kr_wsL_law_r1 _ (List.mem_of_getElem? (i := 5) rfl)), (fun _ h => absurd h List.not_mem_nil)⟩)⟩)⟩)⟩), kq_wsX9_letting⟩) (by decide +kernel)
set_option maxRecDepth 20000 in
theorem gL_law_X8_pleasure : GoodIn wsL_law (wsV RL 103 RX8 yX8_pleasure wsX8_pleasure) := goodIn_sub (by
  unfold wsV
  exact List.forall_mem_append.mpr ⟨(List.forall_mem_cons.mpr ⟨(kr_wsL_law_r51 _ (List.mem_of_getElem? (i := 7) rfl)), (List.forall_mem_cons.mpr ⟨(kr_wsL_law_r51 _ (List.mem_of_getElem? (i := 8) rfl)), (List.forall_mem_cons.mpr ⟨(kr_wsL_law_r51 _ (List.mem_of_getElem? (i := 9) rfl)), (List.forall_mem_cons.mpr ⟨(kr_wsL_law_r1 _ (List.mem_of_getElem? (i := 2) rfl)), (fun _ h => absurd h List.not_mem_nil)⟩)⟩)⟩)⟩), kq_wsX8_pleasure⟩) (by decide +kernel)
set_option maxRecDepth 20000 in
theorem gL_law_X9_pleasure : GoodIn wsL_law (wsV RL 106 RX9 yX9_pleasure wsX9_pleasure) := goodIn_sub (by
  unfold wsV
  exact List.forall_mem_append.mpr ⟨(List.forall_mem_cons.mpr ⟨(kr_wsL_law_r51 _ (List.mem_of_getElem? (i := 15) rfl)), (List.forall_mem_cons.mpr ⟨(kr_wsL_law_r51 _ (List.mem_of_getElem? (i := 16) rfl)), (List.forall_mem_cons.mpr ⟨(kr_wsL_law_r51 _ (List.mem_of_getElem? (i := 17) rfl)), (List.forall_mem_cons.mpr ⟨(kr_wsL_law_r1 _ (List.mem_of_getElem? (i := 5) rfl)), (fun _ h => absurd h List.not_mem_nil)⟩)⟩)⟩)⟩), kq_wsX9_pleasure⟩) (by decide +kernel)
set_option maxRecDepth 20000 in
theorem gL_law_X8_swaps : GoodIn wsL_law (wsV RL 107 RX8 yX8_swaps wsX8_swaps) := goodIn_sub (by
  unfold wsV
  exact List.forall_mem_append.mpr ⟨(List.forall_mem_cons.mpr ⟨(kr_wsL_law_r51 _ (List.mem_of_getElem? (i := 19) rfl)), (List.forall_mem_cons.mpr ⟨(kr_wsL_law_r51 _ (List.mem_of_getElem? (i := 20) rfl)), (List.forall_mem_cons.mpr ⟨(kr_wsL_law_r51 _ (List.mem_of_getElem? (i := 21) rfl)), (List.forall_mem_cons.mpr ⟨(kr_wsL_law_r1 _ (List.mem_of_getElem? (i := 2) rfl)), (fun _ h => absurd h List.not_mem_nil)⟩)⟩)⟩)⟩), kq_wsX8_swaps⟩) (by decide +kernel)
set_option maxRecDepth 20000 in
theorem gL_law_X9_swaps : GoodIn wsL_law (wsV RL 110 RX9 yX9_swaps wsX9_swaps) := goodIn_sub (by
  unfold wsV
  exact List.forall_mem_append.mpr ⟨(List.forall_mem_cons.mpr ⟨(kr_wsL_law_r52 _ (List.mem_of_getElem? (i := 3) rfl)), (List.forall_mem_cons.mpr ⟨(kr_wsL_law_r52 _ (List.mem_of_getElem? (i := 4) rfl)), (List.forall_mem_cons.mpr ⟨(kr_wsL_law_r52 _ (List.mem_of_getElem? (i := 5) rfl)), (List.forall_mem_cons.mpr ⟨(kr_wsL_law_r1 _ (List.mem_of_getElem? (i := 5) rfl)), (fun _ h => absurd h List.not_mem_nil)⟩)⟩)⟩)⟩), kq_wsX9_swaps⟩) (by decide +kernel)
set_option maxRecDepth 20000 in
theorem gL_law_X8_pay : GoodIn wsL_law (wsV RL 111 RX8 yX8_pay wsX8_pay) := goodIn_sub (by
  unfold wsV
  exact List.forall_mem_append.mpr ⟨(List.forall_mem_cons.mpr ⟨(kr_wsL_law_r52 _ (List.mem_of_getElem? (i := 7) rfl)), (List.forall_mem_cons.mpr ⟨(kr_wsL_law_r52 _ (List.mem_of_getElem? (i := 8) rfl)), (List.forall_mem_cons.mpr ⟨(kr_wsL_law_r52 _ (List.mem_of_getElem? (i := 9) rfl)), (List.forall_mem_cons.mpr ⟨(kr_wsL_law_r1 _ (List.mem_of_getElem? (i := 2) rfl)), (fun _ h => absurd h List.not_mem_nil)⟩)⟩)⟩)⟩), kq_wsX8_pay⟩) (by decide +kernel)
set_option maxRecDepth 20000 in
theorem gL_law_X9_pay : GoodIn wsL_law (wsV RL 114 RX9 yX9_pay wsX9_pay) := goodIn_sub (by
  unfold wsV
  exact List.forall_mem_append.mpr ⟨(List.forall_mem_cons.mpr ⟨(kr_wsL_law_r52 _ (List.mem_of_getElem? (i := 20) rfl)), (List.forall_mem_cons.mpr ⟨(kr_wsL_law_r52 _ (List.mem_of_getElem? (i := 21) rfl)), (List.forall_mem_cons.mpr ⟨(kr_wsL_law_r52 _ (List.mem_of_getElem? (i := 22) rfl)), (List.forall_mem_cons.mpr ⟨(kr_wsL_law_r1 _ (List.mem_of_getElem? (i := 5) rfl)), (fun _ h => absurd h List.not_mem_nil)⟩)⟩)⟩)⟩), kq_wsX9_pay⟩) (by decide +kernel)
set_option maxRecDepth 20000 in
theorem gL_law_X8_borne : GoodIn wsL_law (wsV RL 115 RX8 yX8_borne wsX8_borne) := goodIn_sub (by
  unfold wsV
  exact List.forall_mem_append.mpr ⟨(List.forall_mem_cons.mpr ⟨(kr_wsL_law_r53 _ (List.mem_of_getElem? (i := 4) rfl)), (List.forall_mem_cons.mpr ⟨(kr_wsL_law_r53 _ (List.mem_of_getElem? (i := 5) rfl)), (List.forall_mem_cons.mpr ⟨(kr_wsL_law_r53 _ (List.mem_of_getElem? (i := 6) rfl)), (List.forall_mem_cons.mpr ⟨(kr_wsL_law_r1 _ (List.mem_of_getElem? (i := 2) rfl)), (fun _ h => absurd h List.not_mem_nil)⟩)⟩)⟩)⟩), kq_wsX8_borne⟩) (by decide +kernel)
set_option maxRecDepth 20000 in
theorem gL_law_X9_borne : GoodIn wsL_law (wsV RL 118 RX9 yX9_borne wsX9_borne) := goodIn_sub (by
  unfold wsV
  exact List.forall_mem_append.mpr ⟨(List.forall_mem_cons.mpr ⟨(kr_wsL_law_r53 _ (List.mem_of_getElem? (i := 8) rfl)), (List.forall_mem_cons.mpr ⟨(kr_wsL_law_r53 _ (List.mem_of_getElem? (i := 9) rfl)), (List.forall_mem_cons.mpr ⟨(kr_wsL_law_r53 _ (List.mem_of_getElem? (i := 10) rfl)), (List.forall_mem_cons.mpr ⟨(kr_wsL_law_r1 _ (List.mem_of_getElem? (i := 5) rfl)), (fun _ h => absurd h List.not_mem_nil)⟩)⟩)⟩)⟩), kq_wsX9_borne⟩) (by decide +kernel)
set_option maxRecDepth 20000 in
theorem gL_law_X8_keeper : GoodIn wsL_law (wsV RL 119 RX8 yX8_keeper wsX8_keeper) := goodIn_sub (by
  unfold wsV
  exact List.forall_mem_append.mpr ⟨(List.forall_mem_cons.mpr ⟨(kr_wsL_law_r53 _ (List.mem_of_getElem? (i := 12) rfl)), (List.forall_mem_cons.mpr ⟨(kr_wsL_law_r53 _ (List.mem_of_getElem? (i := 13) rfl)), (List.forall_mem_cons.mpr ⟨(kr_wsL_law_r53 _ (List.mem_of_getElem? (i := 14) rfl)), (List.forall_mem_cons.mpr ⟨(kr_wsL_law_r1 _ (List.mem_of_getElem? (i := 2) rfl)), (fun _ h => absurd h List.not_mem_nil)⟩)⟩)⟩)⟩), kq_wsX8_keeper⟩) (by decide +kernel)
set_option maxRecDepth 20000 in
theorem gL_law_X9_keeper : GoodIn wsL_law (wsV RL 122 RX9 yX9_keeper wsX9_keeper) := goodIn_sub (by
  unfold wsV
  exact List.forall_mem_append.mpr ⟨(List.forall_mem_cons.mpr ⟨(kr_wsL_law_r53 _ (List.mem_of_getElem? (i := 22) rfl)), (List.forall_mem_cons.mpr ⟨(kr_wsL_law_r53 _ (List.mem_of_getElem? (i := 23) rfl)), (List.forall_mem_cons.mpr ⟨(kr_wsL_law_r54 _ (List.mem_of_getElem? (i := 0) rfl)), (List.forall_mem_cons.mpr ⟨(kr_wsL_law_r1 _ (List.mem_of_getElem? (i := 5) rfl)), (fun _ h => absurd h List.not_mem_nil)⟩)⟩)⟩)⟩), kq_wsX9_keeper⟩) (by decide +kernel)
set_option maxRecDepth 20000 in
theorem gL_law_X8_probate : GoodIn wsL_law (wsV RL 123 RX8 yX8_probate wsX8_probate) := goodIn_sub (by
  unfold wsV
  exact List.forall_mem_append.mpr ⟨(List.forall_mem_cons.mpr ⟨(kr_wsL_law_r54 _ (List.mem_of_getElem? (i := 6) rfl)), (List.forall_mem_cons.mpr ⟨(kr_wsL_law_r54 _ (List.mem_of_getElem? (i := 7) rfl)), (List.forall_mem_cons.mpr ⟨(kr_wsL_law_r54 _ (List.mem_of_getElem? (i := 8) rfl)), (List.forall_mem_cons.mpr ⟨(kr_wsL_law_r1 _ (List.mem_of_getElem? (i := 2) rfl)), (fun _ h => absurd h List.not_mem_nil)⟩)⟩)⟩)⟩), kq_wsX8_probate⟩) (by decide +kernel)
set_option maxRecDepth 20000 in
theorem gL_law_X9_probate : GoodIn wsL_law (wsV RL 126 RX9 yX9_probate wsX9_probate) := goodIn_sub (by
  unfold wsV
  exact List.forall_mem_append.mpr ⟨(List.forall_mem_cons.mpr ⟨(kr_wsL_law_r54 _ (List.mem_of_getElem? (i := 10) rfl)), (List.forall_mem_cons.mpr ⟨(kr_wsL_law_r54 _ (List.mem_of_getElem? (i := 11) rfl)), (List.forall_mem_cons.mpr ⟨(kr_wsL_law_r54 _ (List.mem_of_getElem? (i := 12) rfl)), (List.forall_mem_cons.mpr ⟨(kr_wsL_law_r1 _ (List.mem_of_getElem? (i := 5) rfl)), (fun _ h => absurd h List.not_mem_nil)⟩)⟩)⟩)⟩), kq_wsX9_probate⟩) (by decide +kernel)
set_option maxRecDepth 20000 in
theorem gL_law_X8_grief : GoodIn wsL_law (wsV RL 127 RX8 yX8_grief wsX8_grief) := goodIn_sub (by
  unfold wsV
  exact List.forall_mem_append.mpr ⟨(List.forall_mem_cons.mpr ⟨(kr_wsL_law_r54 _ (List.mem_of_getElem? (i := 14) rfl)), (List.forall_mem_cons.mpr ⟨(kr_wsL_law_r54 _ (List.mem_of_getElem? (i := 15) rfl)), (List.forall_mem_cons.mpr ⟨(kr_wsL_law_r54 _ (List.mem_of_getElem? (i := 16) rfl)), (List.forall_mem_cons.mpr ⟨(kr_wsL_law_r1 _ (List.mem_of_getElem? (i := 2) rfl)), (fun _ h => absurd h List.not_mem_nil)⟩)⟩)⟩)⟩), kq_wsX8_grief⟩) (by decide +kernel)
set_option maxRecDepth 20000 in
theorem gL_law_X9_grief : GoodIn wsL_law (wsV RL 130 RX9 yX9_grief wsX9_grief) := goodIn_sub (by
  unfold wsV
  exact List.forall_mem_append.mpr ⟨(List.forall_mem_cons.mpr ⟨(kr_wsL_law_r54 _ (List.mem_of_getElem? (i := 23) rfl)), (List.forall_mem_cons.mpr ⟨(kr_wsL_law_r55 _ (List.mem_of_getElem? (i := 0) rfl)), (List.forall_mem_cons.mpr ⟨(kr_wsL_law_r55 _ (List.mem_of_getElem? (i := 1) rfl)), (List.forall_mem_cons.mpr ⟨(kr_wsL_law_r1 _ (List.mem_of_getElem? (i := 5) rfl)), (fun _ h => absurd h List.not_mem_nil)⟩)⟩)⟩)⟩), kq_wsX9_grief⟩) (by decide +kernel)
set_option maxRecDepth 20000 in
theorem gL_law_X8_bid : GoodIn wsL_law (wsV RL 131 RX8 yX8_bid wsX8_bid) := goodIn_sub (by
  unfold wsV
  exact List.forall_mem_append.mpr ⟨(List.forall_mem_cons.mpr ⟨(kr_wsL_law_r55 _ (List.mem_of_getElem? (i := 7) rfl)), (List.forall_mem_cons.mpr ⟨(kr_wsL_law_r55 _ (List.mem_of_getElem? (i := 8) rfl)), (List.forall_mem_cons.mpr ⟨(kr_wsL_law_r55 _ (List.mem_of_getElem? (i := 9) rfl)), (List.forall_mem_cons.mpr ⟨(kr_wsL_law_r1 _ (List.mem_of_getElem? (i := 2) rfl)), (fun _ h => absurd h List.not_mem_nil)⟩)⟩)⟩)⟩), kq_wsX8_bid⟩) (by decide +kernel)
set_option maxRecDepth 20000 in
theorem gL_law_X9_bid : GoodIn wsL_law (wsV RL 134 RX9 yX9_bid wsX9_bid) := goodIn_sub (by
  unfold wsV
  exact List.forall_mem_append.mpr ⟨(List.forall_mem_cons.mpr ⟨(kr_wsL_law_r56 _ (List.mem_of_getElem? (i := 23) rfl)), (List.forall_mem_cons.mpr ⟨(kr_wsL_law_r57 _ (List.mem_of_getElem? (i := 0) rfl)), (List.forall_mem_cons.mpr ⟨(kr_wsL_law_r57 _ (List.mem_of_getElem? (i := 1) rfl)), (List.forall_mem_cons.mpr ⟨(kr_wsL_law_r1 _ (List.mem_of_getElem? (i := 5) rfl)), (fun _ h => absurd h List.not_mem_nil)⟩)⟩)⟩)⟩), kq_wsX9_bid⟩) (by decide +kernel)
set_option maxRecDepth 20000 in
theorem gL_law_X8_haven : GoodIn wsL_law (wsV RL 135 RX8 yX8_haven wsX8_haven) := goodIn_sub (by
  unfold wsV
  exact List.forall_mem_append.mpr ⟨(List.forall_mem_cons.mpr ⟨(kr_wsL_law_r57 _ (List.mem_of_getElem? (i := 14) rfl)), (List.forall_mem_cons.mpr ⟨(kr_wsL_law_r57 _ (List.mem_of_getElem? (i := 15) rfl)), (List.forall_mem_cons.mpr ⟨(kr_wsL_law_r57 _ (List.mem_of_getElem? (i := 16) rfl)), (List.forall_mem_cons.mpr ⟨(kr_wsL_law_r1 _ (List.mem_of_getElem? (i := 2) rfl)), (fun _ h => absurd h List.not_mem_nil)⟩)⟩)⟩)⟩), kq_wsX8_haven⟩) (by decide +kernel)
set_option maxRecDepth 20000 in
theorem gL_law_X9_haven : GoodIn wsL_law (wsV RL 138 RX9 yX9_haven wsX9_haven) := goodIn_sub (by
  unfold wsV
  exact List.forall_mem_append.mpr ⟨(List.forall_mem_cons.mpr ⟨(kr_wsL_law_r57 _ (List.mem_of_getElem? (i := 23) rfl)), (List.forall_mem_cons.mpr ⟨(kr_wsL_law_r58 _ (List.mem_of_getElem? (i := 0) rfl)), (List.forall_mem_cons.mpr ⟨(kr_wsL_law_r58 _ (List.mem_of_getElem? (i := 1) rfl)), (List.forall_mem_cons.mpr ⟨(kr_wsL_law_r1 _ (List.mem_of_getElem? (i := 5) rfl)), (fun _ h => absurd h List.not_mem_nil)⟩)⟩)⟩)⟩), kq_wsX9_haven⟩) (by decide +kernel)
set_option maxRecDepth 20000 in
theorem gL_law_X8_crowd : GoodIn wsL_law (wsV RL 139 RX8 yX8_crowd wsX8_crowd) := goodIn_sub (by
  unfold wsV
  exact List.forall_mem_append.mpr ⟨(List.forall_mem_cons.mpr ⟨(kr_wsL_law_r58 _ (List.mem_of_getElem? (i := 3) rfl)), (List.forall_mem_cons.mpr ⟨(kr_wsL_law_r58 _ (List.mem_of_getElem? (i := 4) rfl)), (List.forall_mem_cons.mpr ⟨(kr_wsL_law_r58 _ (List.mem_of_getElem? (i := 5) rfl)), (List.forall_mem_cons.mpr ⟨(kr_wsL_law_r1 _ (List.mem_of_getElem? (i := 2) rfl)), (fun _ h => absurd h List.not_mem_nil)⟩)⟩)⟩)⟩), kq_wsX8_crowd⟩) (by decide +kernel)
set_option maxRecDepth 20000 in
theorem gL_law_X9_crowd : GoodIn wsL_law (wsV RL 142 RX9 yX9_crowd wsX9_crowd) := goodIn_sub (by
  unfold wsV
  exact List.forall_mem_append.mpr ⟨(List.forall_mem_cons.mpr ⟨(kr_wsL_law_r58 _ (List.mem_of_getElem? (i := 11) rfl)), (List.forall_mem_cons.mpr ⟨(kr_wsL_law_r58 _ (List.mem_of_getElem? (i := 12) rfl)), (List.forall_mem_cons.mpr ⟨(kr_wsL_law_r58 _ (List.mem_of_getElem? (i := 13) rfl)), (List.forall_mem_cons.mpr ⟨(kr_wsL_law_r1 _ (List.mem_of_getElem? (i := 5) rfl)), (fun _ h => absurd h List.not_mem_nil)⟩)⟩)⟩)⟩), kq_wsX9_crowd⟩) (by decide +kernel)
set_option maxRecDepth 20000 in
theorem gL_law_X8_fondest : GoodIn wsL_law (wsV RL 143 RX8 yX8_fondest wsX8_fondest) := goodIn_sub (by
  unfold wsV
  exact List.forall_mem_append.mpr ⟨(List.forall_mem_cons.mpr ⟨(kr_wsL_law_r58 _ (List.mem_of_getElem? (i := 15) rfl)), (List.forall_mem_cons.mpr ⟨(kr_wsL_law_r58 _ (List.mem_of_getElem? (i := 16) rfl)), (List.forall_mem_cons.mpr ⟨(kr_wsL_law_r58 _ (List.mem_of_getElem? (i := 17) rfl)), (List.forall_mem_cons.mpr ⟨(kr_wsL_law_r1 _ (List.mem_of_getElem? (i := 2) rfl)), (fun _ h => absurd h List.not_mem_nil)⟩)⟩)⟩)⟩), kq_wsX8_fondest⟩) (by decide +kernel)
set_option maxRecDepth 20000 in
theorem gL_law_X9_fondest : GoodIn wsL_law (wsV RL 146 RX9 yX9_fondest wsX9_fondest) := goodIn_sub (by
  unfold wsV
  exact List.forall_mem_append.mpr ⟨(List.forall_mem_cons.mpr ⟨(kr_wsL_law_r59 _ (List.mem_of_getElem? (i := 0) rfl)), (List.forall_mem_cons.mpr ⟨(kr_wsL_law_r59 _ (List.mem_of_getElem? (i := 1) rfl)), (List.forall_mem_cons.mpr ⟨(kr_wsL_law_r59 _ (List.mem_of_getElem? (i := 2) rfl)), (List.forall_mem_cons.mpr ⟨(kr_wsL_law_r1 _ (List.mem_of_getElem? (i := 5) rfl)), (fun _ h => absurd h List.not_mem_nil)⟩)⟩)⟩)⟩), kq_wsX9_fondest⟩) (by decide +kernel)
set_option maxRecDepth 20000 in
theorem gL_law_X8_nobodys : GoodIn wsL_law (wsV RL 147 RX8 yX8_nobodys wsX8_nobodys) := goodIn_sub (by
  unfold wsV
  exact List.forall_mem_append.mpr ⟨(List.forall_mem_cons.mpr ⟨(kr_wsL_law_r59 _ (List.mem_of_getElem? (i := 4) rfl)), (List.forall_mem_cons.mpr ⟨(kr_wsL_law_r59 _ (List.mem_of_getElem? (i := 5) rfl)), (List.forall_mem_cons.mpr ⟨(kr_wsL_law_r59 _ (List.mem_of_getElem? (i := 6) rfl)), (List.forall_mem_cons.mpr ⟨(kr_wsL_law_r1 _ (List.mem_of_getElem? (i := 2) rfl)), (fun _ h => absurd h List.not_mem_nil)⟩)⟩)⟩)⟩), kq_wsX8_nobodys⟩) (by decide +kernel)
set_option maxRecDepth 20000 in
theorem gL_law_X9_nobodys : GoodIn wsL_law (wsV RL 150 RX9 yX9_nobodys wsX9_nobodys) := goodIn_sub (by
  unfold wsV
  exact List.forall_mem_append.mpr ⟨(List.forall_mem_cons.mpr ⟨(kr_wsL_law_r59 _ (List.mem_of_getElem? (i := 12) rfl)), (List.forall_mem_cons.mpr ⟨(kr_wsL_law_r59 _ (List.mem_of_getElem? (i := 13) rfl)), (List.forall_mem_cons.mpr ⟨(kr_wsL_law_r59 _ (List.mem_of_getElem? (i := 14) rfl)), (List.forall_mem_cons.mpr ⟨(kr_wsL_law_r1 _ (List.mem_of_getElem? (i := 5) rfl)), (fun _ h => absurd h List.not_mem_nil)⟩)⟩)⟩)⟩), kq_wsX9_nobodys⟩) (by decide +kernel)
set_option maxRecDepth 20000 in
theorem gL_law_X8_housed : GoodIn wsL_law (wsV RL 151 RX8 yX8_housed wsX8_housed) := goodIn_sub (by
  unfold wsV
  exact List.forall_mem_append.mpr ⟨(List.forall_mem_cons.mpr ⟨(kr_wsL_law_r59 _ (List.mem_of_getElem? (i := 16) rfl)), (List.forall_mem_cons.mpr ⟨(kr_wsL_law_r59 _ (List.mem_of_getElem? (i := 17) rfl)), (List.forall_mem_cons.mpr ⟨(kr_wsL_law_r59 _ (List.mem_of_getElem? (i := 18) rfl)), (List.forall_mem_cons.mpr ⟨(kr_wsL_law_r1 _ (List.mem_of_getElem? (i := 2) rfl)), (fun _ h => absurd h List.not_mem_nil)⟩)⟩)⟩)⟩), kq_wsX8_housed⟩) (by decide +kernel)
set_option maxRecDepth 20000 in
theorem gL_law_X9_housed : GoodIn wsL_law (wsV RL 154 RX9 yX9_housed wsX9_housed) := goodIn_sub (by
  unfold wsV
  exact List.forall_mem_append.mpr ⟨(List.forall_mem_cons.mpr ⟨(kr_wsL_law_r59 _ (List.mem_of_getElem? (i := 20) rfl)), (List.forall_mem_cons.mpr ⟨(kr_wsL_law_r59 _ (List.mem_of_getElem? (i := 21) rfl)), (List.forall_mem_cons.mpr ⟨(kr_wsL_law_r59 _ (List.mem_of_getElem? (i := 22) rfl)), (List.forall_mem_cons.mpr ⟨(kr_wsL_law_r1 _ (List.mem_of_getElem? (i := 5) rfl)), (fun _ h => absurd h List.not_mem_nil)⟩)⟩)⟩)⟩), kq_wsX9_housed⟩) (by decide +kernel)
set_option maxRecDepth 20000 in
theorem gL_law_X8_law : GoodIn wsL_law (wsV RL 155 RX8 yX8_law wsX8_law) := goodIn_sub (by
  unfold wsV
  exact List.forall_mem_append.mpr ⟨(List.forall_mem_cons.mpr ⟨(kr_wsL_law_r60 _ (List.mem_of_getElem? (i := 0) rfl)), (List.forall_mem_cons.mpr ⟨(kr_wsL_law_r60 _ (List.mem_of_getElem? (i := 1) rfl)), (List.forall_mem_cons.mpr ⟨(kr_wsL_law_r60 _ (List.mem_of_getElem? (i := 2) rfl)), (List.forall_mem_cons.mpr ⟨(kr_wsL_law_r1 _ (List.mem_of_getElem? (i := 2) rfl)), (fun _ h => absurd h List.not_mem_nil)⟩)⟩)⟩)⟩), kq_wsX8_law⟩) (by decide +kernel)
set_option maxRecDepth 20000 in
theorem gL_law_X9_law : GoodIn wsL_law (wsV RL 158 RX9 yX9_law wsX9_law) := goodIn_sub (by
  unfold wsV
  exact List.forall_mem_append.mpr ⟨(List.forall_mem_cons.mpr ⟨(kr_wsL_law_r60 _ (List.mem_of_getElem? (i := 16) rfl)), (List.forall_mem_cons.mpr ⟨(kr_wsL_law_r60 _ (List.mem_of_getElem? (i := 17) rfl)), (List.forall_mem_cons.mpr ⟨(kr_wsL_law_r60 _ (List.mem_of_getElem? (i := 18) rfl)), (List.forall_mem_cons.mpr ⟨(kr_wsL_law_r1 _ (List.mem_of_getElem? (i := 5) rfl)), (fun _ h => absurd h List.not_mem_nil)⟩)⟩)⟩)⟩), kq_wsX9_law⟩) (by decide +kernel)
set_option maxRecDepth 20000 in
theorem gL_law_X8_purse : GoodIn wsL_law (wsV RL 159 RX8 yX8_purse wsX8_purse) := goodIn_sub (by
  unfold wsV
  exact List.forall_mem_append.mpr ⟨(List.forall_mem_cons.mpr ⟨(kr_wsL_law_r60 _ (List.mem_of_getElem? (i := 20) rfl)), (List.forall_mem_cons.mpr ⟨(kr_wsL_law_r60 _ (List.mem_of_getElem? (i := 21) rfl)), (List.forall_mem_cons.mpr ⟨(kr_wsL_law_r60 _ (List.mem_of_getElem? (i := 22) rfl)), (List.forall_mem_cons.mpr ⟨(kr_wsL_law_r1 _ (List.mem_of_getElem? (i := 2) rfl)), (fun _ h => absurd h List.not_mem_nil)⟩)⟩)⟩)⟩), kq_wsX8_purse⟩) (by decide +kernel)
set_option maxRecDepth 20000 in
theorem gL_law_X9_purse : GoodIn wsL_law (wsV RL 162 RX9 yX9_purse wsX9_purse) := goodIn_sub (by
  unfold wsV
  exact List.forall_mem_append.mpr ⟨(List.forall_mem_cons.mpr ⟨(kr_wsL_law_r61 _ (List.mem_of_getElem? (i := 1) rfl)), (List.forall_mem_cons.mpr ⟨(kr_wsL_law_r61 _ (List.mem_of_getElem? (i := 2) rfl)), (List.forall_mem_cons.mpr ⟨(kr_wsL_law_r61 _ (List.mem_of_getElem? (i := 3) rfl)), (List.forall_mem_cons.mpr ⟨(kr_wsL_law_r1 _ (List.mem_of_getElem? (i := 5) rfl)), (fun _ h => absurd h List.not_mem_nil)⟩)⟩)⟩)⟩), kq_wsX9_purse⟩) (by decide +kernel)
set_option maxRecDepth 20000 in
theorem gL_law_X8_odds : GoodIn wsL_law (wsV RL 163 RX8 yX8_odds wsX8_odds) := goodIn_sub (by
  unfold wsV
  exact List.forall_mem_append.mpr ⟨(List.forall_mem_cons.mpr ⟨(kr_wsL_law_r61 _ (List.mem_of_getElem? (i := 6) rfl)), (List.forall_mem_cons.mpr ⟨(kr_wsL_law_r61 _ (List.mem_of_getElem? (i := 7) rfl)), (List.forall_mem_cons.mpr ⟨(kr_wsL_law_r61 _ (List.mem_of_getElem? (i := 8) rfl)), (List.forall_mem_cons.mpr ⟨(kr_wsL_law_r1 _ (List.mem_of_getElem? (i := 2) rfl)), (fun _ h => absurd h List.not_mem_nil)⟩)⟩)⟩)⟩), kq_wsX8_odds⟩) (by decide +kernel)
set_option maxRecDepth 20000 in
theorem gL_law_X9_odds : GoodIn wsL_law (wsV RL 166 RX9 yX9_odds wsX9_odds) := goodIn_sub (by
  unfold wsV
  exact List.forall_mem_append.mpr ⟨(List.forall_mem_cons.mpr ⟨(kr_wsL_law_r61 _ (List.mem_of_getElem? (i := 14) rfl)), (List.forall_mem_cons.mpr ⟨(kr_wsL_law_r61 _ (List.mem_of_getElem? (i := 15) rfl)), (List.forall_mem_cons.mpr ⟨(kr_wsL_law_r61 _ (List.mem_of_getElem? (i := 16) rfl)), (List.forall_mem_cons.mpr ⟨(kr_wsL_law_r1 _ (List.mem_of_getElem? (i := 5) rfl)), (fun _ h => absurd h List.not_mem_nil)⟩)⟩)⟩)⟩), kq_wsX9_odds⟩) (by decide +kernel)
set_option maxRecDepth 20000 in
theorem gL_law_X8_lies : GoodIn wsL_law (wsV RL 167 RX8 yX8_lies wsX8_lies) := goodIn_sub (by
  unfold wsV
  exact List.forall_mem_append.mpr ⟨(List.forall_mem_cons.mpr ⟨(kr_wsL_law_r62 _ (List.mem_of_getElem? (i := 0) rfl)), (List.forall_mem_cons.mpr ⟨(kr_wsL_law_r62 _ (List.mem_of_getElem? (i := 1) rfl)), (List.forall_mem_cons.mpr ⟨(kr_wsL_law_r62 _ (List.mem_of_getElem? (i := 2) rfl)), (List.forall_mem_cons.mpr ⟨(kr_wsL_law_r1 _ (List.mem_of_getElem? (i := 2) rfl)), (fun _ h => absurd h List.not_mem_nil)⟩)⟩)⟩)⟩), kq_wsX8_lies⟩) (by decide +kernel)
set_option maxRecDepth 20000 in
theorem gL_law_X9_lies : GoodIn wsL_law (wsV RL 170 RX9 yX9_lies wsX9_lies) := goodIn_sub (by
  unfold wsV
  exact List.forall_mem_append.mpr ⟨(List.forall_mem_cons.mpr ⟨(kr_wsL_law_r62 _ (List.mem_of_getElem? (i := 4) rfl)), (List.forall_mem_cons.mpr ⟨(kr_wsL_law_r62 _ (List.mem_of_getElem? (i := 5) rfl)), (List.forall_mem_cons.mpr ⟨(kr_wsL_law_r62 _ (List.mem_of_getElem? (i := 6) rfl)), (List.forall_mem_cons.mpr ⟨(kr_wsL_law_r1 _ (List.mem_of_getElem? (i := 5) rfl)), (fun _ h => absurd h List.not_mem_nil)⟩)⟩)⟩)⟩), kq_wsX9_lies⟩) (by decide +kernel)
set_option maxRecDepth 20000 in
theorem gL_law_X8_seen : GoodIn wsL_law (wsV RL 171 RX8 yX8_seen wsX8_seen) := goodIn_sub (by
  unfold wsV
  exact List.forall_mem_append.mpr ⟨(List.forall_mem_cons.mpr ⟨(kr_wsL_law_r62 _ (List.mem_of_getElem? (i := 8) rfl)), (List.forall_mem_cons.mpr ⟨(kr_wsL_law_r62 _ (List.mem_of_getElem? (i := 9) rfl)), (List.forall_mem_cons.mpr ⟨(kr_wsL_law_r62 _ (List.mem_of_getElem? (i := 10) rfl)), (List.forall_mem_cons.mpr ⟨(kr_wsL_law_r1 _ (List.mem_of_getElem? (i := 2) rfl)), (fun _ h => absurd h List.not_mem_nil)⟩)⟩)⟩)⟩), kq_wsX8_seen⟩) (by decide +kernel)
set_option maxRecDepth 20000 in
theorem gL_law_X9_seen : GoodIn wsL_law (wsV RL 175 RX9 yX9_seen wsX9_seen) := goodIn_sub (by
  unfold wsV
  exact List.forall_mem_append.mpr ⟨(List.forall_mem_cons.mpr ⟨(kr_wsL_law_r62 _ (List.mem_of_getElem? (i := 19) rfl)), (List.forall_mem_cons.mpr ⟨(kr_wsL_law_r62 _ (List.mem_of_getElem? (i := 20) rfl)), (List.forall_mem_cons.mpr ⟨(kr_wsL_law_r62 _ (List.mem_of_getElem? (i := 21) rfl)), (List.forall_mem_cons.mpr ⟨(kr_wsL_law_r1 _ (List.mem_of_getElem? (i := 5) rfl)), (fun _ h => absurd h List.not_mem_nil)⟩)⟩)⟩)⟩), kq_wsX9_seen⟩) (by decide +kernel)
set_option maxRecDepth 20000 in
theorem gL_law_X8_untell : GoodIn wsL_law (wsV RL 176 RX8 yX8_untell wsX8_untell) := goodIn_sub (by
  unfold wsV
  exact List.forall_mem_append.mpr ⟨(List.forall_mem_cons.mpr ⟨(kr_wsL_law_r63 _ (List.mem_of_getElem? (i := 0) rfl)), (List.forall_mem_cons.mpr ⟨(kr_wsL_law_r63 _ (List.mem_of_getElem? (i := 1) rfl)), (List.forall_mem_cons.mpr ⟨(kr_wsL_law_r63 _ (List.mem_of_getElem? (i := 2) rfl)), (List.forall_mem_cons.mpr ⟨(kr_wsL_law_r1 _ (List.mem_of_getElem? (i := 2) rfl)), (fun _ h => absurd h List.not_mem_nil)⟩)⟩)⟩)⟩), kq_wsX8_untell⟩) (by decide +kernel)
set_option maxRecDepth 20000 in
theorem gL_law_X9_untell : GoodIn wsL_law (wsV RL 180 RX9 yX9_untell wsX9_untell) := goodIn_sub (by
  unfold wsV
  exact List.forall_mem_append.mpr ⟨(List.forall_mem_cons.mpr ⟨(kr_wsL_law_r63 _ (List.mem_of_getElem? (i := 8) rfl)), (List.forall_mem_cons.mpr ⟨(kr_wsL_law_r63 _ (List.mem_of_getElem? (i := 9) rfl)), (List.forall_mem_cons.mpr ⟨(kr_wsL_law_r63 _ (List.mem_of_getElem? (i := 10) rfl)), (List.forall_mem_cons.mpr ⟨(kr_wsL_law_r1 _ (List.mem_of_getElem? (i := 5) rfl)), (fun _ h => absurd h List.not_mem_nil)⟩)⟩)⟩)⟩), kq_wsX9_untell⟩) (by decide +kernel)
set_option maxRecDepth 20000 in
theorem gL_law_X8_later : GoodIn wsL_law (wsV RL 181 RX8 yX8_later wsX8_later) := goodIn_sub (by
  unfold wsV
  exact List.forall_mem_append.mpr ⟨(List.forall_mem_cons.mpr ⟨(kr_wsL_law_r63 _ (List.mem_of_getElem? (i := 12) rfl)), (List.forall_mem_cons.mpr ⟨(kr_wsL_law_r63 _ (List.mem_of_getElem? (i := 13) rfl)), (List.forall_mem_cons.mpr ⟨(kr_wsL_law_r63 _ (List.mem_of_getElem? (i := 14) rfl)), (List.forall_mem_cons.mpr ⟨(kr_wsL_law_r1 _ (List.mem_of_getElem? (i := 2) rfl)), (fun _ h => absurd h List.not_mem_nil)⟩)⟩)⟩)⟩), kq_wsX8_later⟩) (by decide +kernel)
set_option maxRecDepth 20000 in
theorem gL_law_X9_later : GoodIn wsL_law (wsV RL 184 RX9 yX9_later wsX9_later) := goodIn_sub (by
  unfold wsV
  exact List.forall_mem_append.mpr ⟨(List.forall_mem_cons.mpr ⟨(kr_wsL_law_r63 _ (List.mem_of_getElem? (i := 17) rfl)), (List.forall_mem_cons.mpr ⟨(kr_wsL_law_r63 _ (List.mem_of_getElem? (i := 18) rfl)), (List.forall_mem_cons.mpr ⟨(kr_wsL_law_r63 _ (List.mem_of_getElem? (i := 19) rfl)), (List.forall_mem_cons.mpr ⟨(kr_wsL_law_r1 _ (List.mem_of_getElem? (i := 5) rfl)), (fun _ h => absurd h List.not_mem_nil)⟩)⟩)⟩)⟩), kq_wsX9_later⟩) (by decide +kernel)
set_option maxRecDepth 20000 in
theorem gL_law_X8_fits : GoodIn wsL_law (wsV RL 185 RX8 yX8_fits wsX8_fits) := goodIn_sub (by
  unfold wsV
  exact List.forall_mem_append.mpr ⟨(List.forall_mem_cons.mpr ⟨(kr_wsL_law_r63 _ (List.mem_of_getElem? (i := 21) rfl)), (List.forall_mem_cons.mpr ⟨(kr_wsL_law_r63 _ (List.mem_of_getElem? (i := 22) rfl)), (List.forall_mem_cons.mpr ⟨(kr_wsL_law_r63 _ (List.mem_of_getElem? (i := 23) rfl)), (List.forall_mem_cons.mpr ⟨(kr_wsL_law_r1 _ (List.mem_of_getElem? (i := 2) rfl)), (fun _ h => absurd h List.not_mem_nil)⟩)⟩)⟩)⟩), kq_wsX8_fits⟩) (by decide +kernel)
set_option maxRecDepth 20000 in
theorem gL_law_X9_fits : GoodIn wsL_law (wsV RL 188 RX9 yX9_fits wsX9_fits) := goodIn_sub (by
  unfold wsV
  exact List.forall_mem_append.mpr ⟨(List.forall_mem_cons.mpr ⟨(kr_wsL_law_r65 _ (List.mem_of_getElem? (i := 4) rfl)), (List.forall_mem_cons.mpr ⟨(kr_wsL_law_r65 _ (List.mem_of_getElem? (i := 5) rfl)), (List.forall_mem_cons.mpr ⟨(kr_wsL_law_r65 _ (List.mem_of_getElem? (i := 6) rfl)), (List.forall_mem_cons.mpr ⟨(kr_wsL_law_r1 _ (List.mem_of_getElem? (i := 5) rfl)), (fun _ h => absurd h List.not_mem_nil)⟩)⟩)⟩)⟩), kq_wsX9_fits⟩) (by decide +kernel)
set_option maxRecDepth 20000 in
theorem gL_law_X8_sure : GoodIn wsL_law (wsV RL 189 RX8 yX8_sure wsX8_sure) := goodIn_sub (by
  unfold wsV
  exact List.forall_mem_append.mpr ⟨(List.forall_mem_cons.mpr ⟨(kr_wsL_law_r65 _ (List.mem_of_getElem? (i := 16) rfl)), (List.forall_mem_cons.mpr ⟨(kr_wsL_law_r65 _ (List.mem_of_getElem? (i := 17) rfl)), (List.forall_mem_cons.mpr ⟨(kr_wsL_law_r65 _ (List.mem_of_getElem? (i := 18) rfl)), (List.forall_mem_cons.mpr ⟨(kr_wsL_law_r1 _ (List.mem_of_getElem? (i := 2) rfl)), (fun _ h => absurd h List.not_mem_nil)⟩)⟩)⟩)⟩), kq_wsX8_sure⟩) (by decide +kernel)
set_option maxRecDepth 20000 in
theorem gL_law_X9_sure : GoodIn wsL_law (wsV RL 192 RX9 yX9_sure wsX9_sure) := goodIn_sub (by
  unfold wsV
  exact List.forall_mem_append.mpr ⟨(List.forall_mem_cons.mpr ⟨(kr_wsL_law_r65 _ (List.mem_of_getElem? (i := 20) rfl)), (List.forall_mem_cons.mpr ⟨(kr_wsL_law_r65 _ (List.mem_of_getElem? (i := 21) rfl)), (List.forall_mem_cons.mpr ⟨(kr_wsL_law_r65 _ (List.mem_of_getElem? (i := 22) rfl)), (List.forall_mem_cons.mpr ⟨(kr_wsL_law_r1 _ (List.mem_of_getElem? (i := 5) rfl)), (fun _ h => absurd h List.not_mem_nil)⟩)⟩)⟩)⟩), kq_wsX9_sure⟩) (by decide +kernel)
set_option maxRecDepth 20000 in
theorem gL_law_X8_ask : GoodIn wsL_law (wsV RL 193 RX8 yX8_ask wsX8_ask) := goodIn_sub (by
  unfold wsV
  exact List.forall_mem_append.mpr ⟨(List.forall_mem_cons.mpr ⟨(kr_wsL_law_r66 _ (List.mem_of_getElem? (i := 1) rfl)), (List.forall_mem_cons.mpr ⟨(kr_wsL_law_r66 _ (List.mem_of_getElem? (i := 2) rfl)), (List.forall_mem_cons.mpr ⟨(kr_wsL_law_r66 _ (List.mem_of_getElem? (i := 3) rfl)), (List.forall_mem_cons.mpr ⟨(kr_wsL_law_r1 _ (List.mem_of_getElem? (i := 2) rfl)), (fun _ h => absurd h List.not_mem_nil)⟩)⟩)⟩)⟩), kq_wsX8_ask⟩) (by decide +kernel)
set_option maxRecDepth 20000 in
theorem gL_law_X9_ask : GoodIn wsL_law (wsV RL 196 RX9 yX9_ask wsX9_ask) := goodIn_sub (by
  unfold wsV
  exact List.forall_mem_append.mpr ⟨(List.forall_mem_cons.mpr ⟨(kr_wsL_law_r66 _ (List.mem_of_getElem? (i := 11) rfl)), (List.forall_mem_cons.mpr ⟨(kr_wsL_law_r66 _ (List.mem_of_getElem? (i := 12) rfl)), (List.forall_mem_cons.mpr ⟨(kr_wsL_law_r66 _ (List.mem_of_getElem? (i := 13) rfl)), (List.forall_mem_cons.mpr ⟨(kr_wsL_law_r1 _ (List.mem_of_getElem? (i := 5) rfl)), (fun _ h => absurd h List.not_mem_nil)⟩)⟩)⟩)⟩), kq_wsX9_ask⟩) (by decide +kernel)
set_option maxRecDepth 20000 in
theorem gL_law_X8_image : GoodIn wsL_law (wsV RL 197 RX8 yX8_image wsX8_image) := goodIn_sub (by
  unfold wsV
  exact List.forall_mem_append.mpr ⟨(List.forall_mem_cons.mpr ⟨(kr_wsL_law_r66 _ (List.mem_of_getElem? (i := 15) rfl)), (List.forall_mem_cons.mpr ⟨(kr_wsL_law_r66 _ (List.mem_of_getElem? (i := 16) rfl)), (List.forall_mem_cons.mpr ⟨(kr_wsL_law_r66 _ (List.mem_of_getElem? (i := 17) rfl)), (List.forall_mem_cons.mpr ⟨(kr_wsL_law_r1 _ (List.mem_of_getElem? (i := 2) rfl)), (fun _ h => absurd h List.not_mem_nil)⟩)⟩)⟩)⟩), kq_wsX8_image⟩) (by decide +kernel)
set_option maxRecDepth 20000 in
theorem gL_law_X9_image : GoodIn wsL_law (wsV RL 200 RX9 yX9_image wsX9_image) := goodIn_sub (by
  unfold wsV
  exact List.forall_mem_append.mpr ⟨(List.forall_mem_cons.mpr ⟨(kr_wsL_law_r66 _ (List.mem_of_getElem? (i := 19) rfl)), (List.forall_mem_cons.mpr ⟨(kr_wsL_law_r66 _ (List.mem_of_getElem? (i := 20) rfl)), (List.forall_mem_cons.mpr ⟨(kr_wsL_law_r66 _ (List.mem_of_getElem? (i := 21) rfl)), (List.forall_mem_cons.mpr ⟨(kr_wsL_law_r1 _ (List.mem_of_getElem? (i := 5) rfl)), (fun _ h => absurd h List.not_mem_nil)⟩)⟩)⟩)⟩), kq_wsX9_image⟩) (by decide +kernel)
set_option maxRecDepth 20000 in
theorem gL_law_X8_back : GoodIn wsL_law (wsV RL 201 RX8 yX8_back wsX8_back) := goodIn_sub (by
  unfold wsV
  exact List.forall_mem_append.mpr ⟨(List.forall_mem_cons.mpr ⟨(kr_wsL_law_r66 _ (List.mem_of_getElem? (i := 23) rfl)), (List.forall_mem_cons.mpr ⟨(kr_wsL_law_r67 _ (List.mem_of_getElem? (i := 0) rfl)), (List.forall_mem_cons.mpr ⟨(kr_wsL_law_r67 _ (List.mem_of_getElem? (i := 1) rfl)), (List.forall_mem_cons.mpr ⟨(kr_wsL_law_r1 _ (List.mem_of_getElem? (i := 2) rfl)), (fun _ h => absurd h List.not_mem_nil)⟩)⟩)⟩)⟩), kq_wsX8_back⟩) (by decide +kernel)
set_option maxRecDepth 20000 in
theorem gL_law_X9_back : GoodIn wsL_law (wsV RL 204 RX9 yX9_back wsX9_back) := goodIn_sub (by
  unfold wsV
  exact List.forall_mem_append.mpr ⟨(List.forall_mem_cons.mpr ⟨(kr_wsL_law_r67 _ (List.mem_of_getElem? (i := 3) rfl)), (List.forall_mem_cons.mpr ⟨(kr_wsL_law_r67 _ (List.mem_of_getElem? (i := 4) rfl)), (List.forall_mem_cons.mpr ⟨(kr_wsL_law_r67 _ (List.mem_of_getElem? (i := 5) rfl)), (List.forall_mem_cons.mpr ⟨(kr_wsL_law_r1 _ (List.mem_of_getElem? (i := 5) rfl)), (fun _ h => absurd h List.not_mem_nil)⟩)⟩)⟩)⟩), kq_wsX9_back⟩) (by decide +kernel)
set_option maxRecDepth 20000 in
theorem gL_law_X8_about : GoodIn wsL_law (wsV RL 205 RX8 yX8_about wsX8_about) := goodIn_sub (by
  unfold wsV
  exact List.forall_mem_append.mpr ⟨(List.forall_mem_cons.mpr ⟨(kr_wsL_law_r67 _ (List.mem_of_getElem? (i := 7) rfl)), (List.forall_mem_cons.mpr ⟨(kr_wsL_law_r67 _ (List.mem_of_getElem? (i := 8) rfl)), (List.forall_mem_cons.mpr ⟨(kr_wsL_law_r67 _ (List.mem_of_getElem? (i := 9) rfl)), (List.forall_mem_cons.mpr ⟨(kr_wsL_law_r1 _ (List.mem_of_getElem? (i := 2) rfl)), (fun _ h => absurd h List.not_mem_nil)⟩)⟩)⟩)⟩), kq_wsX8_about⟩) (by decide +kernel)
set_option maxRecDepth 20000 in
theorem gL_law_X9_about : GoodIn wsL_law (wsV RL 208 RX9 yX9_about wsX9_about) := goodIn_sub (by
  unfold wsV
  exact List.forall_mem_append.mpr ⟨(List.forall_mem_cons.mpr ⟨(kr_wsL_law_r67 _ (List.mem_of_getElem? (i := 20) rfl)), (List.forall_mem_cons.mpr ⟨(kr_wsL_law_r67 _ (List.mem_of_getElem? (i := 21) rfl)), (List.forall_mem_cons.mpr ⟨(kr_wsL_law_r67 _ (List.mem_of_getElem? (i := 22) rfl)), (List.forall_mem_cons.mpr ⟨(kr_wsL_law_r1 _ (List.mem_of_getElem? (i := 5) rfl)), (fun _ h => absurd h List.not_mem_nil)⟩)⟩)⟩)⟩), kq_wsX9_about⟩) (by decide +kernel)
