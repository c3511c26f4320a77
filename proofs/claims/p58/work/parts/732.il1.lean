set_option maxRecDepth 20000 in
theorem il_wsL_written_r3 : ∀ w ∈ wsL_written_r3, w ∈ lw_tbl2 := by
  delta wsL_written_r3
  exact (List.forall_mem_cons.mpr ⟨tw_392, (List.forall_mem_cons.mpr ⟨tw_402, (List.forall_mem_cons.mpr ⟨tw_391, (List.forall_mem_cons.mpr ⟨tw_390, (List.forall_mem_cons.mpr ⟨tw_389, (List.forall_mem_cons.mpr ⟨tw_388, (List.forall_mem_cons.mpr ⟨tw_397, (List.forall_mem_cons.mpr ⟨tw_396, (List.forall_mem_cons.mpr ⟨tw_395, (fun _ h => absurd h List.not_mem_nil)⟩)⟩)⟩)⟩)⟩)⟩)⟩)⟩)⟩)
set_option maxRecDepth 20000 in
theorem il_wsL_written : ∀ w ∈ wsL_written, w ∈ lw_tbl2 := by
  delta wsL_written
  exact (List.forall_mem_cons.mpr ⟨tw_907, (List.forall_mem_append.mpr ⟨(List.forall_mem_append.mpr ⟨(List.forall_mem_append.mpr ⟨(List.forall_mem_append.mpr ⟨il_wsL_written_r1, (List.forall_mem_append.mpr ⟨il_wsL_written_r2, il_wsL_written_r3⟩)⟩), il_wsX90⟩), il_wsJ40⟩), fx_0⟩)⟩)
set_option maxRecDepth 20000 in
theorem il_wsX10_accruedParts : ∀ w ∈ wsX10_accruedParts, w ∈ lw_tbl2 := by
  delta wsX10_accruedParts
  exact (List.forall_mem_cons.mpr ⟨tw_923, (List.forall_mem_append.mpr ⟨(List.forall_mem_cons.mpr ⟨tw_925, (List.forall_mem_cons.mpr ⟨tw_924, (fun _ h => absurd h List.not_mem_nil)⟩)⟩), il_wsX100⟩)⟩)
set_option maxRecDepth 20000 in
theorem il_wsX10_approve_r1 : ∀ w ∈ wsX10_approve_r1, w ∈ lw_tbl2 := by
  delta wsX10_approve_r1
  exact (List.forall_mem_cons.mpr ⟨tw_949, (List.forall_mem_cons.mpr ⟨tw_948, (List.forall_mem_cons.mpr ⟨tw_947, (List.forall_mem_cons.mpr ⟨tw_946, (List.forall_mem_cons.mpr ⟨tw_945, (List.forall_mem_cons.mpr ⟨tw_944, (List.forall_mem_cons.mpr ⟨tw_943, (List.forall_mem_cons.mpr ⟨tw_942, (List.forall_mem_cons.mpr ⟨tw_941, (List.forall_mem_cons.mpr ⟨tw_940, (List.forall_mem_cons.mpr ⟨tw_939, (List.forall_mem_cons.mpr ⟨tw_938, (List.forall_mem_cons.mpr ⟨tw_937, (List.forall_mem_cons.mpr ⟨tw_936, (List.forall_mem_cons.mpr ⟨tw_935, (List.forall_mem_cons.mpr ⟨tw_934, (List.forall_mem_cons.mpr ⟨tw_933, (List.forall_mem_cons.mpr ⟨tw_932, (List.forall_mem_cons.mpr ⟨tw_931, (List.forall_mem_cons.mpr ⟨tw_930, (List.forall_mem_cons.mpr ⟨tw_929, (List.forall_mem_cons.mpr ⟨tw_925, (List.forall_mem_cons.mpr ⟨tw_928, (List.forall_mem_cons.mpr ⟨tw_927, (fun _ h => absurd h List.not_mem_nil)⟩)⟩)⟩)⟩)⟩)⟩)⟩)⟩)⟩)⟩)⟩)⟩)⟩)⟩)⟩)⟩)⟩)⟩)⟩)⟩)⟩)⟩)⟩)⟩)
set_option maxRecDepth 20000 in
theorem il_wsX10_approve_r2 : ∀ w ∈ wsX10_approve_r2, w ∈ lw_tbl2 := by
  delta wsX10_approve_r2
  exact (List.forall_mem_cons.mpr ⟨tw_972, (List.forall_mem_cons.mpr ⟨tw_971, (List.forall_mem_cons.mpr ⟨tw_970, (List.forall_mem_cons.mpr ⟨tw_969, (List.forall_mem_cons.mpr ⟨tw_968, (List.forall_mem_cons.mpr ⟨tw_924, (List.forall_mem_cons.mpr ⟨tw_967, (List.forall_mem_cons.mpr ⟨tw_966, (List.forall_mem_cons.mpr ⟨tw_965, (List.forall_mem_cons.mpr ⟨tw_964, (List.forall_mem_cons.mpr ⟨tw_963, (List.forall_mem_cons.mpr ⟨tw_962, (List.forall_mem_cons.mpr ⟨tw_961, (List.forall_mem_cons.mpr ⟨tw_960, (List.forall_mem_cons.mpr ⟨tw_959, (List.forall_mem_cons.mpr ⟨tw_958, (List.forall_mem_cons.mpr ⟨tw_957, (List.forall_mem_cons.mpr ⟨tw_956, (List.forall_mem_cons.mpr ⟨tw_955, (List.forall_mem_cons.mpr ⟨tw_954, (List.forall_mem_cons.mpr ⟨tw_953, (List.forall_mem_cons.mpr ⟨tw_952, (List.forall_mem_cons.mpr ⟨tw_951, (List.forall_mem_cons.mpr ⟨tw_950, (fun _ h => absurd h List.not_mem_nil)⟩)⟩)⟩)⟩)⟩)⟩)⟩)⟩)⟩)⟩)⟩)⟩)⟩)⟩)⟩)⟩)⟩)⟩)⟩)⟩)⟩)⟩)⟩)⟩)
set_option maxRecDepth 20000 in
theorem il_wsX10_approve_r3 : ∀ w ∈ wsX10_approve_r3, w ∈ lw_tbl2 := by
  delta wsX10_approve_r3
  exact (List.forall_mem_cons.mpr ⟨tw_978, (List.forall_mem_cons.mpr ⟨tw_977, (List.forall_mem_cons.mpr ⟨tw_976, (List.forall_mem_cons.mpr ⟨tw_975, (List.forall_mem_cons.mpr ⟨tw_974, (List.forall_mem_cons.mpr ⟨tw_973, (fun _ h => absurd h List.not_mem_nil)⟩)⟩)⟩)⟩)⟩)⟩)
set_option maxRecDepth 20000 in
theorem il_wsX10_approve : ∀ w ∈ wsX10_approve, w ∈ lw_tbl2 := by
  delta wsX10_approve
  exact (List.forall_mem_cons.mpr ⟨tw_926, (List.forall_mem_append.mpr ⟨(List.forall_mem_append.mpr ⟨il_wsX10_approve_r1, (List.forall_mem_append.mpr ⟨il_wsX10_approve_r2, il_wsX10_approve_r3⟩)⟩), il_wsX100⟩)⟩)
set_option maxRecDepth 20000 in
theorem il_wsX10_available : ∀ w ∈ wsX10_available, w ∈ lw_tbl2 := by
  delta wsX10_available
  exact (List.forall_mem_cons.mpr ⟨tw_979, (List.forall_mem_append.mpr ⟨(List.forall_mem_cons.mpr ⟨tw_925, (List.forall_mem_cons.mpr ⟨tw_983, (List.forall_mem_cons.mpr ⟨tw_982, (List.forall_mem_cons.mpr ⟨tw_981, (List.forall_mem_cons.mpr ⟨tw_946, (List.forall_mem_cons.mpr ⟨tw_980, (List.forall_mem_cons.mpr ⟨tw_944, (List.forall_mem_cons.mpr ⟨tw_936, (List.forall_mem_cons.mpr ⟨tw_935, (List.forall_mem_cons.mpr ⟨tw_934, (List.forall_mem_cons.mpr ⟨tw_933, (fun _ h => absurd h List.not_mem_nil)⟩)⟩)⟩)⟩)⟩)⟩)⟩)⟩)⟩)⟩)⟩), il_wsX100⟩)⟩)
set_option maxRecDepth 20000 in
theorem il_wsX10_busiestDay : ∀ w ∈ wsX10_busiestDay, w ∈ lw_tbl2 := by
  delta wsX10_busiestDay
  exact (List.forall_mem_cons.mpr ⟨tw_984, (List.forall_mem_append.mpr ⟨(List.forall_mem_cons.mpr ⟨tw_925, (List.forall_mem_cons.mpr ⟨tw_944, (List.forall_mem_cons.mpr ⟨tw_992, (List.forall_mem_cons.mpr ⟨tw_991, (List.forall_mem_cons.mpr ⟨tw_990, (List.forall_mem_cons.mpr ⟨tw_946, (List.forall_mem_cons.mpr ⟨tw_989, (List.forall_mem_cons.mpr ⟨tw_988, (List.forall_mem_cons.mpr ⟨tw_987, (List.forall_mem_cons.mpr ⟨tw_986, (List.forall_mem_cons.mpr ⟨tw_985, (fun _ h => absurd h List.not_mem_nil)⟩)⟩)⟩)⟩)⟩)⟩)⟩)⟩)⟩)⟩)⟩), il_wsX100⟩)⟩)
set_option maxRecDepth 20000 in
theorem il_wsX10_cancel_r1 : ∀ w ∈ wsX10_cancel_r1, w ∈ lw_tbl2 := by
  delta wsX10_cancel_r1
  exact (List.forall_mem_cons.mpr ⟨tw_949, (List.forall_mem_cons.mpr ⟨tw_948, (List.forall_mem_cons.mpr ⟨tw_947, (List.forall_mem_cons.mpr ⟨tw_946, (List.forall_mem_cons.mpr ⟨tw_945, (List.forall_mem_cons.mpr ⟨tw_944, (List.forall_mem_cons.mpr ⟨tw_943, (List.forall_mem_cons.mpr ⟨tw_942, (List.forall_mem_cons.mpr ⟨tw_941, (List.forall_mem_cons.mpr ⟨tw_997, (List.forall_mem_cons.mpr ⟨tw_996, (List.forall_mem_cons.mpr ⟨tw_995, (List.forall_mem_cons.mpr ⟨tw_994, (List.forall_mem_cons.mpr ⟨tw_936, (List.forall_mem_cons.mpr ⟨tw_935, (List.forall_mem_cons.mpr ⟨tw_934, (List.forall_mem_cons.mpr ⟨tw_933, (List.forall_mem_cons.mpr ⟨tw_932, (List.forall_mem_cons.mpr ⟨tw_931, (List.forall_mem_cons.mpr ⟨tw_930, (List.forall_mem_cons.mpr ⟨tw_929, (List.forall_mem_cons.mpr ⟨tw_925, (List.forall_mem_cons.mpr ⟨tw_928, (List.forall_mem_cons.mpr ⟨tw_927, (fun _ h => absurd h List.not_mem_nil)⟩)⟩)⟩)⟩)⟩)⟩)⟩)⟩)⟩)⟩)⟩)⟩)⟩)⟩)⟩)⟩)⟩)⟩)⟩)⟩)⟩)⟩)⟩)⟩)
set_option maxRecDepth 20000 in
theorem il_wsX10_cancel_r2 : ∀ w ∈ wsX10_cancel_r2, w ∈ lw_tbl2 := by
  delta wsX10_cancel_r2
  exact (List.forall_mem_cons.mpr ⟨tw_972, (List.forall_mem_cons.mpr ⟨tw_971, (List.forall_mem_cons.mpr ⟨tw_970, (List.forall_mem_cons.mpr ⟨tw_969, (List.forall_mem_cons.mpr ⟨tw_968, (List.forall_mem_cons.mpr ⟨tw_924, (List.forall_mem_cons.mpr ⟨tw_1001, (List.forall_mem_cons.mpr ⟨tw_1000, (List.forall_mem_cons.mpr ⟨tw_999, (List.forall_mem_cons.mpr ⟨tw_998, (List.forall_mem_cons.mpr ⟨tw_940, (List.forall_mem_cons.mpr ⟨tw_939, (List.forall_mem_cons.mpr ⟨tw_938, (List.forall_mem_cons.mpr ⟨tw_937, (List.forall_mem_cons.mpr ⟨tw_967, (List.forall_mem_cons.mpr ⟨tw_966, (List.forall_mem_cons.mpr ⟨tw_965, (List.forall_mem_cons.mpr ⟨tw_964, (fun _ h => absurd h List.not_mem_nil)⟩)⟩)⟩)⟩)⟩)⟩)⟩)⟩)⟩)⟩)⟩)⟩)⟩)⟩)⟩)⟩)⟩)⟩)
set_option maxRecDepth 20000 in
theorem il_wsX10_cancel : ∀ w ∈ wsX10_cancel, w ∈ lw_tbl2 := by
  delta wsX10_cancel
  exact (List.forall_mem_cons.mpr ⟨tw_993, (List.forall_mem_append.mpr ⟨(List.forall_mem_append.mpr ⟨il_wsX10_cancel_r1, il_wsX10_cancel_r2⟩), il_wsX100⟩)⟩)
set_option maxRecDepth 20000 in
theorem il_wsX10_close_r1 : ∀ w ∈ wsX10_close_r1, w ∈ lw_tbl2 := by
  delta wsX10_close_r1
  exact (List.forall_mem_cons.mpr ⟨tw_944, (List.forall_mem_cons.mpr ⟨tw_1010, (List.forall_mem_cons.mpr ⟨tw_1009, (List.forall_mem_cons.mpr ⟨tw_1008, (List.forall_mem_cons.mpr ⟨tw_946, (List.forall_mem_cons.mpr ⟨tw_1007, (List.forall_mem_cons.mpr ⟨tw_940, (List.forall_mem_cons.mpr ⟨tw_939, (List.forall_mem_cons.mpr ⟨tw_938, (List.forall_mem_cons.mpr ⟨tw_937, (List.forall_mem_cons.mpr ⟨tw_936, (List.forall_mem_cons.mpr ⟨tw_935, (List.forall_mem_cons.mpr ⟨tw_934, (List.forall_mem_cons.mpr ⟨tw_933, (List.forall_mem_cons.mpr ⟨tw_1006, (List.forall_mem_cons.mpr ⟨tw_1005, (List.forall_mem_cons.mpr ⟨tw_1004, (List.forall_mem_cons.mpr ⟨tw_1003, (List.forall_mem_cons.mpr ⟨tw_925, (List.forall_mem_cons.mpr ⟨tw_928, (List.forall_mem_cons.mpr ⟨tw_927, (List.forall_mem_cons.mpr ⟨tw_972, (List.forall_mem_cons.mpr ⟨tw_971, (List.forall_mem_cons.mpr ⟨tw_970, (fun _ h => absurd h List.not_mem_nil)⟩)⟩)⟩)⟩)⟩)⟩)⟩)⟩)⟩)⟩)⟩)⟩)⟩)⟩)⟩)⟩)⟩)⟩)⟩)⟩)⟩)⟩)⟩)⟩)
set_option maxRecDepth 20000 in
theorem il_wsX10_close_r2 : ∀ w ∈ wsX10_close_r2, w ∈ lw_tbl2 := by
  delta wsX10_close_r2
  exact (List.forall_mem_cons.mpr ⟨tw_969, (List.forall_mem_cons.mpr ⟨tw_968, (List.forall_mem_cons.mpr ⟨tw_924, (List.forall_mem_cons.mpr ⟨tw_1017, (List.forall_mem_cons.mpr ⟨tw_1016, (List.forall_mem_cons.mpr ⟨tw_1015, (List.forall_mem_cons.mpr ⟨tw_1014, (List.forall_mem_cons.mpr ⟨tw_1013, (List.forall_mem_cons.mpr ⟨tw_1012, (List.forall_mem_cons.mpr ⟨tw_1011, (fun _ h => absurd h List.not_mem_nil)⟩)⟩)⟩)⟩)⟩)⟩)⟩)⟩)⟩)⟩)
set_option maxRecDepth 20000 in
theorem il_wsX10_close : ∀ w ∈ wsX10_close, w ∈ lw_tbl2 := by
  delta wsX10_close
  exact (List.forall_mem_cons.mpr ⟨tw_1002, (List.forall_mem_append.mpr ⟨(List.forall_mem_append.mpr ⟨il_wsX10_close_r1, il_wsX10_close_r2⟩), il_wsX100⟩)⟩)
set_option maxRecDepth 20000 in
theorem il_wsX10_closedCount : ∀ w ∈ wsX10_closedCount, w ∈ lw_tbl2 := by
  delta wsX10_closedCount
  exact (List.forall_mem_cons.mpr ⟨tw_1018, (List.forall_mem_append.mpr ⟨(List.forall_mem_cons.mpr ⟨tw_925, (List.forall_mem_cons.mpr ⟨tw_944, (List.forall_mem_cons.mpr ⟨tw_940, (List.forall_mem_cons.mpr ⟨tw_939, (List.forall_mem_cons.mpr ⟨tw_938, (List.forall_mem_cons.mpr ⟨tw_946, (List.forall_mem_cons.mpr ⟨tw_937, (List.forall_mem_cons.mpr ⟨tw_936, (List.forall_mem_cons.mpr ⟨tw_935, (List.forall_mem_cons.mpr ⟨tw_934, (List.forall_mem_cons.mpr ⟨tw_933, (fun _ h => absurd h List.not_mem_nil)⟩)⟩)⟩)⟩)⟩)⟩)⟩)⟩)⟩)⟩)⟩), il_wsX100⟩)⟩)
set_option maxRecDepth 20000 in
theorem il_wsX10_credited : ∀ w ∈ wsX10_credited, w ∈ lw_tbl2 := by
  delta wsX10_credited
  exact (List.forall_mem_cons.mpr ⟨tw_1019, (List.forall_mem_append.mpr ⟨(List.forall_mem_cons.mpr ⟨tw_925, (List.forall_mem_cons.mpr ⟨tw_944, (fun _ h => absurd h List.not_mem_nil)⟩)⟩), il_wsX100⟩)⟩)
set_option maxRecDepth 20000 in
theorem il_wsX10_creditedAfter_r1 : ∀ w ∈ wsX10_creditedAfter_r1, w ∈ lw_tbl2 := by
  delta wsX10_creditedAfter_r1
  exact (List.forall_mem_cons.mpr ⟨tw_944, (List.forall_mem_cons.mpr ⟨tw_1033, (List.forall_mem_cons.mpr ⟨tw_1032, (List.forall_mem_cons.mpr ⟨tw_946, (List.forall_mem_cons.mpr ⟨tw_1031, (List.forall_mem_cons.mpr ⟨tw_1030, (List.forall_mem_cons.mpr ⟨tw_943, (List.forall_mem_cons.mpr ⟨tw_942, (List.forall_mem_cons.mpr ⟨tw_941, (List.forall_mem_cons.mpr ⟨tw_1006, (List.forall_mem_cons.mpr ⟨tw_1005, (List.forall_mem_cons.mpr ⟨tw_1004, (List.forall_mem_cons.mpr ⟨tw_1003, (List.forall_mem_cons.mpr ⟨tw_925, (List.forall_mem_cons.mpr ⟨tw_1029, (List.forall_mem_cons.mpr ⟨tw_1028, (List.forall_mem_cons.mpr ⟨tw_1027, (List.forall_mem_cons.mpr ⟨tw_1026, (List.forall_mem_cons.mpr ⟨tw_1025, (List.forall_mem_cons.mpr ⟨tw_924, (List.forall_mem_cons.mpr ⟨tw_1024, (List.forall_mem_cons.mpr ⟨tw_1023, (List.forall_mem_cons.mpr ⟨tw_1022, (List.forall_mem_cons.mpr ⟨tw_1021, (fun _ h => absurd h List.not_mem_nil)⟩)⟩)⟩)⟩)⟩)⟩)⟩)⟩)⟩)⟩)⟩)⟩)⟩)⟩)⟩)⟩)⟩)⟩)⟩)⟩)⟩)⟩)⟩)⟩)
set_option maxRecDepth 20000 in
theorem il_wsX10_creditedAfter_r2 : ∀ w ∈ wsX10_creditedAfter_r2, w ∈ lw_tbl2 := by
  delta wsX10_creditedAfter_r2
  exact (List.forall_mem_cons.mpr ⟨tw_1050, (List.forall_mem_cons.mpr ⟨tw_1049, (List.forall_mem_cons.mpr ⟨tw_1048, (List.forall_mem_cons.mpr ⟨tw_1047, (List.forall_mem_cons.mpr ⟨tw_1046, (List.forall_mem_cons.mpr ⟨tw_1045, (List.forall_mem_cons.mpr ⟨tw_1044, (List.forall_mem_cons.mpr ⟨tw_1043, (List.forall_mem_cons.mpr ⟨tw_1042, (List.forall_mem_cons.mpr ⟨tw_1041, (List.forall_mem_cons.mpr ⟨tw_1040, (List.forall_mem_cons.mpr ⟨tw_1039, (List.forall_mem_cons.mpr ⟨tw_1038, (List.forall_mem_cons.mpr ⟨tw_1013, (List.forall_mem_cons.mpr ⟨tw_1012, (List.forall_mem_cons.mpr ⟨tw_1011, (List.forall_mem_cons.mpr ⟨tw_1037, (List.forall_mem_cons.mpr ⟨tw_1036, (List.forall_mem_cons.mpr ⟨tw_1035, (List.forall_mem_cons.mpr ⟨tw_1034, (List.forall_mem_cons.mpr ⟨tw_959, (List.forall_mem_cons.mpr ⟨tw_958, (List.forall_mem_cons.mpr ⟨tw_957, (List.forall_mem_cons.mpr ⟨tw_956, (fun _ h => absurd h List.not_mem_nil)⟩)⟩)⟩)⟩)⟩)⟩)⟩)⟩)⟩)⟩)⟩)⟩)⟩)⟩)⟩)⟩)⟩)⟩)⟩)⟩)⟩)⟩)⟩)⟩)
set_option maxRecDepth 20000 in
theorem il_wsX10_creditedAfter_r3 : ∀ w ∈ wsX10_creditedAfter_r3, w ∈ lw_tbl2 := by
  delta wsX10_creditedAfter_r3
  exact (List.forall_mem_cons.mpr ⟨tw_936, (List.forall_mem_cons.mpr ⟨tw_935, (List.forall_mem_cons.mpr ⟨tw_934, (List.forall_mem_cons.mpr ⟨tw_933, (List.forall_mem_cons.mpr ⟨tw_955, (List.forall_mem_cons.mpr ⟨tw_954, (List.forall_mem_cons.mpr ⟨tw_953, (List.forall_mem_cons.mpr ⟨tw_952, (List.forall_mem_cons.mpr ⟨tw_951, (List.forall_mem_cons.mpr ⟨tw_950, (List.forall_mem_cons.mpr ⟨tw_978, (List.forall_mem_cons.mpr ⟨tw_977, (List.forall_mem_cons.mpr ⟨tw_976, (List.forall_mem_cons.mpr ⟨tw_975, (List.forall_mem_cons.mpr ⟨tw_974, (List.forall_mem_cons.mpr ⟨tw_973, (List.forall_mem_cons.mpr ⟨tw_967, (List.forall_mem_cons.mpr ⟨tw_966, (List.forall_mem_cons.mpr ⟨tw_965, (List.forall_mem_cons.mpr ⟨tw_964, (List.forall_mem_cons.mpr ⟨tw_1054, (List.forall_mem_cons.mpr ⟨tw_1053, (List.forall_mem_cons.mpr ⟨tw_1052, (List.forall_mem_cons.mpr ⟨tw_1051, (fun _ h => absurd h List.not_mem_nil)⟩)⟩)⟩)⟩)⟩)⟩)⟩)⟩)⟩)⟩)⟩)⟩)⟩)⟩)⟩)⟩)⟩)⟩)⟩)⟩)⟩)⟩)⟩)⟩)
set_option maxRecDepth 20000 in
theorem il_wsX10_creditedAfter_r4 : ∀ w ∈ wsX10_creditedAfter_r4, w ∈ lw_tbl2 := by
  delta wsX10_creditedAfter_r4
  exact (List.forall_mem_cons.mpr ⟨tw_1064, (List.forall_mem_cons.mpr ⟨tw_1063, (List.forall_mem_cons.mpr ⟨tw_33, (List.forall_mem_cons.mpr ⟨tw_32, (List.forall_mem_cons.mpr ⟨tw_31, (List.forall_mem_cons.mpr ⟨tw_1062, (List.forall_mem_cons.mpr ⟨tw_1061, (List.forall_mem_cons.mpr ⟨tw_1060, (List.forall_mem_cons.mpr ⟨tw_1059, (List.forall_mem_cons.mpr ⟨tw_1058, (List.forall_mem_cons.mpr ⟨tw_1057, (List.forall_mem_cons.mpr ⟨tw_1056, (List.forall_mem_cons.mpr ⟨tw_1055, (List.forall_mem_cons.mpr ⟨tw_1001, (List.forall_mem_cons.mpr ⟨tw_1000, (List.forall_mem_cons.mpr ⟨tw_999, (List.forall_mem_cons.mpr ⟨tw_998, (List.forall_mem_cons.mpr ⟨tw_940, (List.forall_mem_cons.mpr ⟨tw_939, (List.forall_mem_cons.mpr ⟨tw_938, (List.forall_mem_cons.mpr ⟨tw_937, (List.forall_mem_cons.mpr ⟨tw_983, (List.forall_mem_cons.mpr ⟨tw_982, (List.forall_mem_cons.mpr ⟨tw_981, (fun _ h => absurd h List.not_mem_nil)⟩)⟩)⟩)⟩)⟩)⟩)⟩)⟩)⟩)⟩)⟩)⟩)⟩)⟩)⟩)⟩)⟩)⟩)⟩)⟩)⟩)⟩)⟩)⟩)
set_option maxRecDepth 20000 in
theorem il_wsX10_creditedAfter_r5 : ∀ w ∈ wsX10_creditedAfter_r5, w ∈ lw_tbl2 := by
  delta wsX10_creditedAfter_r5
  exact (List.forall_mem_cons.mpr ⟨tw_980, (List.forall_mem_cons.mpr ⟨tw_1084, (List.forall_mem_cons.mpr ⟨tw_1083, (List.forall_mem_cons.mpr ⟨tw_1082, (List.forall_mem_cons.mpr ⟨tw_1081, (List.forall_mem_cons.mpr ⟨tw_1080, (List.forall_mem_cons.mpr ⟨tw_1079, (List.forall_mem_cons.mpr ⟨tw_1078, (List.forall_mem_cons.mpr ⟨tw_1077, (List.forall_mem_cons.mpr ⟨tw_1076, (List.forall_mem_cons.mpr ⟨tw_1075, (List.forall_mem_cons.mpr ⟨tw_1074, (List.forall_mem_cons.mpr ⟨tw_1073, (List.forall_mem_cons.mpr ⟨tw_1072, (List.forall_mem_cons.mpr ⟨tw_1071, (List.forall_mem_cons.mpr ⟨tw_1070, (List.forall_mem_cons.mpr ⟨tw_1069, (List.forall_mem_cons.mpr ⟨tw_1068, (List.forall_mem_cons.mpr ⟨tw_1067, (List.forall_mem_cons.mpr ⟨tw_1066, (List.forall_mem_cons.mpr ⟨tw_1065, (fun _ h => absurd h List.not_mem_nil)⟩)⟩)⟩)⟩)⟩)⟩)⟩)⟩)⟩)⟩)⟩)⟩)⟩)⟩)⟩)⟩)⟩)⟩)⟩)⟩)⟩)
set_option maxRecDepth 20000 in
theorem il_wsX10_creditedAfter : ∀ w ∈ wsX10_creditedAfter, w ∈ lw_tbl2 := by
  delta wsX10_creditedAfter
  exact (List.forall_mem_cons.mpr ⟨tw_1020, (List.forall_mem_append.mpr ⟨(List.forall_mem_append.mpr ⟨il_wsX10_creditedAfter_r1, (List.forall_mem_append.mpr ⟨il_wsX10_creditedAfter_r2, (List.forall_mem_append.mpr ⟨il_wsX10_creditedAfter_r3, (List.forall_mem_append.mpr ⟨il_wsX10_creditedAfter_r4, il_wsX10_creditedAfter_r5⟩)⟩)⟩)⟩), il_wsX100⟩)⟩)
set_option maxRecDepth 20000 in
theorem il_wsX10_day : ∀ w ∈ wsX10_day, w ∈ lw_tbl2 := by
  delta wsX10_day
  exact (List.forall_mem_cons.mpr ⟨tw_1085, (List.forall_mem_append.mpr ⟨(List.forall_mem_cons.mpr ⟨tw_925, (List.forall_mem_cons.mpr ⟨tw_944, (fun _ h => absurd h List.not_mem_nil)⟩)⟩), il_wsX100⟩)⟩)
set_option maxRecDepth 20000 in
theorem il_wsX10_dayByClock_r1 : ∀ w ∈ wsX10_dayByClock_r1, w ∈ lw_tbl2 := by
  delta wsX10_dayByClock_r1
  exact (List.forall_mem_cons.mpr ⟨tw_944, (List.forall_mem_cons.mpr ⟨tw_949, (List.forall_mem_cons.mpr ⟨tw_948, (List.forall_mem_cons.mpr ⟨tw_947, (List.forall_mem_cons.mpr ⟨tw_946, (List.forall_mem_cons.mpr ⟨tw_945, (List.forall_mem_cons.mpr ⟨tw_943, (List.forall_mem_cons.mpr ⟨tw_942, (List.forall_mem_cons.mpr ⟨tw_941, (List.forall_mem_cons.mpr ⟨tw_1006, (List.forall_mem_cons.mpr ⟨tw_1005, (List.forall_mem_cons.mpr ⟨tw_1004, (List.forall_mem_cons.mpr ⟨tw_1003, (List.forall_mem_cons.mpr ⟨tw_925, (List.forall_mem_cons.mpr ⟨tw_959, (List.forall_mem_cons.mpr ⟨tw_958, (List.forall_mem_cons.mpr ⟨tw_957, (List.forall_mem_cons.mpr ⟨tw_956, (List.forall_mem_cons.mpr ⟨tw_936, (List.forall_mem_cons.mpr ⟨tw_935, (List.forall_mem_cons.mpr ⟨tw_934, (List.forall_mem_cons.mpr ⟨tw_933, (List.forall_mem_cons.mpr ⟨tw_955, (List.forall_mem_cons.mpr ⟨tw_954, (fun _ h => absurd h List.not_mem_nil)⟩)⟩)⟩)⟩)⟩)⟩)⟩)⟩)⟩)⟩)⟩)⟩)⟩)⟩)⟩)⟩)⟩)⟩)⟩)⟩)⟩)⟩)⟩)⟩)
set_option maxRecDepth 20000 in
theorem il_wsX10_dayByClock_r2 : ∀ w ∈ wsX10_dayByClock_r2, w ∈ lw_tbl2 := by
  delta wsX10_dayByClock_r2
  exact (List.forall_mem_cons.mpr ⟨tw_953, (List.forall_mem_cons.mpr ⟨tw_952, (List.forall_mem_cons.mpr ⟨tw_951, (List.forall_mem_cons.mpr ⟨tw_950, (List.forall_mem_cons.mpr ⟨tw_978, (List.forall_mem_cons.mpr ⟨tw_977, (List.forall_mem_cons.mpr ⟨tw_976, (List.forall_mem_cons.mpr ⟨tw_975, (List.forall_mem_cons.mpr ⟨tw_974, (List.forall_mem_cons.mpr ⟨tw_973, (fun _ h => absurd h List.not_mem_nil)⟩)⟩)⟩)⟩)⟩)⟩)⟩)⟩)⟩)⟩)
set_option maxRecDepth 20000 in
theorem il_wsX10_dayByClock : ∀ w ∈ wsX10_dayByClock, w ∈ lw_tbl2 := by
  delta wsX10_dayByClock
  exact (List.forall_mem_cons.mpr ⟨tw_1086, (List.forall_mem_append.mpr ⟨(List.forall_mem_append.mpr ⟨il_wsX10_dayByClock_r1, il_wsX10_dayByClock_r2⟩), il_wsX100⟩)⟩)
set_option maxRecDepth 20000 in
theorem il_wsX10_daysUntilClosed_r1 : ∀ w ∈ wsX10_daysUntilClosed_r1, w ∈ lw_tbl2 := by
  delta wsX10_daysUntilClosed_r1
  exact (List.forall_mem_cons.mpr ⟨tw_949, (List.forall_mem_cons.mpr ⟨tw_948, (List.forall_mem_cons.mpr ⟨tw_947, (List.forall_mem_cons.mpr ⟨tw_946, (List.forall_mem_cons.mpr ⟨tw_945, (List.forall_mem_cons.mpr ⟨tw_944, (List.forall_mem_cons.mpr ⟨tw_943, (List.forall_mem_cons.mpr ⟨tw_942, (List.forall_mem_cons.mpr ⟨tw_941, (List.forall_mem_cons.mpr ⟨tw_1006, (List.forall_mem_cons.mpr ⟨tw_1005, (List.forall_mem_cons.mpr ⟨tw_1004, (List.forall_mem_cons.mpr ⟨tw_1003, (List.forall_mem_cons.mpr ⟨tw_925, (List.forall_mem_cons.mpr ⟨tw_1029, (List.forall_mem_cons.mpr ⟨tw_1028, (List.forall_mem_cons.mpr ⟨tw_1027, (List.forall_mem_cons.mpr ⟨tw_1026, (List.forall_mem_cons.mpr ⟨tw_1025, (List.forall_mem_cons.mpr ⟨tw_924, (List.forall_mem_cons.mpr ⟨tw_1024, (List.forall_mem_cons.mpr ⟨tw_1023, (List.forall_mem_cons.mpr ⟨tw_1022, (List.forall_mem_cons.mpr ⟨tw_1021, (fun _ h => absurd h List.not_mem_nil)⟩)⟩)⟩)⟩)⟩)⟩)⟩)⟩)⟩)⟩)⟩)⟩)⟩)⟩)⟩)⟩)⟩)⟩)⟩)⟩)⟩)⟩)⟩)⟩)
set_option maxRecDepth 20000 in
theorem il_wsX10_daysUntilClosed_r2 : ∀ w ∈ wsX10_daysUntilClosed_r2, w ∈ lw_tbl2 := by
  delta wsX10_daysUntilClosed_r2
  exact (List.forall_mem_cons.mpr ⟨tw_940, (List.forall_mem_cons.mpr ⟨tw_939, (List.forall_mem_cons.mpr ⟨tw_938, (List.forall_mem_cons.mpr ⟨tw_937, (List.forall_mem_cons.mpr ⟨tw_936, (List.forall_mem_cons.mpr ⟨tw_935, (List.forall_mem_cons.mpr ⟨tw_934, (List.forall_mem_cons.mpr ⟨tw_933, (List.forall_mem_cons.mpr ⟨tw_1046, (List.forall_mem_cons.mpr ⟨tw_1045, (List.forall_mem_cons.mpr ⟨tw_1044, (List.forall_mem_cons.mpr ⟨tw_1043, (List.forall_mem_cons.mpr ⟨tw_1042, (List.forall_mem_cons.mpr ⟨tw_1041, (List.forall_mem_cons.mpr ⟨tw_1040, (List.forall_mem_cons.mpr ⟨tw_1039, (List.forall_mem_cons.mpr ⟨tw_1038, (List.forall_mem_cons.mpr ⟨tw_1013, (List.forall_mem_cons.mpr ⟨tw_1012, (List.forall_mem_cons.mpr ⟨tw_1011, (List.forall_mem_cons.mpr ⟨tw_1037, (List.forall_mem_cons.mpr ⟨tw_1036, (List.forall_mem_cons.mpr ⟨tw_1035, (List.forall_mem_cons.mpr ⟨tw_1034, (fun _ h => absurd h List.not_mem_nil)⟩)⟩)⟩)⟩)⟩)⟩)⟩)⟩)⟩)⟩)⟩)⟩)⟩)⟩)⟩)⟩)⟩)⟩)⟩)⟩)⟩)⟩)⟩)⟩)
set_option maxRecDepth 20000 in
theorem il_wsX10_daysUntilClosed_r3 : ∀ w ∈ wsX10_daysUntilClosed_r3, w ∈ lw_tbl2 := by
  delta wsX10_daysUntilClosed_r3
  exact (List.forall_mem_cons.mpr ⟨tw_959, (List.forall_mem_cons.mpr ⟨tw_958, (List.forall_mem_cons.mpr ⟨tw_957, (List.forall_mem_cons.mpr ⟨tw_956, (List.forall_mem_cons.mpr ⟨tw_955, (List.forall_mem_cons.mpr ⟨tw_954, (List.forall_mem_cons.mpr ⟨tw_953, (List.forall_mem_cons.mpr ⟨tw_952, (List.forall_mem_cons.mpr ⟨tw_951, (List.forall_mem_cons.mpr ⟨tw_950, (List.forall_mem_cons.mpr ⟨tw_978, (List.forall_mem_cons.mpr ⟨tw_977, (List.forall_mem_cons.mpr ⟨tw_976, (List.forall_mem_cons.mpr ⟨tw_975, (List.forall_mem_cons.mpr ⟨tw_974, (List.forall_mem_cons.mpr ⟨tw_973, (List.forall_mem_cons.mpr ⟨tw_967, (List.forall_mem_cons.mpr ⟨tw_966, (List.forall_mem_cons.mpr ⟨tw_965, (List.forall_mem_cons.mpr ⟨tw_964, (List.forall_mem_cons.mpr ⟨tw_1054, (List.forall_mem_cons.mpr ⟨tw_1053, (List.forall_mem_cons.mpr ⟨tw_1052, (List.forall_mem_cons.mpr ⟨tw_1051, (fun _ h => absurd h List.not_mem_nil)⟩)⟩)⟩)⟩)⟩)⟩)⟩)⟩)⟩)⟩)⟩)⟩)⟩)⟩)⟩)⟩)⟩)⟩)⟩)⟩)⟩)⟩)⟩)⟩)
set_option maxRecDepth 20000 in
theorem il_wsX10_daysUntilClosed_r4 : ∀ w ∈ wsX10_daysUntilClosed_r4, w ∈ lw_tbl2 := by
  delta wsX10_daysUntilClosed_r4
  exact (List.forall_mem_cons.mpr ⟨tw_1064, (List.forall_mem_cons.mpr ⟨tw_1063, (List.forall_mem_cons.mpr ⟨tw_33, (List.forall_mem_cons.mpr ⟨tw_32, (List.forall_mem_cons.mpr ⟨tw_31, (List.forall_mem_cons.mpr ⟨tw_1062, (List.forall_mem_cons.mpr ⟨tw_1061, (List.forall_mem_cons.mpr ⟨tw_1060, (List.forall_mem_cons.mpr ⟨tw_1059, (List.forall_mem_cons.mpr ⟨tw_1058, (List.forall_mem_cons.mpr ⟨tw_1057, (List.forall_mem_cons.mpr ⟨tw_1056, (List.forall_mem_cons.mpr ⟨tw_1055, (List.forall_mem_cons.mpr ⟨tw_1001, (List.forall_mem_cons.mpr ⟨tw_1000, (List.forall_mem_cons.mpr ⟨tw_999, (List.forall_mem_cons.mpr ⟨tw_998, (List.forall_mem_cons.mpr ⟨tw_983, (List.forall_mem_cons.mpr ⟨tw_982, (List.forall_mem_cons.mpr ⟨tw_981, (List.forall_mem_cons.mpr ⟨tw_980, (List.forall_mem_cons.mpr ⟨tw_1084, (List.forall_mem_cons.mpr ⟨tw_1083, (List.forall_mem_cons.mpr ⟨tw_1082, (fun _ h => absurd h List.not_mem_nil)⟩)⟩)⟩)⟩)⟩)⟩)⟩)⟩)⟩)⟩)⟩)⟩)⟩)⟩)⟩)⟩)⟩)⟩)⟩)⟩)⟩)⟩)⟩)⟩)
set_option maxRecDepth 20000 in
theorem il_wsX10_daysUntilClosed_r5 : ∀ w ∈ wsX10_daysUntilClosed_r5, w ∈ lw_tbl2 := by
  delta wsX10_daysUntilClosed_r5
  exact (List.forall_mem_cons.mpr ⟨tw_1081, (List.forall_mem_cons.mpr ⟨tw_1080, (List.forall_mem_cons.mpr ⟨tw_1079, (List.forall_mem_cons.mpr ⟨tw_1078, (List.forall_mem_cons.mpr ⟨tw_1077, (List.forall_mem_cons.mpr ⟨tw_1076, (List.forall_mem_cons.mpr ⟨tw_1075, (List.forall_mem_cons.mpr ⟨tw_1074, (List.forall_mem_cons.mpr ⟨tw_1073, (List.forall_mem_cons.mpr ⟨tw_1072, (List.forall_mem_cons.mpr ⟨tw_1071, (List.forall_mem_cons.mpr ⟨tw_1070, (List.forall_mem_cons.mpr ⟨tw_1069, (List.forall_mem_cons.mpr ⟨tw_1068, (List.forall_mem_cons.mpr ⟨tw_1067, (List.forall_mem_cons.mpr ⟨tw_1066, (List.forall_mem_cons.mpr ⟨tw_1065, (fun _ h => absurd h List.not_mem_nil)⟩)⟩)⟩)⟩)⟩)⟩)⟩)⟩)⟩)⟩)⟩)⟩)⟩)⟩)⟩)⟩)⟩)
set_option maxRecDepth 20000 in
theorem il_wsX10_daysUntilClosed : ∀ w ∈ wsX10_daysUntilClosed, w ∈ lw_tbl2 := by
  delta wsX10_daysUntilClosed
  exact (List.forall_mem_cons.mpr ⟨tw_1087, (List.forall_mem_append.mpr ⟨(List.forall_mem_append.mpr ⟨il_wsX10_daysUntilClosed_r1, (List.forall_mem_append.mpr ⟨il_wsX10_daysUntilClosed_r2, (List.forall_mem_append.mpr ⟨il_wsX10_daysUntilClosed_r3, (List.forall_mem_append.mpr ⟨il_wsX10_daysUntilClosed_r4, il_wsX10_daysUntilClosed_r5⟩)⟩)⟩)⟩), il_wsX100⟩)⟩)
set_option maxRecDepth 20000 in
theorem il_wsX10_deposit : ∀ w ∈ wsX10_deposit, w ∈ lw_tbl2 := by
  delta wsX10_deposit
  exact (List.forall_mem_cons.mpr ⟨tw_1088, (List.forall_mem_append.mpr ⟨(List.forall_mem_cons.mpr ⟨tw_1090, (List.forall_mem_cons.mpr ⟨tw_944, (List.forall_mem_cons.mpr ⟨tw_1089, (List.forall_mem_cons.mpr ⟨tw_943, (List.forall_mem_cons.mpr ⟨tw_942, (List.forall_mem_cons.mpr ⟨tw_946, (List.forall_mem_cons.mpr ⟨tw_941, (List.forall_mem_cons.mpr ⟨tw_932, (List.forall_mem_cons.mpr ⟨tw_931, (List.forall_mem_cons.mpr ⟨tw_930, (List.forall_mem_cons.mpr ⟨tw_929, (List.forall_mem_cons.mpr ⟨tw_925, (List.forall_mem_cons.mpr ⟨tw_928, (List.forall_mem_cons.mpr ⟨tw_927, (List.forall_mem_cons.mpr ⟨tw_972, (List.forall_mem_cons.mpr ⟨tw_971, (List.forall_mem_cons.mpr ⟨tw_970, (List.forall_mem_cons.mpr ⟨tw_969, (List.forall_mem_cons.mpr ⟨tw_968, (List.forall_mem_cons.mpr ⟨tw_924, (List.forall_mem_cons.mpr ⟨tw_1013, (List.forall_mem_cons.mpr ⟨tw_1012, (List.forall_mem_cons.mpr ⟨tw_1011, (fun _ h => absurd h List.not_mem_nil)⟩)⟩)⟩)⟩)⟩)⟩)⟩)⟩)⟩)⟩)⟩)⟩)⟩)⟩)⟩)⟩)⟩)⟩)⟩)⟩)⟩)⟩)⟩), il_wsX100⟩)⟩)
set_option maxRecDepth 20000 in
theorem il_wsX10_deposited : ∀ w ∈ wsX10_deposited, w ∈ lw_tbl2 := by
  delta wsX10_deposited
  exact (List.forall_mem_cons.mpr ⟨tw_1091, (List.forall_mem_append.mpr ⟨(List.forall_mem_cons.mpr ⟨tw_925, (List.forall_mem_cons.mpr ⟨tw_944, (fun _ h => absurd h List.not_mem_nil)⟩)⟩), il_wsX100⟩)⟩)
set_option maxRecDepth 20000 in
theorem il_wsX10_dispute_r1 : ∀ w ∈ wsX10_dispute_r1, w ∈ lw_tbl2 := by
  delta wsX10_dispute_r1
  exact (List.forall_mem_cons.mpr ⟨tw_1063, (List.forall_mem_cons.mpr ⟨tw_33, (List.forall_mem_cons.mpr ⟨tw_32, (List.forall_mem_cons.mpr ⟨tw_31, (List.forall_mem_cons.mpr ⟨tw_949, (List.forall_mem_cons.mpr ⟨tw_948, (List.forall_mem_cons.mpr ⟨tw_947, (List.forall_mem_cons.mpr ⟨tw_946, (List.forall_mem_cons.mpr ⟨tw_945, (List.forall_mem_cons.mpr ⟨tw_944, (List.forall_mem_cons.mpr ⟨tw_943, (List.forall_mem_cons.mpr ⟨tw_942, (List.forall_mem_cons.mpr ⟨tw_941, (List.forall_mem_cons.mpr ⟨tw_997, (List.forall_mem_cons.mpr ⟨tw_996, (List.forall_mem_cons.mpr ⟨tw_995, (List.forall_mem_cons.mpr ⟨tw_994, (List.forall_mem_cons.mpr ⟨tw_936, (List.forall_mem_cons.mpr ⟨tw_935, (List.forall_mem_cons.mpr ⟨tw_934, (List.forall_mem_cons.mpr ⟨tw_933, (List.forall_mem_cons.mpr ⟨tw_932, (List.forall_mem_cons.mpr ⟨tw_931, (List.forall_mem_cons.mpr ⟨tw_930, (fun _ h => absurd h List.not_mem_nil)⟩)⟩)⟩)⟩)⟩)⟩)⟩)⟩)⟩)⟩)⟩)⟩)⟩)⟩)⟩)⟩)⟩)⟩)⟩)⟩)⟩)⟩)⟩)⟩)
set_option maxRecDepth 20000 in
theorem il_wsX10_dispute_r2 : ∀ w ∈ wsX10_dispute_r2, w ∈ lw_tbl2 := by
  delta wsX10_dispute_r2
  exact (List.forall_mem_cons.mpr ⟨tw_929, (List.forall_mem_cons.mpr ⟨tw_925, (List.forall_mem_cons.mpr ⟨tw_928, (List.forall_mem_cons.mpr ⟨tw_927, (List.forall_mem_cons.mpr ⟨tw_972, (List.forall_mem_cons.mpr ⟨tw_971, (List.forall_mem_cons.mpr ⟨tw_970, (List.forall_mem_cons.mpr ⟨tw_969, (List.forall_mem_cons.mpr ⟨tw_968, (List.forall_mem_cons.mpr ⟨tw_924, (List.forall_mem_cons.mpr ⟨tw_1001, (List.forall_mem_cons.mpr ⟨tw_1000, (List.forall_mem_cons.mpr ⟨tw_999, (List.forall_mem_cons.mpr ⟨tw_998, (List.forall_mem_cons.mpr ⟨tw_940, (List.forall_mem_cons.mpr ⟨tw_939, (List.forall_mem_cons.mpr ⟨tw_938, (List.forall_mem_cons.mpr ⟨tw_937, (List.forall_mem_cons.mpr ⟨tw_983, (List.forall_mem_cons.mpr ⟨tw_982, (List.forall_mem_cons.mpr ⟨tw_981, (List.forall_mem_cons.mpr ⟨tw_980, (List.forall_mem_cons.mpr ⟨tw_967, (List.forall_mem_cons.mpr ⟨tw_966, (fun _ h => absurd h List.not_mem_nil)⟩)⟩)⟩)⟩)⟩)⟩)⟩)⟩)⟩)⟩)⟩)⟩)⟩)⟩)⟩)⟩)⟩)⟩)⟩)⟩)⟩)⟩)⟩)⟩)
set_option maxRecDepth 20000 in
theorem il_wsX10_dispute_r3 : ∀ w ∈ wsX10_dispute_r3, w ∈ lw_tbl2 := by
  delta wsX10_dispute_r3
  exact (List.forall_mem_cons.mpr ⟨tw_965, (List.forall_mem_cons.mpr ⟨tw_964, (fun _ h => absurd h List.not_mem_nil)⟩)⟩)
set_option maxRecDepth 20000 in
theorem il_wsX10_dispute : ∀ w ∈ wsX10_dispute, w ∈ lw_tbl2 := by
  delta wsX10_dispute
  exact (List.forall_mem_cons.mpr ⟨tw_1092, (List.forall_mem_append.mpr ⟨(List.forall_mem_append.mpr ⟨il_wsX10_dispute_r1, (List.forall_mem_append.mpr ⟨il_wsX10_dispute_r2, il_wsX10_dispute_r3⟩)⟩), il_wsX100⟩)⟩)
set_option maxRecDepth 20000 in
theorem il_wsX10_dueAt : ∀ w ∈ wsX10_dueAt, w ∈ lw_tbl2 := by
  delta wsX10_dueAt
  exact (List.forall_mem_cons.mpr ⟨tw_1093, (List.forall_mem_append.mpr ⟨(List.forall_mem_cons.mpr ⟨tw_1062, (List.forall_mem_cons.mpr ⟨tw_1061, (List.forall_mem_cons.mpr ⟨tw_1060, (List.forall_mem_cons.mpr ⟨tw_946, (List.forall_mem_cons.mpr ⟨tw_1059, (List.forall_mem_cons.mpr ⟨tw_944, (List.forall_mem_cons.mpr ⟨tw_936, (List.forall_mem_cons.mpr ⟨tw_935, (List.forall_mem_cons.mpr ⟨tw_934, (List.forall_mem_cons.mpr ⟨tw_933, (List.forall_mem_cons.mpr ⟨tw_1058, (List.forall_mem_cons.mpr ⟨tw_1057, (List.forall_mem_cons.mpr ⟨tw_1056, (List.forall_mem_cons.mpr ⟨tw_1055, (List.forall_mem_cons.mpr ⟨tw_1006, (List.forall_mem_cons.mpr ⟨tw_1005, (List.forall_mem_cons.mpr ⟨tw_1004, (List.forall_mem_cons.mpr ⟨tw_1003, (List.forall_mem_cons.mpr ⟨tw_925, (fun _ h => absurd h List.not_mem_nil)⟩)⟩)⟩)⟩)⟩)⟩)⟩)⟩)⟩)⟩)⟩)⟩)⟩)⟩)⟩)⟩)⟩)⟩)⟩), il_wsX100⟩)⟩)
set_option maxRecDepth 20000 in
theorem il_wsX10_dueDay : ∀ w ∈ wsX10_dueDay, w ∈ lw_tbl2 := by
  delta wsX10_dueDay
  exact (List.forall_mem_cons.mpr ⟨tw_1094, (List.forall_mem_append.mpr ⟨(List.forall_mem_cons.mpr ⟨tw_949, (List.forall_mem_cons.mpr ⟨tw_948, (List.forall_mem_cons.mpr ⟨tw_947, (List.forall_mem_cons.mpr ⟨tw_946, (List.forall_mem_cons.mpr ⟨tw_945, (List.forall_mem_cons.mpr ⟨tw_944, (List.forall_mem_cons.mpr ⟨tw_943, (List.forall_mem_cons.mpr ⟨tw_942, (List.forall_mem_cons.mpr ⟨tw_941, (List.forall_mem_cons.mpr ⟨tw_1006, (List.forall_mem_cons.mpr ⟨tw_1005, (List.forall_mem_cons.mpr ⟨tw_1004, (List.forall_mem_cons.mpr ⟨tw_1003, (List.forall_mem_cons.mpr ⟨tw_925, (List.forall_mem_cons.mpr ⟨tw_936, (List.forall_mem_cons.mpr ⟨tw_935, (List.forall_mem_cons.mpr ⟨tw_934, (List.forall_mem_cons.mpr ⟨tw_933, (fun _ h => absurd h List.not_mem_nil)⟩)⟩)⟩)⟩)⟩)⟩)⟩)⟩)⟩)⟩)⟩)⟩)⟩)⟩)⟩)⟩)⟩)⟩), il_wsX100⟩)⟩)
set_option maxRecDepth 20000 in
theorem il_wsX10_entries : ∀ w ∈ wsX10_entries, w ∈ lw_tbl2 := by
  delta wsX10_entries
  exact (List.forall_mem_cons.mpr ⟨tw_1095, (List.forall_mem_append.mpr ⟨(List.forall_mem_cons.mpr ⟨tw_925, (List.forall_mem_cons.mpr ⟨tw_944, (fun _ h => absurd h List.not_mem_nil)⟩)⟩), il_wsX100⟩)⟩)
set_option maxRecDepth 20000 in
theorem il_wsX10_entry : ∀ w ∈ wsX10_entry, w ∈ lw_tbl2 := by
  delta wsX10_entry
  exact (List.forall_mem_cons.mpr ⟨tw_1096, (List.forall_mem_append.mpr ⟨(List.forall_mem_cons.mpr ⟨tw_944, (List.forall_mem_cons.mpr ⟨tw_1097, (List.forall_mem_cons.mpr ⟨tw_943, (List.forall_mem_cons.mpr ⟨tw_942, (List.forall_mem_cons.mpr ⟨tw_946, (List.forall_mem_cons.mpr ⟨tw_941, (List.forall_mem_cons.mpr ⟨tw_932, (List.forall_mem_cons.mpr ⟨tw_931, (List.forall_mem_cons.mpr ⟨tw_930, (List.forall_mem_cons.mpr ⟨tw_929, (List.forall_mem_cons.mpr ⟨tw_925, (List.forall_mem_cons.mpr ⟨tw_992, (List.forall_mem_cons.mpr ⟨tw_991, (List.forall_mem_cons.mpr ⟨tw_990, (List.forall_mem_cons.mpr ⟨tw_989, (fun _ h => absurd h List.not_mem_nil)⟩)⟩)⟩)⟩)⟩)⟩)⟩)⟩)⟩)⟩)⟩)⟩)⟩)⟩)⟩), il_wsX100⟩)⟩)
set_option maxRecDepth 20000 in
theorem il_wsX10_errorKind : ∀ w ∈ wsX10_errorKind, w ∈ lw_tbl2 := by
  delta wsX10_errorKind
  exact (List.forall_mem_cons.mpr ⟨tw_1098, (List.forall_mem_append.mpr ⟨(List.forall_mem_cons.mpr ⟨tw_925, (List.forall_mem_cons.mpr ⟨tw_1099, (fun _ h => absurd h List.not_mem_nil)⟩)⟩), il_wsX100⟩)⟩)
set_option maxRecDepth 20000 in
theorem il_wsX10_errorPosition : ∀ w ∈ wsX10_errorPosition, w ∈ lw_tbl2 := by
  delta wsX10_errorPosition
  exact (List.forall_mem_cons.mpr ⟨tw_1100, (List.forall_mem_append.mpr ⟨(List.forall_mem_cons.mpr ⟨tw_925, (List.forall_mem_cons.mpr ⟨tw_1101, (fun _ h => absurd h List.not_mem_nil)⟩)⟩), il_wsX100⟩)⟩)
set_option maxRecDepth 20000 in
theorem il_wsX10_feed : ∀ w ∈ wsX10_feed, w ∈ lw_tbl2 := by
  delta wsX10_feed
  exact (List.forall_mem_cons.mpr ⟨tw_1102, (List.forall_mem_append.mpr ⟨(List.forall_mem_cons.mpr ⟨tw_925, (List.forall_mem_cons.mpr ⟨tw_1108, (List.forall_mem_cons.mpr ⟨tw_1107, (List.forall_mem_cons.mpr ⟨tw_1106, (List.forall_mem_cons.mpr ⟨tw_1105, (List.forall_mem_cons.mpr ⟨tw_946, (List.forall_mem_cons.mpr ⟨tw_1104, (List.forall_mem_cons.mpr ⟨tw_1103, (fun _ h => absurd h List.not_mem_nil)⟩)⟩)⟩)⟩)⟩)⟩)⟩)⟩), il_wsX100⟩)⟩)
set_option maxRecDepth 20000 in
theorem il_wsX10_fees : ∀ w ∈ wsX10_fees, w ∈ lw_tbl2 := by
  delta wsX10_fees
  exact (List.forall_mem_cons.mpr ⟨tw_1109, (List.forall_mem_append.mpr ⟨(List.forall_mem_cons.mpr ⟨tw_925, (List.forall_mem_cons.mpr ⟨tw_944, (fun _ h => absurd h List.not_mem_nil)⟩)⟩), il_wsX100⟩)⟩)
set_option maxRecDepth 20000 in
theorem il_wsX10_frozen : ∀ w ∈ wsX10_frozen, w ∈ lw_tbl2 := by
  delta wsX10_frozen
  exact (List.forall_mem_cons.mpr ⟨tw_1110, (List.forall_mem_append.mpr ⟨(List.forall_mem_cons.mpr ⟨tw_949, (List.forall_mem_cons.mpr ⟨tw_948, (List.forall_mem_cons.mpr ⟨tw_947, (List.forall_mem_cons.mpr ⟨tw_946, (List.forall_mem_cons.mpr ⟨tw_945, (List.forall_mem_cons.mpr ⟨tw_944, (List.forall_mem_cons.mpr ⟨tw_943, (List.forall_mem_cons.mpr ⟨tw_942, (List.forall_mem_cons.mpr ⟨tw_941, (List.forall_mem_cons.mpr ⟨tw_1006, (List.forall_mem_cons.mpr ⟨tw_1005, (List.forall_mem_cons.mpr ⟨tw_1004, (List.forall_mem_cons.mpr ⟨tw_1003, (List.forall_mem_cons.mpr ⟨tw_925, (List.forall_mem_cons.mpr ⟨tw_936, (List.forall_mem_cons.mpr ⟨tw_935, (List.forall_mem_cons.mpr ⟨tw_934, (List.forall_mem_cons.mpr ⟨tw_933, (fun _ h => absurd h List.not_mem_nil)⟩)⟩)⟩)⟩)⟩)⟩)⟩)⟩)⟩)⟩)⟩)⟩)⟩)⟩)⟩)⟩)⟩)⟩), il_wsX100⟩)⟩)
set_option maxRecDepth 20000 in
theorem il_wsX10_graceLeft : ∀ w ∈ wsX10_graceLeft, w ∈ lw_tbl2 := by
  delta wsX10_graceLeft
  exact (List.forall_mem_cons.mpr ⟨tw_1111, (List.forall_mem_append.mpr ⟨(List.forall_mem_cons.mpr ⟨tw_944, (List.forall_mem_cons.mpr ⟨tw_1112, (List.forall_mem_cons.mpr ⟨tw_273, (List.forall_mem_cons.mpr ⟨tw_32, (List.forall_mem_cons.mpr ⟨tw_272, (List.forall_mem_cons.mpr ⟨tw_949, (List.forall_mem_cons.mpr ⟨tw_948, (List.forall_mem_cons.mpr ⟨tw_947, (List.forall_mem_cons.mpr ⟨tw_946, (List.forall_mem_cons.mpr ⟨tw_945, (List.forall_mem_cons.mpr ⟨tw_943, (List.forall_mem_cons.mpr ⟨tw_942, (List.forall_mem_cons.mpr ⟨tw_941, (List.forall_mem_cons.mpr ⟨tw_1006, (List.forall_mem_cons.mpr ⟨tw_1005, (List.forall_mem_cons.mpr ⟨tw_1004, (List.forall_mem_cons.mpr ⟨tw_1003, (List.forall_mem_cons.mpr ⟨tw_925, (List.forall_mem_cons.mpr ⟨tw_936, (List.forall_mem_cons.mpr ⟨tw_935, (List.forall_mem_cons.mpr ⟨tw_934, (List.forall_mem_cons.mpr ⟨tw_933, (fun _ h => absurd h List.not_mem_nil)⟩)⟩)⟩)⟩)⟩)⟩)⟩)⟩)⟩)⟩)⟩)⟩)⟩)⟩)⟩)⟩)⟩)⟩)⟩)⟩)⟩)⟩), il_wsX100⟩)⟩)
set_option maxRecDepth 20000 in
theorem il_wsX10_holds_r1 : ∀ w ∈ wsX10_holds_r1, w ∈ lw_tbl2 := by
  delta wsX10_holds_r1
  exact (List.forall_mem_cons.mpr ⟨tw_949, (List.forall_mem_cons.mpr ⟨tw_948, (List.forall_mem_cons.mpr ⟨tw_947, (List.forall_mem_cons.mpr ⟨tw_946, (List.forall_mem_cons.mpr ⟨tw_945, (List.forall_mem_cons.mpr ⟨tw_944, (List.forall_mem_cons.mpr ⟨tw_943, (List.forall_mem_cons.mpr ⟨tw_942, (List.forall_mem_cons.mpr ⟨tw_941, (List.forall_mem_cons.mpr ⟨tw_1006, (List.forall_mem_cons.mpr ⟨tw_1005, (List.forall_mem_cons.mpr ⟨tw_1004, (List.forall_mem_cons.mpr ⟨tw_1003, (List.forall_mem_cons.mpr ⟨tw_925, (List.forall_mem_cons.mpr ⟨tw_963, (List.forall_mem_cons.mpr ⟨tw_962, (List.forall_mem_cons.mpr ⟨tw_961, (List.forall_mem_cons.mpr ⟨tw_960, (List.forall_mem_cons.mpr ⟨tw_959, (List.forall_mem_cons.mpr ⟨tw_958, (List.forall_mem_cons.mpr ⟨tw_957, (List.forall_mem_cons.mpr ⟨tw_956, (List.forall_mem_cons.mpr ⟨tw_936, (List.forall_mem_cons.mpr ⟨tw_935, (fun _ h => absurd h List.not_mem_nil)⟩)⟩)⟩)⟩)⟩)⟩)⟩)⟩)⟩)⟩)⟩)⟩)⟩)⟩)⟩)⟩)⟩)⟩)⟩)⟩)⟩)⟩)⟩)⟩)
set_option maxRecDepth 20000 in
theorem il_wsX10_holds_r2 : ∀ w ∈ wsX10_holds_r2, w ∈ lw_tbl2 := by
  delta wsX10_holds_r2
  exact (List.forall_mem_cons.mpr ⟨tw_934, (List.forall_mem_cons.mpr ⟨tw_933, (List.forall_mem_cons.mpr ⟨tw_955, (List.forall_mem_cons.mpr ⟨tw_954, (List.forall_mem_cons.mpr ⟨tw_953, (List.forall_mem_cons.mpr ⟨tw_952, (List.forall_mem_cons.mpr ⟨tw_951, (List.forall_mem_cons.mpr ⟨tw_950, (List.forall_mem_cons.mpr ⟨tw_978, (List.forall_mem_cons.mpr ⟨tw_977, (List.forall_mem_cons.mpr ⟨tw_976, (List.forall_mem_cons.mpr ⟨tw_975, (List.forall_mem_cons.mpr ⟨tw_974, (List.forall_mem_cons.mpr ⟨tw_973, (fun _ h => absurd h List.not_mem_nil)⟩)⟩)⟩)⟩)⟩)⟩)⟩)⟩)⟩)⟩)⟩)⟩)⟩)⟩)
set_option maxRecDepth 20000 in
theorem il_wsX10_holds : ∀ w ∈ wsX10_holds, w ∈ lw_tbl2 := by
  delta wsX10_holds
  exact (List.forall_mem_cons.mpr ⟨tw_1113, (List.forall_mem_append.mpr ⟨(List.forall_mem_append.mpr ⟨il_wsX10_holds_r1, il_wsX10_holds_r2⟩), il_wsX100⟩)⟩)
set_option maxRecDepth 20000 in
theorem il_wsX10_init_r1 : ∀ w ∈ wsX10_init_r1, w ∈ lw_tbl2 := by
  delta wsX10_init_r1
  exact (List.forall_mem_cons.mpr ⟨tw_1128, (List.forall_mem_cons.mpr ⟨tw_1127, (List.forall_mem_cons.mpr ⟨tw_1126, (List.forall_mem_cons.mpr ⟨tw_1125, (List.forall_mem_cons.mpr ⟨tw_944, (List.forall_mem_cons.mpr ⟨tw_1124, (List.forall_mem_cons.mpr ⟨tw_1025, (List.forall_mem_cons.mpr ⟨tw_969, (List.forall_mem_cons.mpr ⟨tw_1123, (List.forall_mem_cons.mpr ⟨tw_968, (List.forall_mem_cons.mpr ⟨tw_1103, (List.forall_mem_cons.mpr ⟨tw_1101, (List.forall_mem_cons.mpr ⟨tw_1122, (List.forall_mem_cons.mpr ⟨tw_1121, (List.forall_mem_cons.mpr ⟨tw_1120, (List.forall_mem_cons.mpr ⟨tw_1119, (List.forall_mem_cons.mpr ⟨tw_1118, (List.forall_mem_cons.mpr ⟨tw_950, (List.forall_mem_cons.mpr ⟨tw_1117, (List.forall_mem_cons.mpr ⟨tw_951, (List.forall_mem_cons.mpr ⟨tw_1116, (List.forall_mem_cons.mpr ⟨tw_1115, (List.forall_mem_cons.mpr ⟨tw_978, (List.forall_mem_cons.mpr ⟨tw_1064, (fun _ h => absurd h List.not_mem_nil)⟩)⟩)⟩)⟩)⟩)⟩)⟩)⟩)⟩)⟩)⟩)⟩)⟩)⟩)⟩)⟩)⟩)⟩)⟩)⟩)⟩)⟩)⟩)⟩)
set_option maxRecDepth 20000 in
theorem il_wsX10_init_r2 : ∀ w ∈ wsX10_init_r2, w ∈ lw_tbl2 := by
  delta wsX10_init_r2
  exact (List.forall_mem_cons.mpr ⟨tw_1135, (List.forall_mem_cons.mpr ⟨tw_1134, (List.forall_mem_cons.mpr ⟨tw_1133, (List.forall_mem_cons.mpr ⟨tw_946, (List.forall_mem_cons.mpr ⟨tw_1132, (List.forall_mem_cons.mpr ⟨tw_1131, (List.forall_mem_cons.mpr ⟨tw_1130, (List.forall_mem_cons.mpr ⟨tw_1129, (List.forall_mem_cons.mpr ⟨tw_375, (List.forall_mem_cons.mpr ⟨tw_374, (List.forall_mem_cons.mpr ⟨tw_337, (List.forall_mem_cons.mpr ⟨tw_373, (List.forall_mem_cons.mpr ⟨tw_383, (List.forall_mem_cons.mpr ⟨tw_372, (List.forall_mem_cons.mpr ⟨tw_371, (List.forall_mem_cons.mpr ⟨tw_370, (List.forall_mem_cons.mpr ⟨tw_369, (List.forall_mem_cons.mpr ⟨tw_378, (List.forall_mem_cons.mpr ⟨tw_377, (List.forall_mem_cons.mpr ⟨tw_368, (List.forall_mem_cons.mpr ⟨tw_367, (List.forall_mem_cons.mpr ⟨tw_366, (List.forall_mem_cons.mpr ⟨tw_365, (List.forall_mem_cons.mpr ⟨tw_364, (fun _ h => absurd h List.not_mem_nil)⟩)⟩)⟩)⟩)⟩)⟩)⟩)⟩)⟩)⟩)⟩)⟩)⟩)⟩)⟩)⟩)⟩)⟩)⟩)⟩)⟩)⟩)⟩)⟩)
set_option maxRecDepth 20000 in
theorem il_wsX10_init_r3 : ∀ w ∈ wsX10_init_r3, w ∈ lw_tbl2 := by
  delta wsX10_init_r3
  exact (List.forall_mem_cons.mpr ⟨tw_363, (List.forall_mem_cons.mpr ⟨tw_362, (List.forall_mem_cons.mpr ⟨tw_361, (List.forall_mem_cons.mpr ⟨tw_360, (List.forall_mem_cons.mpr ⟨tw_407, (List.forall_mem_cons.mpr ⟨tw_406, (List.forall_mem_cons.mpr ⟨tw_405, (List.forall_mem_cons.mpr ⟨tw_404, (List.forall_mem_cons.mpr ⟨tw_403, (List.forall_mem_cons.mpr ⟨tw_402, (List.forall_mem_cons.mpr ⟨tw_401, (List.forall_mem_cons.mpr ⟨tw_400, (List.forall_mem_cons.mpr ⟨tw_399, (List.forall_mem_cons.mpr ⟨tw_398, (List.forall_mem_cons.mpr ⟨tw_397, (List.forall_mem_cons.mpr ⟨tw_396, (List.forall_mem_cons.mpr ⟨tw_395, (List.forall_mem_cons.mpr ⟨tw_394, (List.forall_mem_cons.mpr ⟨tw_393, (List.forall_mem_cons.mpr ⟨tw_392, (List.forall_mem_cons.mpr ⟨tw_391, (List.forall_mem_cons.mpr ⟨tw_390, (List.forall_mem_cons.mpr ⟨tw_389, (List.forall_mem_cons.mpr ⟨tw_388, (fun _ h => absurd h List.not_mem_nil)⟩)⟩)⟩)⟩)⟩)⟩)⟩)⟩)⟩)⟩)⟩)⟩)⟩)⟩)⟩)⟩)⟩)⟩)⟩)⟩)⟩)⟩)⟩)⟩)
set_option maxRecDepth 20000 in
theorem il_wsX10_init_r4 : ∀ w ∈ wsX10_init_r4, w ∈ lw_tbl2 := by
  delta wsX10_init_r4
  exact (List.forall_mem_cons.mpr ⟨tw_1138, (List.forall_mem_cons.mpr ⟨tw_1137, (List.forall_mem_cons.mpr ⟨tw_1136, (fun _ h => absurd h List.not_mem_nil)⟩)⟩)⟩)
set_option maxRecDepth 20000 in
theorem il_wsX10_init : ∀ w ∈ wsX10_init, w ∈ lw_tbl2 := by
  delta wsX10_init
  exact (List.forall_mem_cons.mpr ⟨tw_1114, (List.forall_mem_append.mpr ⟨(List.forall_mem_append.mpr ⟨(List.forall_mem_append.mpr ⟨il_wsX10_init_r1, (List.forall_mem_append.mpr ⟨il_wsX10_init_r2, (List.forall_mem_append.mpr ⟨il_wsX10_init_r3, il_wsX10_init_r4⟩)⟩)⟩), il_wsX100⟩), il_wsJ00⟩)⟩)
set_option maxRecDepth 20000 in
theorem il_wsX10_interestPot : ∀ w ∈ wsX10_interestPot, w ∈ lw_tbl2 := by
  delta wsX10_interestPot
  exact (List.forall_mem_cons.mpr ⟨tw_1139, (List.forall_mem_append.mpr ⟨(List.forall_mem_cons.mpr ⟨tw_925, (List.forall_mem_cons.mpr ⟨tw_944, (fun _ h => absurd h List.not_mem_nil)⟩)⟩), il_wsX100⟩)⟩)
set_option maxRecDepth 20000 in
theorem il_wsX10_isSubmitted : ∀ w ∈ wsX10_isSubmitted, w ∈ lw_tbl2 := by
  delta wsX10_isSubmitted
  exact (List.forall_mem_cons.mpr ⟨tw_1140, (List.forall_mem_append.mpr ⟨(List.forall_mem_cons.mpr ⟨tw_944, (List.forall_mem_cons.mpr ⟨tw_1144, (List.forall_mem_cons.mpr ⟨tw_1143, (List.forall_mem_cons.mpr ⟨tw_1142, (List.forall_mem_cons.mpr ⟨tw_946, (List.forall_mem_cons.mpr ⟨tw_1141, (List.forall_mem_cons.mpr ⟨tw_943, (List.forall_mem_cons.mpr ⟨tw_942, (List.forall_mem_cons.mpr ⟨tw_941, (List.forall_mem_cons.mpr ⟨tw_1006, (List.forall_mem_cons.mpr ⟨tw_1005, (List.forall_mem_cons.mpr ⟨tw_1004, (List.forall_mem_cons.mpr ⟨tw_1003, (List.forall_mem_cons.mpr ⟨tw_925, (fun _ h => absurd h List.not_mem_nil)⟩)⟩)⟩)⟩)⟩)⟩)⟩)⟩)⟩)⟩)⟩)⟩)⟩)⟩), il_wsX100⟩)⟩)
set_option maxRecDepth 20000 in
theorem il_wsX10_load_r1 : ∀ w ∈ wsX10_load_r1, w ∈ lw_tbl2 := by
  delta wsX10_load_r1
  exact (List.forall_mem_cons.mpr ⟨tw_1108, (List.forall_mem_cons.mpr ⟨tw_925, (List.forall_mem_cons.mpr ⟨tw_1156, (List.forall_mem_cons.mpr ⟨tw_1155, (List.forall_mem_cons.mpr ⟨tw_1154, (List.forall_mem_cons.mpr ⟨tw_1153, (List.forall_mem_cons.mpr ⟨tw_1152, (List.forall_mem_cons.mpr ⟨tw_1151, (List.forall_mem_cons.mpr ⟨tw_1150, (List.forall_mem_cons.mpr ⟨tw_1124, (List.forall_mem_cons.mpr ⟨tw_1149, (List.forall_mem_cons.mpr ⟨tw_1099, (List.forall_mem_cons.mpr ⟨tw_1101, (List.forall_mem_cons.mpr ⟨tw_944, (List.forall_mem_cons.mpr ⟨tw_943, (List.forall_mem_cons.mpr ⟨tw_942, (List.forall_mem_cons.mpr ⟨tw_946, (List.forall_mem_cons.mpr ⟨tw_941, (List.forall_mem_cons.mpr ⟨tw_1138, (List.forall_mem_cons.mpr ⟨tw_1137, (List.forall_mem_cons.mpr ⟨tw_1136, (List.forall_mem_cons.mpr ⟨tw_1148, (List.forall_mem_cons.mpr ⟨tw_1147, (List.forall_mem_cons.mpr ⟨tw_1146, (fun _ h => absurd h List.not_mem_nil)⟩)⟩)⟩)⟩)⟩)⟩)⟩)⟩)⟩)⟩)⟩)⟩)⟩)⟩)⟩)⟩)⟩)⟩)⟩)⟩)⟩)⟩)⟩)⟩)
set_option maxRecDepth 20000 in
theorem il_wsX10_load_r2 : ∀ w ∈ wsX10_load_r2, w ∈ lw_tbl2 := by
  delta wsX10_load_r2
  exact (List.forall_mem_cons.mpr ⟨tw_1176, (List.forall_mem_cons.mpr ⟨tw_1175, (List.forall_mem_cons.mpr ⟨tw_1174, (List.forall_mem_cons.mpr ⟨tw_1173, (List.forall_mem_cons.mpr ⟨tw_1131, (List.forall_mem_cons.mpr ⟨tw_1130, (List.forall_mem_cons.mpr ⟨tw_1172, (List.forall_mem_cons.mpr ⟨tw_1171, (List.forall_mem_cons.mpr ⟨tw_1170, (List.forall_mem_cons.mpr ⟨tw_1169, (List.forall_mem_cons.mpr ⟨tw_1168, (List.forall_mem_cons.mpr ⟨tw_1103, (List.forall_mem_cons.mpr ⟨tw_1167, (List.forall_mem_cons.mpr ⟨tw_1166, (List.forall_mem_cons.mpr ⟨tw_1165, (List.forall_mem_cons.mpr ⟨tw_1164, (List.forall_mem_cons.mpr ⟨tw_1163, (List.forall_mem_cons.mpr ⟨tw_1162, (List.forall_mem_cons.mpr ⟨tw_1161, (List.forall_mem_cons.mpr ⟨tw_1122, (List.forall_mem_cons.mpr ⟨tw_1160, (List.forall_mem_cons.mpr ⟨tw_1159, (List.forall_mem_cons.mpr ⟨tw_1158, (List.forall_mem_cons.mpr ⟨tw_1157, (fun _ h => absurd h List.not_mem_nil)⟩)⟩)⟩)⟩)⟩)⟩)⟩)⟩)⟩)⟩)⟩)⟩)⟩)⟩)⟩)⟩)⟩)⟩)⟩)⟩)⟩)⟩)⟩)⟩)
set_option maxRecDepth 20000 in
theorem il_wsX10_load_r3 : ∀ w ∈ wsX10_load_r3, w ∈ lw_tbl2 := by
  delta wsX10_load_r3
  exact (List.forall_mem_cons.mpr ⟨tw_1200, (List.forall_mem_cons.mpr ⟨tw_1199, (List.forall_mem_cons.mpr ⟨tw_1198, (List.forall_mem_cons.mpr ⟨tw_1197, (List.forall_mem_cons.mpr ⟨tw_1196, (List.forall_mem_cons.mpr ⟨tw_1195, (List.forall_mem_cons.mpr ⟨tw_1194, (List.forall_mem_cons.mpr ⟨tw_1193, (List.forall_mem_cons.mpr ⟨tw_1192, (List.forall_mem_cons.mpr ⟨tw_1191, (List.forall_mem_cons.mpr ⟨tw_1190, (List.forall_mem_cons.mpr ⟨tw_1189, (List.forall_mem_cons.mpr ⟨tw_1188, (List.forall_mem_cons.mpr ⟨tw_1187, (List.forall_mem_cons.mpr ⟨tw_1186, (List.forall_mem_cons.mpr ⟨tw_1185, (List.forall_mem_cons.mpr ⟨tw_1184, (List.forall_mem_cons.mpr ⟨tw_1183, (List.forall_mem_cons.mpr ⟨tw_1182, (List.forall_mem_cons.mpr ⟨tw_1181, (List.forall_mem_cons.mpr ⟨tw_1180, (List.forall_mem_cons.mpr ⟨tw_1179, (List.forall_mem_cons.mpr ⟨tw_1178, (List.forall_mem_cons.mpr ⟨tw_1177, (fun _ h => absurd h List.not_mem_nil)⟩)⟩)⟩)⟩)⟩)⟩)⟩)⟩)⟩)⟩)⟩)⟩)⟩)⟩)⟩)⟩)⟩)⟩)⟩)⟩)⟩)⟩)⟩)⟩)
set_option maxRecDepth 20000 in
theorem il_wsX10_load_r4 : ∀ w ∈ wsX10_load_r4, w ∈ lw_tbl2 := by
  delta wsX10_load_r4
  exact (List.forall_mem_cons.mpr ⟨tw_1219, (List.forall_mem_cons.mpr ⟨tw_1218, (List.forall_mem_cons.mpr ⟨tw_1217, (List.forall_mem_cons.mpr ⟨tw_1216, (List.forall_mem_cons.mpr ⟨tw_1215, (List.forall_mem_cons.mpr ⟨tw_1013, (List.forall_mem_cons.mpr ⟨tw_1012, (List.forall_mem_cons.mpr ⟨tw_1011, (List.forall_mem_cons.mpr ⟨tw_1214, (List.forall_mem_cons.mpr ⟨tw_1213, (List.forall_mem_cons.mpr ⟨tw_1212, (List.forall_mem_cons.mpr ⟨tw_1211, (List.forall_mem_cons.mpr ⟨tw_1120, (List.forall_mem_cons.mpr ⟨tw_1116, (List.forall_mem_cons.mpr ⟨tw_1210, (List.forall_mem_cons.mpr ⟨tw_1209, (List.forall_mem_cons.mpr ⟨tw_1208, (List.forall_mem_cons.mpr ⟨tw_1207, (List.forall_mem_cons.mpr ⟨tw_1206, (List.forall_mem_cons.mpr ⟨tw_1205, (List.forall_mem_cons.mpr ⟨tw_1204, (List.forall_mem_cons.mpr ⟨tw_1203, (List.forall_mem_cons.mpr ⟨tw_1202, (List.forall_mem_cons.mpr ⟨tw_1201, (fun _ h => absurd h List.not_mem_nil)⟩)⟩)⟩)⟩)⟩)⟩)⟩)⟩)⟩)⟩)⟩)⟩)⟩)⟩)⟩)⟩)⟩)⟩)⟩)⟩)⟩)⟩)⟩)⟩)
set_option maxRecDepth 20000 in
theorem il_wsX10_load_r5 : ∀ w ∈ wsX10_load_r5, w ∈ lw_tbl2 := by
  delta wsX10_load_r5
  exact (List.forall_mem_cons.mpr ⟨tw_1242, (List.forall_mem_cons.mpr ⟨tw_1241, (List.forall_mem_cons.mpr ⟨tw_1240, (List.forall_mem_cons.mpr ⟨tw_1239, (List.forall_mem_cons.mpr ⟨tw_1238, (List.forall_mem_cons.mpr ⟨tw_1237, (List.forall_mem_cons.mpr ⟨tw_1236, (List.forall_mem_cons.mpr ⟨tw_1235, (List.forall_mem_cons.mpr ⟨tw_1234, (List.forall_mem_cons.mpr ⟨tw_1233, (List.forall_mem_cons.mpr ⟨tw_1232, (List.forall_mem_cons.mpr ⟨tw_1231, (List.forall_mem_cons.mpr ⟨tw_1117, (List.forall_mem_cons.mpr ⟨tw_1230, (List.forall_mem_cons.mpr ⟨tw_1229, (List.forall_mem_cons.mpr ⟨tw_1228, (List.forall_mem_cons.mpr ⟨tw_1227, (List.forall_mem_cons.mpr ⟨tw_1226, (List.forall_mem_cons.mpr ⟨tw_1225, (List.forall_mem_cons.mpr ⟨tw_1224, (List.forall_mem_cons.mpr ⟨tw_1223, (List.forall_mem_cons.mpr ⟨tw_1222, (List.forall_mem_cons.mpr ⟨tw_1221, (List.forall_mem_cons.mpr ⟨tw_1220, (fun _ h => absurd h List.not_mem_nil)⟩)⟩)⟩)⟩)⟩)⟩)⟩)⟩)⟩)⟩)⟩)⟩)⟩)⟩)⟩)⟩)⟩)⟩)⟩)⟩)⟩)⟩)⟩)⟩)
set_option maxRecDepth 20000 in
theorem il_wsX10_load_r6 : ∀ w ∈ wsX10_load_r6, w ∈ lw_tbl2 := by
  delta wsX10_load_r6
  exact (List.forall_mem_cons.mpr ⟨tw_1264, (List.forall_mem_cons.mpr ⟨tw_1263, (List.forall_mem_cons.mpr ⟨tw_1262, (List.forall_mem_cons.mpr ⟨tw_1261, (List.forall_mem_cons.mpr ⟨tw_1260, (List.forall_mem_cons.mpr ⟨tw_1259, (List.forall_mem_cons.mpr ⟨tw_1258, (List.forall_mem_cons.mpr ⟨tw_1257, (List.forall_mem_cons.mpr ⟨tw_1256, (List.forall_mem_cons.mpr ⟨tw_1255, (List.forall_mem_cons.mpr ⟨tw_1254, (List.forall_mem_cons.mpr ⟨tw_1253, (List.forall_mem_cons.mpr ⟨tw_1252, (List.forall_mem_cons.mpr ⟨tw_977, (List.forall_mem_cons.mpr ⟨tw_1251, (List.forall_mem_cons.mpr ⟨tw_1250, (List.forall_mem_cons.mpr ⟨tw_1249, (List.forall_mem_cons.mpr ⟨tw_1248, (List.forall_mem_cons.mpr ⟨tw_1118, (List.forall_mem_cons.mpr ⟨tw_1247, (List.forall_mem_cons.mpr ⟨tw_1246, (List.forall_mem_cons.mpr ⟨tw_1245, (List.forall_mem_cons.mpr ⟨tw_1244, (List.forall_mem_cons.mpr ⟨tw_1243, (fun _ h => absurd h List.not_mem_nil)⟩)⟩)⟩)⟩)⟩)⟩)⟩)⟩)⟩)⟩)⟩)⟩)⟩)⟩)⟩)⟩)⟩)⟩)⟩)⟩)⟩)⟩)⟩)⟩)
set_option maxRecDepth 20000 in
theorem il_wsX10_load_r7 : ∀ w ∈ wsX10_load_r7, w ∈ lw_tbl2 := by
  delta wsX10_load_r7
  exact (List.forall_mem_cons.mpr ⟨tw_1277, (List.forall_mem_cons.mpr ⟨tw_1276, (List.forall_mem_cons.mpr ⟨tw_1275, (List.forall_mem_cons.mpr ⟨tw_1274, (List.forall_mem_cons.mpr ⟨tw_1273, (List.forall_mem_cons.mpr ⟨tw_1272, (List.forall_mem_cons.mpr ⟨tw_1271, (List.forall_mem_cons.mpr ⟨tw_1270, (List.forall_mem_cons.mpr ⟨tw_1269, (List.forall_mem_cons.mpr ⟨tw_1268, (List.forall_mem_cons.mpr ⟨tw_1267, (List.forall_mem_cons.mpr ⟨tw_1266, (List.forall_mem_cons.mpr ⟨tw_1265, (List.forall_mem_cons.mpr ⟨tw_1121, (List.forall_mem_cons.mpr ⟨tw_1119, (List.forall_mem_cons.mpr ⟨tw_951, (List.forall_mem_cons.mpr ⟨tw_950, (List.forall_mem_cons.mpr ⟨tw_924, (List.forall_mem_cons.mpr ⟨tw_970, (List.forall_mem_cons.mpr ⟨tw_1023, (List.forall_mem_cons.mpr ⟨tw_1022, (List.forall_mem_cons.mpr ⟨tw_1021, (fun _ h => absurd h List.not_mem_nil)⟩)⟩)⟩)⟩)⟩)⟩)⟩)⟩)⟩)⟩)⟩)⟩)⟩)⟩)⟩)⟩)⟩)⟩)⟩)⟩)⟩)⟩)
set_option maxRecDepth 20000 in
theorem il_wsX10_load : ∀ w ∈ wsX10_load, w ∈ lw_tbl2 := by
  delta wsX10_load
  exact (List.forall_mem_cons.mpr ⟨tw_1145, (List.forall_mem_append.mpr ⟨(List.forall_mem_append.mpr ⟨il_wsX10_load_r1, (List.forall_mem_append.mpr ⟨il_wsX10_load_r2, (List.forall_mem_append.mpr ⟨il_wsX10_load_r3, (List.forall_mem_append.mpr ⟨il_wsX10_load_r4, (List.forall_mem_append.mpr ⟨il_wsX10_load_r5, (List.forall_mem_append.mpr ⟨il_wsX10_load_r6, il_wsX10_load_r7⟩)⟩)⟩)⟩)⟩)⟩), il_wsX100⟩)⟩)
set_option maxRecDepth 20000 in
theorem il_wsX10_milestones : ∀ w ∈ wsX10_milestones, w ∈ lw_tbl2 := by
  delta wsX10_milestones
  exact (List.forall_mem_cons.mpr ⟨tw_1278, (List.forall_mem_append.mpr ⟨(List.forall_mem_cons.mpr ⟨tw_925, (List.forall_mem_cons.mpr ⟨tw_944, (fun _ h => absurd h List.not_mem_nil)⟩)⟩), il_wsX100⟩)⟩)
set_option maxRecDepth 20000 in
theorem il_wsX10_missingProofs_r1 : ∀ w ∈ wsX10_missingProofs_r1, w ∈ lw_tbl2 := by
  delta wsX10_missingProofs_r1
  exact (List.forall_mem_cons.mpr ⟨tw_944, (List.forall_mem_cons.mpr ⟨tw_949, (List.forall_mem_cons.mpr ⟨tw_948, (List.forall_mem_cons.mpr ⟨tw_947, (List.forall_mem_cons.mpr ⟨tw_946, (List.forall_mem_cons.mpr ⟨tw_945, (List.forall_mem_cons.mpr ⟨tw_943, (List.forall_mem_cons.mpr ⟨tw_942, (List.forall_mem_cons.mpr ⟨tw_941, (List.forall_mem_cons.mpr ⟨tw_1006, (List.forall_mem_cons.mpr ⟨tw_1005, (List.forall_mem_cons.mpr ⟨tw_1004, (List.forall_mem_cons.mpr ⟨tw_1003, (List.forall_mem_cons.mpr ⟨tw_925, (List.forall_mem_cons.mpr ⟨tw_959, (List.forall_mem_cons.mpr ⟨tw_958, (List.forall_mem_cons.mpr ⟨tw_957, (List.forall_mem_cons.mpr ⟨tw_956, (List.forall_mem_cons.mpr ⟨tw_936, (List.forall_mem_cons.mpr ⟨tw_935, (List.forall_mem_cons.mpr ⟨tw_934, (List.forall_mem_cons.mpr ⟨tw_933, (List.forall_mem_cons.mpr ⟨tw_1281, (List.forall_mem_cons.mpr ⟨tw_1280, (fun _ h => absurd h List.not_mem_nil)⟩)⟩)⟩)⟩)⟩)⟩)⟩)⟩)⟩)⟩)⟩)⟩)⟩)⟩)⟩)⟩)⟩)⟩)⟩)⟩)⟩)⟩)⟩)⟩)
set_option maxRecDepth 20000 in
theorem il_wsX10_missingProofs_r2 : ∀ w ∈ wsX10_missingProofs_r2, w ∈ lw_tbl2 := by
  delta wsX10_missingProofs_r2
  exact (List.forall_mem_cons.mpr ⟨tw_1282, (List.forall_mem_cons.mpr ⟨tw_955, (List.forall_mem_cons.mpr ⟨tw_954, (List.forall_mem_cons.mpr ⟨tw_953, (List.forall_mem_cons.mpr ⟨tw_952, (List.forall_mem_cons.mpr ⟨tw_951, (List.forall_mem_cons.mpr ⟨tw_950, (List.forall_mem_cons.mpr ⟨tw_978, (List.forall_mem_cons.mpr ⟨tw_977, (List.forall_mem_cons.mpr ⟨tw_976, (List.forall_mem_cons.mpr ⟨tw_975, (List.forall_mem_cons.mpr ⟨tw_974, (List.forall_mem_cons.mpr ⟨tw_973, (fun _ h => absurd h List.not_mem_nil)⟩)⟩)⟩)⟩)⟩)⟩)⟩)⟩)⟩)⟩)⟩)⟩)⟩)
set_option maxRecDepth 20000 in
theorem il_wsX10_missingProofs : ∀ w ∈ wsX10_missingProofs, w ∈ lw_tbl2 := by
  delta wsX10_missingProofs
  exact (List.forall_mem_cons.mpr ⟨tw_1279, (List.forall_mem_append.mpr ⟨(List.forall_mem_append.mpr ⟨il_wsX10_missingProofs_r1, il_wsX10_missingProofs_r2⟩), il_wsX100⟩)⟩)
set_option maxRecDepth 20000 in
theorem il_wsX10_nextDue : ∀ w ∈ wsX10_nextDue, w ∈ lw_tbl2 := by
  delta wsX10_nextDue
  exact (List.forall_mem_cons.mpr ⟨tw_1283, (List.forall_mem_append.mpr ⟨(List.forall_mem_cons.mpr ⟨tw_925, (List.forall_mem_cons.mpr ⟨tw_1062, (List.forall_mem_cons.mpr ⟨tw_1061, (List.forall_mem_cons.mpr ⟨tw_1060, (List.forall_mem_cons.mpr ⟨tw_946, (List.forall_mem_cons.mpr ⟨tw_1059, (List.forall_mem_cons.mpr ⟨tw_944, (List.forall_mem_cons.mpr ⟨tw_936, (List.forall_mem_cons.mpr ⟨tw_935, (List.forall_mem_cons.mpr ⟨tw_934, (List.forall_mem_cons.mpr ⟨tw_933, (List.forall_mem_cons.mpr ⟨tw_1058, (List.forall_mem_cons.mpr ⟨tw_1057, (List.forall_mem_cons.mpr ⟨tw_1056, (List.forall_mem_cons.mpr ⟨tw_1055, (fun _ h => absurd h List.not_mem_nil)⟩)⟩)⟩)⟩)⟩)⟩)⟩)⟩)⟩)⟩)⟩)⟩)⟩)⟩)⟩), il_wsX100⟩)⟩)
set_option maxRecDepth 20000 in
theorem il_wsX10_paid : ∀ w ∈ wsX10_paid, w ∈ lw_tbl2 := by
  delta wsX10_paid
  exact (List.forall_mem_cons.mpr ⟨tw_1284, (List.forall_mem_append.mpr ⟨(List.forall_mem_cons.mpr ⟨tw_949, (List.forall_mem_cons.mpr ⟨tw_948, (List.forall_mem_cons.mpr ⟨tw_947, (List.forall_mem_cons.mpr ⟨tw_946, (List.forall_mem_cons.mpr ⟨tw_945, (List.forall_mem_cons.mpr ⟨tw_944, (List.forall_mem_cons.mpr ⟨tw_943, (List.forall_mem_cons.mpr ⟨tw_942, (List.forall_mem_cons.mpr ⟨tw_941, (List.forall_mem_cons.mpr ⟨tw_1006, (List.forall_mem_cons.mpr ⟨tw_1005, (List.forall_mem_cons.mpr ⟨tw_1004, (List.forall_mem_cons.mpr ⟨tw_1003, (List.forall_mem_cons.mpr ⟨tw_925, (List.forall_mem_cons.mpr ⟨tw_936, (List.forall_mem_cons.mpr ⟨tw_935, (List.forall_mem_cons.mpr ⟨tw_934, (List.forall_mem_cons.mpr ⟨tw_933, (fun _ h => absurd h List.not_mem_nil)⟩)⟩)⟩)⟩)⟩)⟩)⟩)⟩)⟩)⟩)⟩)⟩)⟩)⟩)⟩)⟩)⟩)⟩), il_wsX100⟩)⟩)
set_option maxRecDepth 20000 in
theorem il_wsX10_paidAfter_r1 : ∀ w ∈ wsX10_paidAfter_r1, w ∈ lw_tbl2 := by
  delta wsX10_paidAfter_r1
  exact (List.forall_mem_cons.mpr ⟨tw_949, (List.forall_mem_cons.mpr ⟨tw_948, (List.forall_mem_cons.mpr ⟨tw_947, (List.forall_mem_cons.mpr ⟨tw_946, (List.forall_mem_cons.mpr ⟨tw_945, (List.forall_mem_cons.mpr ⟨tw_944, (List.forall_mem_cons.mpr ⟨tw_943, (List.forall_mem_cons.mpr ⟨tw_942, (List.forall_mem_cons.mpr ⟨tw_941, (List.forall_mem_cons.mpr ⟨tw_1033, (List.forall_mem_cons.mpr ⟨tw_1032, (List.forall_mem_cons.mpr ⟨tw_1031, (List.forall_mem_cons.mpr ⟨tw_1030, (List.forall_mem_cons.mpr ⟨tw_932, (List.forall_mem_cons.mpr ⟨tw_931, (List.forall_mem_cons.mpr ⟨tw_930, (List.forall_mem_cons.mpr ⟨tw_929, (List.forall_mem_cons.mpr ⟨tw_925, (List.forall_mem_cons.mpr ⟨tw_1029, (List.forall_mem_cons.mpr ⟨tw_1028, (List.forall_mem_cons.mpr ⟨tw_1027, (List.forall_mem_cons.mpr ⟨tw_1026, (List.forall_mem_cons.mpr ⟨tw_1025, (List.forall_mem_cons.mpr ⟨tw_924, (fun _ h => absurd h List.not_mem_nil)⟩)⟩)⟩)⟩)⟩)⟩)⟩)⟩)⟩)⟩)⟩)⟩)⟩)⟩)⟩)⟩)⟩)⟩)⟩)⟩)⟩)⟩)⟩)⟩)
set_option maxRecDepth 20000 in
theorem il_wsX10_paidAfter_r2 : ∀ w ∈ wsX10_paidAfter_r2, w ∈ lw_tbl2 := by
  delta wsX10_paidAfter_r2
  exact (List.forall_mem_cons.mpr ⟨tw_1024, (List.forall_mem_cons.mpr ⟨tw_1023, (List.forall_mem_cons.mpr ⟨tw_1022, (List.forall_mem_cons.mpr ⟨tw_1021, (List.forall_mem_cons.mpr ⟨tw_1050, (List.forall_mem_cons.mpr ⟨tw_1049, (List.forall_mem_cons.mpr ⟨tw_1048, (List.forall_mem_cons.mpr ⟨tw_1047, (List.forall_mem_cons.mpr ⟨tw_1046, (List.forall_mem_cons.mpr ⟨tw_1045, (List.forall_mem_cons.mpr ⟨tw_1044, (List.forall_mem_cons.mpr ⟨tw_1043, (List.forall_mem_cons.mpr ⟨tw_1042, (List.forall_mem_cons.mpr ⟨tw_1041, (List.forall_mem_cons.mpr ⟨tw_1040, (List.forall_mem_cons.mpr ⟨tw_1039, (List.forall_mem_cons.mpr ⟨tw_1038, (List.forall_mem_cons.mpr ⟨tw_1013, (List.forall_mem_cons.mpr ⟨tw_1012, (List.forall_mem_cons.mpr ⟨tw_1011, (List.forall_mem_cons.mpr ⟨tw_1037, (List.forall_mem_cons.mpr ⟨tw_1036, (List.forall_mem_cons.mpr ⟨tw_1035, (List.forall_mem_cons.mpr ⟨tw_1034, (fun _ h => absurd h List.not_mem_nil)⟩)⟩)⟩)⟩)⟩)⟩)⟩)⟩)⟩)⟩)⟩)⟩)⟩)⟩)⟩)⟩)⟩)⟩)⟩)⟩)⟩)⟩)⟩)⟩)
set_option maxRecDepth 20000 in
theorem il_wsX10_paidAfter_r3 : ∀ w ∈ wsX10_paidAfter_r3, w ∈ lw_tbl2 := by
  delta wsX10_paidAfter_r3
  exact (List.forall_mem_cons.mpr ⟨tw_959, (List.forall_mem_cons.mpr ⟨tw_958, (List.forall_mem_cons.mpr ⟨tw_957, (List.forall_mem_cons.mpr ⟨tw_956, (List.forall_mem_cons.mpr ⟨tw_936, (List.forall_mem_cons.mpr ⟨tw_935, (List.forall_mem_cons.mpr ⟨tw_934, (List.forall_mem_cons.mpr ⟨tw_933, (List.forall_mem_cons.mpr ⟨tw_955, (List.forall_mem_cons.mpr ⟨tw_954, (List.forall_mem_cons.mpr ⟨tw_953, (List.forall_mem_cons.mpr ⟨tw_952, (List.forall_mem_cons.mpr ⟨tw_951, (List.forall_mem_cons.mpr ⟨tw_950, (List.forall_mem_cons.mpr ⟨tw_978, (List.forall_mem_cons.mpr ⟨tw_977, (List.forall_mem_cons.mpr ⟨tw_976, (List.forall_mem_cons.mpr ⟨tw_975, (List.forall_mem_cons.mpr ⟨tw_974, (List.forall_mem_cons.mpr ⟨tw_973, (List.forall_mem_cons.mpr ⟨tw_967, (List.forall_mem_cons.mpr ⟨tw_966, (List.forall_mem_cons.mpr ⟨tw_965, (List.forall_mem_cons.mpr ⟨tw_964, (fun _ h => absurd h List.not_mem_nil)⟩)⟩)⟩)⟩)⟩)⟩)⟩)⟩)⟩)⟩)⟩)⟩)⟩)⟩)⟩)⟩)⟩)⟩)⟩)⟩)⟩)⟩)⟩)⟩)
set_option maxRecDepth 20000 in
theorem il_wsX10_paidAfter_r4 : ∀ w ∈ wsX10_paidAfter_r4, w ∈ lw_tbl2 := by
  delta wsX10_paidAfter_r4
  exact (List.forall_mem_cons.mpr ⟨tw_1054, (List.forall_mem_cons.mpr ⟨tw_1053, (List.forall_mem_cons.mpr ⟨tw_1052, (List.forall_mem_cons.mpr ⟨tw_1051, (List.forall_mem_cons.mpr ⟨tw_1064, (List.forall_mem_cons.mpr ⟨tw_1063, (List.forall_mem_cons.mpr ⟨tw_33, (List.forall_mem_cons.mpr ⟨tw_32, (List.forall_mem_cons.mpr ⟨tw_31, (List.forall_mem_cons.mpr ⟨tw_1062, (List.forall_mem_cons.mpr ⟨tw_1061, (List.forall_mem_cons.mpr ⟨tw_1060, (List.forall_mem_cons.mpr ⟨tw_1059, (List.forall_mem_cons.mpr ⟨tw_1058, (List.forall_mem_cons.mpr ⟨tw_1057, (List.forall_mem_cons.mpr ⟨tw_1056, (List.forall_mem_cons.mpr ⟨tw_1055, (List.forall_mem_cons.mpr ⟨tw_1001, (List.forall_mem_cons.mpr ⟨tw_1000, (List.forall_mem_cons.mpr ⟨tw_999, (List.forall_mem_cons.mpr ⟨tw_998, (List.forall_mem_cons.mpr ⟨tw_940, (List.forall_mem_cons.mpr ⟨tw_939, (List.forall_mem_cons.mpr ⟨tw_938, (fun _ h => absurd h List.not_mem_nil)⟩)⟩)⟩)⟩)⟩)⟩)⟩)⟩)⟩)⟩)⟩)⟩)⟩)⟩)⟩)⟩)⟩)⟩)⟩)⟩)⟩)⟩)⟩)⟩)
set_option maxRecDepth 20000 in
theorem il_wsX10_paidAfter_r5 : ∀ w ∈ wsX10_paidAfter_r5, w ∈ lw_tbl2 := by
  delta wsX10_paidAfter_r5
  exact (List.forall_mem_cons.mpr ⟨tw_937, (List.forall_mem_cons.mpr ⟨tw_983, (List.forall_mem_cons.mpr ⟨tw_982, (List.forall_mem_cons.mpr ⟨tw_981, (List.forall_mem_cons.mpr ⟨tw_980, (List.forall_mem_cons.mpr ⟨tw_1084, (List.forall_mem_cons.mpr ⟨tw_1083, (List.forall_mem_cons.mpr ⟨tw_1082, (List.forall_mem_cons.mpr ⟨tw_1081, (List.forall_mem_cons.mpr ⟨tw_1080, (List.forall_mem_cons.mpr ⟨tw_1079, (List.forall_mem_cons.mpr ⟨tw_1078, (List.forall_mem_cons.mpr ⟨tw_1077, (List.forall_mem_cons.mpr ⟨tw_1076, (List.forall_mem_cons.mpr ⟨tw_1075, (List.forall_mem_cons.mpr ⟨tw_1074, (List.forall_mem_cons.mpr ⟨tw_1073, (List.forall_mem_cons.mpr ⟨tw_1072, (List.forall_mem_cons.mpr ⟨tw_1071, (List.forall_mem_cons.mpr ⟨tw_1070, (List.forall_mem_cons.mpr ⟨tw_1069, (List.forall_mem_cons.mpr ⟨tw_1068, (List.forall_mem_cons.mpr ⟨tw_1067, (List.forall_mem_cons.mpr ⟨tw_1066, (fun _ h => absurd h List.not_mem_nil)⟩)⟩)⟩)⟩)⟩)⟩)⟩)⟩)⟩)⟩)⟩)⟩)⟩)⟩)⟩)⟩)⟩)⟩)⟩)⟩)⟩)⟩)⟩)⟩)
set_option maxRecDepth 20000 in
theorem il_wsX10_paidAfter_r6 : ∀ w ∈ wsX10_paidAfter_r6, w ∈ lw_tbl2 := by
  delta wsX10_paidAfter_r6
  exact (List.forall_mem_cons.mpr ⟨tw_1065, (fun _ h => absurd h List.not_mem_nil)⟩)
set_option maxRecDepth 20000 in
theorem il_wsX10_paidAfter : ∀ w ∈ wsX10_paidAfter, w ∈ lw_tbl2 := by
  delta wsX10_paidAfter
  exact (List.forall_mem_cons.mpr ⟨tw_1285, (List.forall_mem_append.mpr ⟨(List.forall_mem_append.mpr ⟨il_wsX10_paidAfter_r1, (List.forall_mem_append.mpr ⟨il_wsX10_paidAfter_r2, (List.forall_mem_append.mpr ⟨il_wsX10_paidAfter_r3, (List.forall_mem_append.mpr ⟨il_wsX10_paidAfter_r4, (List.forall_mem_append.mpr ⟨il_wsX10_paidAfter_r5, il_wsX10_paidAfter_r6⟩)⟩)⟩)⟩)⟩), il_wsX100⟩)⟩)
set_option maxRecDepth 20000 in
theorem il_wsX10_pass_r1 : ∀ w ∈ wsX10_pass_r1, w ∈ lw_tbl2 := by
  delta wsX10_pass_r1
  exact (List.forall_mem_cons.mpr ⟨tw_944, (List.forall_mem_cons.mpr ⟨tw_1033, (List.forall_mem_cons.mpr ⟨tw_1032, (List.forall_mem_cons.mpr ⟨tw_946, (List.forall_mem_cons.mpr ⟨tw_1031, (List.forall_mem_cons.mpr ⟨tw_1030, (List.forall_mem_cons.mpr ⟨tw_943, (List.forall_mem_cons.mpr ⟨tw_942, (List.forall_mem_cons.mpr ⟨tw_941, (List.forall_mem_cons.mpr ⟨tw_932, (List.forall_mem_cons.mpr ⟨tw_931, (List.forall_mem_cons.mpr ⟨tw_930, (List.forall_mem_cons.mpr ⟨tw_929, (List.forall_mem_cons.mpr ⟨tw_925, (List.forall_mem_cons.mpr ⟨tw_928, (List.forall_mem_cons.mpr ⟨tw_927, (List.forall_mem_cons.mpr ⟨tw_972, (List.forall_mem_cons.mpr ⟨tw_971, (List.forall_mem_cons.mpr ⟨tw_970, (List.forall_mem_cons.mpr ⟨tw_969, (List.forall_mem_cons.mpr ⟨tw_968, (List.forall_mem_cons.mpr ⟨tw_924, (List.forall_mem_cons.mpr ⟨tw_1050, (List.forall_mem_cons.mpr ⟨tw_1049, (fun _ h => absurd h List.not_mem_nil)⟩)⟩)⟩)⟩)⟩)⟩)⟩)⟩)⟩)⟩)⟩)⟩)⟩)⟩)⟩)⟩)⟩)⟩)⟩)⟩)⟩)⟩)⟩)⟩)
set_option maxRecDepth 20000 in
theorem il_wsX10_pass_r2 : ∀ w ∈ wsX10_pass_r2, w ∈ lw_tbl2 := by
  delta wsX10_pass_r2
  exact (List.forall_mem_cons.mpr ⟨tw_1048, (List.forall_mem_cons.mpr ⟨tw_1047, (List.forall_mem_cons.mpr ⟨tw_1046, (List.forall_mem_cons.mpr ⟨tw_1045, (List.forall_mem_cons.mpr ⟨tw_1044, (List.forall_mem_cons.mpr ⟨tw_1043, (List.forall_mem_cons.mpr ⟨tw_1042, (List.forall_mem_cons.mpr ⟨tw_1041, (List.forall_mem_cons.mpr ⟨tw_1040, (List.forall_mem_cons.mpr ⟨tw_1039, (List.forall_mem_cons.mpr ⟨tw_1038, (List.forall_mem_cons.mpr ⟨tw_1013, (List.forall_mem_cons.mpr ⟨tw_1012, (List.forall_mem_cons.mpr ⟨tw_1011, (List.forall_mem_cons.mpr ⟨tw_1037, (List.forall_mem_cons.mpr ⟨tw_1036, (List.forall_mem_cons.mpr ⟨tw_1035, (List.forall_mem_cons.mpr ⟨tw_1034, (List.forall_mem_cons.mpr ⟨tw_959, (List.forall_mem_cons.mpr ⟨tw_958, (List.forall_mem_cons.mpr ⟨tw_957, (List.forall_mem_cons.mpr ⟨tw_956, (List.forall_mem_cons.mpr ⟨tw_936, (List.forall_mem_cons.mpr ⟨tw_935, (fun _ h => absurd h List.not_mem_nil)⟩)⟩)⟩)⟩)⟩)⟩)⟩)⟩)⟩)⟩)⟩)⟩)⟩)⟩)⟩)⟩)⟩)⟩)⟩)⟩)⟩)⟩)⟩)⟩)
set_option maxRecDepth 20000 in
theorem il_wsX10_pass_r3 : ∀ w ∈ wsX10_pass_r3, w ∈ lw_tbl2 := by
  delta wsX10_pass_r3
  exact (List.forall_mem_cons.mpr ⟨tw_934, (List.forall_mem_cons.mpr ⟨tw_933, (List.forall_mem_cons.mpr ⟨tw_955, (List.forall_mem_cons.mpr ⟨tw_954, (List.forall_mem_cons.mpr ⟨tw_953, (List.forall_mem_cons.mpr ⟨tw_952, (List.forall_mem_cons.mpr ⟨tw_951, (List.forall_mem_cons.mpr ⟨tw_950, (List.forall_mem_cons.mpr ⟨tw_978, (List.forall_mem_cons.mpr ⟨tw_977, (List.forall_mem_cons.mpr ⟨tw_976, (List.forall_mem_cons.mpr ⟨tw_975, (List.forall_mem_cons.mpr ⟨tw_974, (List.forall_mem_cons.mpr ⟨tw_973, (List.forall_mem_cons.mpr ⟨tw_967, (List.forall_mem_cons.mpr ⟨tw_966, (List.forall_mem_cons.mpr ⟨tw_965, (List.forall_mem_cons.mpr ⟨tw_964, (List.forall_mem_cons.mpr ⟨tw_1054, (List.forall_mem_cons.mpr ⟨tw_1053, (List.forall_mem_cons.mpr ⟨tw_1052, (List.forall_mem_cons.mpr ⟨tw_1051, (List.forall_mem_cons.mpr ⟨tw_1064, (List.forall_mem_cons.mpr ⟨tw_1063, (fun _ h => absurd h List.not_mem_nil)⟩)⟩)⟩)⟩)⟩)⟩)⟩)⟩)⟩)⟩)⟩)⟩)⟩)⟩)⟩)⟩)⟩)⟩)⟩)⟩)⟩)⟩)⟩)⟩)
set_option maxRecDepth 20000 in
theorem il_wsX10_pass_r4 : ∀ w ∈ wsX10_pass_r4, w ∈ lw_tbl2 := by
  delta wsX10_pass_r4
  exact (List.forall_mem_cons.mpr ⟨tw_33, (List.forall_mem_cons.mpr ⟨tw_32, (List.forall_mem_cons.mpr ⟨tw_31, (List.forall_mem_cons.mpr ⟨tw_1062, (List.forall_mem_cons.mpr ⟨tw_1061, (List.forall_mem_cons.mpr ⟨tw_1060, (List.forall_mem_cons.mpr ⟨tw_1059, (List.forall_mem_cons.mpr ⟨tw_1058, (List.forall_mem_cons.mpr ⟨tw_1057, (List.forall_mem_cons.mpr ⟨tw_1056, (List.forall_mem_cons.mpr ⟨tw_1055, (List.forall_mem_cons.mpr ⟨tw_1001, (List.forall_mem_cons.mpr ⟨tw_1000, (List.forall_mem_cons.mpr ⟨tw_999, (List.forall_mem_cons.mpr ⟨tw_998, (List.forall_mem_cons.mpr ⟨tw_940, (List.forall_mem_cons.mpr ⟨tw_939, (List.forall_mem_cons.mpr ⟨tw_938, (List.forall_mem_cons.mpr ⟨tw_937, (List.forall_mem_cons.mpr ⟨tw_983, (List.forall_mem_cons.mpr ⟨tw_982, (List.forall_mem_cons.mpr ⟨tw_981, (List.forall_mem_cons.mpr ⟨tw_980, (List.forall_mem_cons.mpr ⟨tw_1084, (fun _ h => absurd h List.not_mem_nil)⟩)⟩)⟩)⟩)⟩)⟩)⟩)⟩)⟩)⟩)⟩)⟩)⟩)⟩)⟩)⟩)⟩)⟩)⟩)⟩)⟩)⟩)⟩)⟩)
set_option maxRecDepth 20000 in
theorem il_wsX10_pass_r5 : ∀ w ∈ wsX10_pass_r5, w ∈ lw_tbl2 := by
  delta wsX10_pass_r5
  exact (List.forall_mem_cons.mpr ⟨tw_1083, (List.forall_mem_cons.mpr ⟨tw_1082, (List.forall_mem_cons.mpr ⟨tw_1081, (List.forall_mem_cons.mpr ⟨tw_1080, (List.forall_mem_cons.mpr ⟨tw_1079, (List.forall_mem_cons.mpr ⟨tw_1078, (List.forall_mem_cons.mpr ⟨tw_1077, (List.forall_mem_cons.mpr ⟨tw_1076, (List.forall_mem_cons.mpr ⟨tw_1075, (List.forall_mem_cons.mpr ⟨tw_1074, (List.forall_mem_cons.mpr ⟨tw_1073, (List.forall_mem_cons.mpr ⟨tw_1072, (List.forall_mem_cons.mpr ⟨tw_1071, (List.forall_mem_cons.mpr ⟨tw_1070, (List.forall_mem_cons.mpr ⟨tw_1069, (fun _ h => absurd h List.not_mem_nil)⟩)⟩)⟩)⟩)⟩)⟩)⟩)⟩)⟩)⟩)⟩)⟩)⟩)⟩)⟩)
set_option maxRecDepth 20000 in
theorem il_wsX10_pass : ∀ w ∈ wsX10_pass, w ∈ lw_tbl2 := by
  delta wsX10_pass
  exact (List.forall_mem_cons.mpr ⟨tw_1286, (List.forall_mem_append.mpr ⟨(List.forall_mem_append.mpr ⟨il_wsX10_pass_r1, (List.forall_mem_append.mpr ⟨il_wsX10_pass_r2, (List.forall_mem_append.mpr ⟨il_wsX10_pass_r3, (List.forall_mem_append.mpr ⟨il_wsX10_pass_r4, il_wsX10_pass_r5⟩)⟩)⟩)⟩), il_wsX100⟩)⟩)
set_option maxRecDepth 20000 in
theorem il_wsX10_pay_r1 : ∀ w ∈ wsX10_pay_r1, w ∈ lw_tbl2 := by
  delta wsX10_pay_r1
  exact (List.forall_mem_cons.mpr ⟨tw_925, (List.forall_mem_cons.mpr ⟨tw_949, (List.forall_mem_cons.mpr ⟨tw_948, (List.forall_mem_cons.mpr ⟨tw_947, (List.forall_mem_cons.mpr ⟨tw_946, (List.forall_mem_cons.mpr ⟨tw_945, (List.forall_mem_cons.mpr ⟨tw_944, (List.forall_mem_cons.mpr ⟨tw_943, (List.forall_mem_cons.mpr ⟨tw_942, (List.forall_mem_cons.mpr ⟨tw_941, (List.forall_mem_cons.mpr ⟨tw_1001, (List.forall_mem_cons.mpr ⟨tw_1000, (List.forall_mem_cons.mpr ⟨tw_999, (List.forall_mem_cons.mpr ⟨tw_998, (List.forall_mem_cons.mpr ⟨tw_940, (List.forall_mem_cons.mpr ⟨tw_939, (List.forall_mem_cons.mpr ⟨tw_938, (List.forall_mem_cons.mpr ⟨tw_937, (List.forall_mem_cons.mpr ⟨tw_936, (List.forall_mem_cons.mpr ⟨tw_935, (List.forall_mem_cons.mpr ⟨tw_934, (List.forall_mem_cons.mpr ⟨tw_933, (List.forall_mem_cons.mpr ⟨tw_932, (List.forall_mem_cons.mpr ⟨tw_931, (fun _ h => absurd h List.not_mem_nil)⟩)⟩)⟩)⟩)⟩)⟩)⟩)⟩)⟩)⟩)⟩)⟩)⟩)⟩)⟩)⟩)⟩)⟩)⟩)⟩)⟩)⟩)⟩)⟩)
set_option maxRecDepth 20000 in
theorem il_wsX10_pay_r2 : ∀ w ∈ wsX10_pay_r2, w ∈ lw_tbl2 := by
  delta wsX10_pay_r2
  exact (List.forall_mem_cons.mpr ⟨tw_930, (List.forall_mem_cons.mpr ⟨tw_929, (List.forall_mem_cons.mpr ⟨tw_997, (List.forall_mem_cons.mpr ⟨tw_996, (List.forall_mem_cons.mpr ⟨tw_995, (List.forall_mem_cons.mpr ⟨tw_994, (List.forall_mem_cons.mpr ⟨tw_983, (List.forall_mem_cons.mpr ⟨tw_982, (List.forall_mem_cons.mpr ⟨tw_981, (List.forall_mem_cons.mpr ⟨tw_980, (List.forall_mem_cons.mpr ⟨tw_928, (List.forall_mem_cons.mpr ⟨tw_927, (List.forall_mem_cons.mpr ⟨tw_972, (List.forall_mem_cons.mpr ⟨tw_971, (List.forall_mem_cons.mpr ⟨tw_970, (List.forall_mem_cons.mpr ⟨tw_969, (List.forall_mem_cons.mpr ⟨tw_968, (List.forall_mem_cons.mpr ⟨tw_924, (List.forall_mem_cons.mpr ⟨tw_1080, (List.forall_mem_cons.mpr ⟨tw_1079, (List.forall_mem_cons.mpr ⟨tw_1078, (List.forall_mem_cons.mpr ⟨tw_1077, (List.forall_mem_cons.mpr ⟨tw_1076, (List.forall_mem_cons.mpr ⟨tw_1075, (fun _ h => absurd h List.not_mem_nil)⟩)⟩)⟩)⟩)⟩)⟩)⟩)⟩)⟩)⟩)⟩)⟩)⟩)⟩)⟩)⟩)⟩)⟩)⟩)⟩)⟩)⟩)⟩)⟩)
set_option maxRecDepth 20000 in
theorem il_wsX10_pay_r3 : ∀ w ∈ wsX10_pay_r3, w ∈ lw_tbl2 := by
  delta wsX10_pay_r3
  exact (List.forall_mem_cons.mpr ⟨tw_1074, (List.forall_mem_cons.mpr ⟨tw_1073, (List.forall_mem_cons.mpr ⟨tw_1038, (List.forall_mem_cons.mpr ⟨tw_967, (List.forall_mem_cons.mpr ⟨tw_966, (List.forall_mem_cons.mpr ⟨tw_965, (List.forall_mem_cons.mpr ⟨tw_964, (List.forall_mem_cons.mpr ⟨tw_1013, (List.forall_mem_cons.mpr ⟨tw_1012, (List.forall_mem_cons.mpr ⟨tw_1011, (List.forall_mem_cons.mpr ⟨tw_1072, (List.forall_mem_cons.mpr ⟨tw_1071, (List.forall_mem_cons.mpr ⟨tw_1070, (List.forall_mem_cons.mpr ⟨tw_1069, (fun _ h => absurd h List.not_mem_nil)⟩)⟩)⟩)⟩)⟩)⟩)⟩)⟩)⟩)⟩)⟩)⟩)⟩)⟩)
set_option maxRecDepth 20000 in
theorem il_wsX10_pay : ∀ w ∈ wsX10_pay, w ∈ lw_tbl2 := by
  delta wsX10_pay
  exact (List.forall_mem_cons.mpr ⟨tw_1287, (List.forall_mem_append.mpr ⟨(List.forall_mem_append.mpr ⟨il_wsX10_pay_r1, (List.forall_mem_append.mpr ⟨il_wsX10_pay_r2, il_wsX10_pay_r3⟩)⟩), il_wsX100⟩)⟩)
set_option maxRecDepth 20000 in
theorem il_wsX10_payInterest : ∀ w ∈ wsX10_payInterest, w ∈ lw_tbl2 := by
  delta wsX10_payInterest
  exact (List.forall_mem_cons.mpr ⟨tw_1288, (List.forall_mem_append.mpr ⟨(List.forall_mem_cons.mpr ⟨tw_944, (List.forall_mem_cons.mpr ⟨tw_943, (List.forall_mem_cons.mpr ⟨tw_942, (List.forall_mem_cons.mpr ⟨tw_946, (List.forall_mem_cons.mpr ⟨tw_941, (List.forall_mem_cons.mpr ⟨tw_1006, (List.forall_mem_cons.mpr ⟨tw_1005, (List.forall_mem_cons.mpr ⟨tw_1004, (List.forall_mem_cons.mpr ⟨tw_1003, (List.forall_mem_cons.mpr ⟨tw_925, (List.forall_mem_cons.mpr ⟨tw_928, (List.forall_mem_cons.mpr ⟨tw_927, (List.forall_mem_cons.mpr ⟨tw_972, (List.forall_mem_cons.mpr ⟨tw_971, (List.forall_mem_cons.mpr ⟨tw_970, (List.forall_mem_cons.mpr ⟨tw_969, (List.forall_mem_cons.mpr ⟨tw_968, (List.forall_mem_cons.mpr ⟨tw_924, (List.forall_mem_cons.mpr ⟨tw_1013, (List.forall_mem_cons.mpr ⟨tw_1012, (List.forall_mem_cons.mpr ⟨tw_1011, (fun _ h => absurd h List.not_mem_nil)⟩)⟩)⟩)⟩)⟩)⟩)⟩)⟩)⟩)⟩)⟩)⟩)⟩)⟩)⟩)⟩)⟩)⟩)⟩)⟩)⟩), il_wsX100⟩)⟩)
set_option maxRecDepth 20000 in
theorem il_wsX10_paymentsAfter_r1 : ∀ w ∈ wsX10_paymentsAfter_r1, w ∈ lw_tbl2 := by
  delta wsX10_paymentsAfter_r1
  exact (List.forall_mem_cons.mpr ⟨tw_944, (List.forall_mem_cons.mpr ⟨tw_1033, (List.forall_mem_cons.mpr ⟨tw_1032, (List.forall_mem_cons.mpr ⟨tw_946, (List.forall_mem_cons.mpr ⟨tw_1031, (List.forall_mem_cons.mpr ⟨tw_1030, (List.forall_mem_cons.mpr ⟨tw_943, (List.forall_mem_cons.mpr ⟨tw_942, (List.forall_mem_cons.mpr ⟨tw_941, (List.forall_mem_cons.mpr ⟨tw_1006, (List.forall_mem_cons.mpr ⟨tw_1005, (List.forall_mem_cons.mpr ⟨tw_1004, (List.forall_mem_cons.mpr ⟨tw_1003, (List.forall_mem_cons.mpr ⟨tw_925, (List.forall_mem_cons.mpr ⟨tw_1029, (List.forall_mem_cons.mpr ⟨tw_1028, (List.forall_mem_cons.mpr ⟨tw_1027, (List.forall_mem_cons.mpr ⟨tw_1026, (List.forall_mem_cons.mpr ⟨tw_1025, (List.forall_mem_cons.mpr ⟨tw_924, (List.forall_mem_cons.mpr ⟨tw_1024, (List.forall_mem_cons.mpr ⟨tw_1023, (List.forall_mem_cons.mpr ⟨tw_1022, (List.forall_mem_cons.mpr ⟨tw_1021, (fun _ h => absurd h List.not_mem_nil)⟩)⟩)⟩)⟩)⟩)⟩)⟩)⟩)⟩)⟩)⟩)⟩)⟩)⟩)⟩)⟩)⟩)⟩)⟩)⟩)⟩)⟩)⟩)⟩)
set_option maxRecDepth 20000 in
theorem il_wsX10_paymentsAfter_r2 : ∀ w ∈ wsX10_paymentsAfter_r2, w ∈ lw_tbl2 := by
  delta wsX10_paymentsAfter_r2
  exact (List.forall_mem_cons.mpr ⟨tw_1050, (List.forall_mem_cons.mpr ⟨tw_1049, (List.forall_mem_cons.mpr ⟨tw_1048, (List.forall_mem_cons.mpr ⟨tw_1047, (List.forall_mem_cons.mpr ⟨tw_1046, (List.forall_mem_cons.mpr ⟨tw_1045, (List.forall_mem_cons.mpr ⟨tw_1044, (List.forall_mem_cons.mpr ⟨tw_1043, (List.forall_mem_cons.mpr ⟨tw_1042, (List.forall_mem_cons.mpr ⟨tw_1041, (List.forall_mem_cons.mpr ⟨tw_1040, (List.forall_mem_cons.mpr ⟨tw_1039, (List.forall_mem_cons.mpr ⟨tw_1038, (List.forall_mem_cons.mpr ⟨tw_1013, (List.forall_mem_cons.mpr ⟨tw_1012, (List.forall_mem_cons.mpr ⟨tw_1011, (List.forall_mem_cons.mpr ⟨tw_1037, (List.forall_mem_cons.mpr ⟨tw_1036, (List.forall_mem_cons.mpr ⟨tw_1035, (List.forall_mem_cons.mpr ⟨tw_1034, (List.forall_mem_cons.mpr ⟨tw_959, (List.forall_mem_cons.mpr ⟨tw_958, (List.forall_mem_cons.mpr ⟨tw_957, (List.forall_mem_cons.mpr ⟨tw_956, (fun _ h => absurd h List.not_mem_nil)⟩)⟩)⟩)⟩)⟩)⟩)⟩)⟩)⟩)⟩)⟩)⟩)⟩)⟩)⟩)⟩)⟩)⟩)⟩)⟩)⟩)⟩)⟩)⟩)
set_option maxRecDepth 20000 in
theorem il_wsX10_paymentsAfter_r3 : ∀ w ∈ wsX10_paymentsAfter_r3, w ∈ lw_tbl2 := by
  delta wsX10_paymentsAfter_r3
  exact (List.forall_mem_cons.mpr ⟨tw_936, (List.forall_mem_cons.mpr ⟨tw_935, (List.forall_mem_cons.mpr ⟨tw_934, (List.forall_mem_cons.mpr ⟨tw_933, (List.forall_mem_cons.mpr ⟨tw_955, (List.forall_mem_cons.mpr ⟨tw_954, (List.forall_mem_cons.mpr ⟨tw_953, (List.forall_mem_cons.mpr ⟨tw_952, (List.forall_mem_cons.mpr ⟨tw_951, (List.forall_mem_cons.mpr ⟨tw_950, (List.forall_mem_cons.mpr ⟨tw_978, (List.forall_mem_cons.mpr ⟨tw_977, (List.forall_mem_cons.mpr ⟨tw_976, (List.forall_mem_cons.mpr ⟨tw_975, (List.forall_mem_cons.mpr ⟨tw_974, (List.forall_mem_cons.mpr ⟨tw_973, (List.forall_mem_cons.mpr ⟨tw_967, (List.forall_mem_cons.mpr ⟨tw_966, (List.forall_mem_cons.mpr ⟨tw_965, (List.forall_mem_cons.mpr ⟨tw_964, (List.forall_mem_cons.mpr ⟨tw_1054, (List.forall_mem_cons.mpr ⟨tw_1053, (List.forall_mem_cons.mpr ⟨tw_1052, (List.forall_mem_cons.mpr ⟨tw_1051, (fun _ h => absurd h List.not_mem_nil)⟩)⟩)⟩)⟩)⟩)⟩)⟩)⟩)⟩)⟩)⟩)⟩)⟩)⟩)⟩)⟩)⟩)⟩)⟩)⟩)⟩)⟩)⟩)⟩)
set_option maxRecDepth 20000 in
theorem il_wsX10_paymentsAfter_r4 : ∀ w ∈ wsX10_paymentsAfter_r4, w ∈ lw_tbl2 := by
  delta wsX10_paymentsAfter_r4
  exact (List.forall_mem_cons.mpr ⟨tw_1064, (List.forall_mem_cons.mpr ⟨tw_1063, (List.forall_mem_cons.mpr ⟨tw_33, (List.forall_mem_cons.mpr ⟨tw_32, (List.forall_mem_cons.mpr ⟨tw_31, (List.forall_mem_cons.mpr ⟨tw_1062, (List.forall_mem_cons.mpr ⟨tw_1061, (List.forall_mem_cons.mpr ⟨tw_1060, (List.forall_mem_cons.mpr ⟨tw_1059, (List.forall_mem_cons.mpr ⟨tw_1058, (List.forall_mem_cons.mpr ⟨tw_1057, (List.forall_mem_cons.mpr ⟨tw_1056, (List.forall_mem_cons.mpr ⟨tw_1055, (List.forall_mem_cons.mpr ⟨tw_1001, (List.forall_mem_cons.mpr ⟨tw_1000, (List.forall_mem_cons.mpr ⟨tw_999, (List.forall_mem_cons.mpr ⟨tw_998, (List.forall_mem_cons.mpr ⟨tw_940, (List.forall_mem_cons.mpr ⟨tw_939, (List.forall_mem_cons.mpr ⟨tw_938, (List.forall_mem_cons.mpr ⟨tw_937, (List.forall_mem_cons.mpr ⟨tw_983, (List.forall_mem_cons.mpr ⟨tw_982, (List.forall_mem_cons.mpr ⟨tw_981, (fun _ h => absurd h List.not_mem_nil)⟩)⟩)⟩)⟩)⟩)⟩)⟩)⟩)⟩)⟩)⟩)⟩)⟩)⟩)⟩)⟩)⟩)⟩)⟩)⟩)⟩)⟩)⟩)⟩)
set_option maxRecDepth 20000 in
theorem il_wsX10_paymentsAfter_r5 : ∀ w ∈ wsX10_paymentsAfter_r5, w ∈ lw_tbl2 := by
  delta wsX10_paymentsAfter_r5
  exact (List.forall_mem_cons.mpr ⟨tw_980, (List.forall_mem_cons.mpr ⟨tw_1084, (List.forall_mem_cons.mpr ⟨tw_1083, (List.forall_mem_cons.mpr ⟨tw_1082, (List.forall_mem_cons.mpr ⟨tw_1081, (List.forall_mem_cons.mpr ⟨tw_1080, (List.forall_mem_cons.mpr ⟨tw_1079, (List.forall_mem_cons.mpr ⟨tw_1078, (List.forall_mem_cons.mpr ⟨tw_1077, (List.forall_mem_cons.mpr ⟨tw_1076, (List.forall_mem_cons.mpr ⟨tw_1075, (List.forall_mem_cons.mpr ⟨tw_1074, (List.forall_mem_cons.mpr ⟨tw_1073, (List.forall_mem_cons.mpr ⟨tw_1072, (List.forall_mem_cons.mpr ⟨tw_1071, (List.forall_mem_cons.mpr ⟨tw_1070, (List.forall_mem_cons.mpr ⟨tw_1069, (List.forall_mem_cons.mpr ⟨tw_1068, (List.forall_mem_cons.mpr ⟨tw_1067, (List.forall_mem_cons.mpr ⟨tw_1066, (List.forall_mem_cons.mpr ⟨tw_1065, (fun _ h => absurd h List.not_mem_nil)⟩)⟩)⟩)⟩)⟩)⟩)⟩)⟩)⟩)⟩)⟩)⟩)⟩)⟩)⟩)⟩)⟩)⟩)⟩)⟩)⟩)
set_option maxRecDepth 20000 in
theorem il_wsX10_paymentsAfter : ∀ w ∈ wsX10_paymentsAfter, w ∈ lw_tbl2 := by
  delta wsX10_paymentsAfter
  exact (List.forall_mem_cons.mpr ⟨tw_1289, (List.forall_mem_append.mpr ⟨(List.forall_mem_append.mpr ⟨il_wsX10_paymentsAfter_r1, (List.forall_mem_append.mpr ⟨il_wsX10_paymentsAfter_r2, (List.forall_mem_append.mpr ⟨il_wsX10_paymentsAfter_r3, (List.forall_mem_append.mpr ⟨il_wsX10_paymentsAfter_r4, il_wsX10_paymentsAfter_r5⟩)⟩)⟩)⟩), il_wsX100⟩)⟩)
set_option maxRecDepth 20000 in
theorem il_wsX10_principal : ∀ w ∈ wsX10_principal, w ∈ lw_tbl2 := by
  delta wsX10_principal
  exact (List.forall_mem_cons.mpr ⟨tw_1290, (List.forall_mem_append.mpr ⟨(List.forall_mem_cons.mpr ⟨tw_925, (List.forall_mem_cons.mpr ⟨tw_944, (fun _ h => absurd h List.not_mem_nil)⟩)⟩), il_wsX100⟩)⟩)
set_option maxRecDepth 20000 in
theorem il_wsX10_progress : ∀ w ∈ wsX10_progress, w ∈ lw_tbl2 := by
  delta wsX10_progress
  exact (List.forall_mem_cons.mpr ⟨tw_1291, (List.forall_mem_append.mpr ⟨(List.forall_mem_cons.mpr ⟨tw_925, (List.forall_mem_cons.mpr ⟨tw_944, (List.forall_mem_cons.mpr ⟨tw_1292, (List.forall_mem_cons.mpr ⟨tw_936, (List.forall_mem_cons.mpr ⟨tw_935, (List.forall_mem_cons.mpr ⟨tw_934, (List.forall_mem_cons.mpr ⟨tw_946, (List.forall_mem_cons.mpr ⟨tw_933, (fun _ h => absurd h List.not_mem_nil)⟩)⟩)⟩)⟩)⟩)⟩)⟩)⟩), il_wsX100⟩)⟩)
set_option maxRecDepth 20000 in
theorem il_wsX10_proofCharacter : ∀ w ∈ wsX10_proofCharacter, w ∈ lw_tbl2 := by
  delta wsX10_proofCharacter
  exact (List.forall_mem_cons.mpr ⟨tw_1293, (List.forall_mem_append.mpr ⟨(List.forall_mem_cons.mpr ⟨tw_1119, (List.forall_mem_cons.mpr ⟨tw_925, (List.forall_mem_cons.mpr ⟨tw_1144, (List.forall_mem_cons.mpr ⟨tw_1143, (List.forall_mem_cons.mpr ⟨tw_1142, (List.forall_mem_cons.mpr ⟨tw_946, (List.forall_mem_cons.mpr ⟨tw_1141, (List.forall_mem_cons.mpr ⟨tw_944, (List.forall_mem_cons.mpr ⟨tw_943, (List.forall_mem_cons.mpr ⟨tw_942, (List.forall_mem_cons.mpr ⟨tw_941, (List.forall_mem_cons.mpr ⟨tw_1299, (List.forall_mem_cons.mpr ⟨tw_1298, (List.forall_mem_cons.mpr ⟨tw_1297, (List.forall_mem_cons.mpr ⟨tw_1131, (List.forall_mem_cons.mpr ⟨tw_1296, (List.forall_mem_cons.mpr ⟨tw_1295, (List.forall_mem_cons.mpr ⟨tw_1294, (fun _ h => absurd h List.not_mem_nil)⟩)⟩)⟩)⟩)⟩)⟩)⟩)⟩)⟩)⟩)⟩)⟩)⟩)⟩)⟩)⟩)⟩)⟩), il_wsX100⟩)⟩)
set_option maxRecDepth 20000 in
theorem il_wsX10_proofs : ∀ w ∈ wsX10_proofs, w ∈ lw_tbl2 := by
  delta wsX10_proofs
  exact (List.forall_mem_cons.mpr ⟨tw_1300, (List.forall_mem_append.mpr ⟨(List.forall_mem_cons.mpr ⟨tw_925, (List.forall_mem_cons.mpr ⟨tw_944, (fun _ h => absurd h List.not_mem_nil)⟩)⟩), il_wsX100⟩)⟩)
set_option maxRecDepth 20000 in
theorem il_wsX10_received : ∀ w ∈ wsX10_received, w ∈ lw_tbl2 := by
  delta wsX10_received
  exact (List.forall_mem_cons.mpr ⟨tw_1301, (List.forall_mem_append.mpr ⟨(List.forall_mem_cons.mpr ⟨tw_925, (List.forall_mem_cons.mpr ⟨tw_944, (fun _ h => absurd h List.not_mem_nil)⟩)⟩), il_wsX100⟩)⟩)
set_option maxRecDepth 20000 in
theorem il_wsX10_refunded : ∀ w ∈ wsX10_refunded, w ∈ lw_tbl2 := by
  delta wsX10_refunded
  exact (List.forall_mem_cons.mpr ⟨tw_1302, (List.forall_mem_append.mpr ⟨(List.forall_mem_cons.mpr ⟨tw_925, (List.forall_mem_cons.mpr ⟨tw_944, (fun _ h => absurd h List.not_mem_nil)⟩)⟩), il_wsX100⟩)⟩)
set_option maxRecDepth 20000 in
theorem il_wsX10_remaining_r1 : ∀ w ∈ wsX10_remaining_r1, w ∈ lw_tbl2 := by
  delta wsX10_remaining_r1
  exact (List.forall_mem_cons.mpr ⟨tw_949, (List.forall_mem_cons.mpr ⟨tw_948, (List.forall_mem_cons.mpr ⟨tw_947, (List.forall_mem_cons.mpr ⟨tw_946, (List.forall_mem_cons.mpr ⟨tw_945, (List.forall_mem_cons.mpr ⟨tw_944, (List.forall_mem_cons.mpr ⟨tw_943, (List.forall_mem_cons.mpr ⟨tw_942, (List.forall_mem_cons.mpr ⟨tw_941, (List.forall_mem_cons.mpr ⟨tw_1006, (List.forall_mem_cons.mpr ⟨tw_1005, (List.forall_mem_cons.mpr ⟨tw_1004, (List.forall_mem_cons.mpr ⟨tw_1003, (List.forall_mem_cons.mpr ⟨tw_925, (List.forall_mem_cons.mpr ⟨tw_1001, (List.forall_mem_cons.mpr ⟨tw_1000, (List.forall_mem_cons.mpr ⟨tw_999, (List.forall_mem_cons.mpr ⟨tw_998, (List.forall_mem_cons.mpr ⟨tw_940, (List.forall_mem_cons.mpr ⟨tw_939, (List.forall_mem_cons.mpr ⟨tw_938, (List.forall_mem_cons.mpr ⟨tw_937, (List.forall_mem_cons.mpr ⟨tw_936, (List.forall_mem_cons.mpr ⟨tw_935, (fun _ h => absurd h List.not_mem_nil)⟩)⟩)⟩)⟩)⟩)⟩)⟩)⟩)⟩)⟩)⟩)⟩)⟩)⟩)⟩)⟩)⟩)⟩)⟩)⟩)⟩)⟩)⟩)⟩)
set_option maxRecDepth 20000 in
theorem il_wsX10_remaining_r2 : ∀ w ∈ wsX10_remaining_r2, w ∈ lw_tbl2 := by
  delta wsX10_remaining_r2
  exact (List.forall_mem_cons.mpr ⟨tw_934, (List.forall_mem_cons.mpr ⟨tw_933, (fun _ h => absurd h List.not_mem_nil)⟩)⟩)
set_option maxRecDepth 20000 in
theorem il_wsX10_remaining : ∀ w ∈ wsX10_remaining, w ∈ lw_tbl2 := by
  delta wsX10_remaining
  exact (List.forall_mem_cons.mpr ⟨tw_1303, (List.forall_mem_append.mpr ⟨(List.forall_mem_append.mpr ⟨il_wsX10_remaining_r1, il_wsX10_remaining_r2⟩), il_wsX100⟩)⟩)
set_option maxRecDepth 20000 in
theorem il_wsX10_resolve_r1 : ∀ w ∈ wsX10_resolve_r1, w ∈ lw_tbl2 := by
  delta wsX10_resolve_r1
  exact (List.forall_mem_cons.mpr ⟨tw_1311, (List.forall_mem_cons.mpr ⟨tw_1310, (List.forall_mem_cons.mpr ⟨tw_946, (List.forall_mem_cons.mpr ⟨tw_1309, (List.forall_mem_cons.mpr ⟨tw_1292, (List.forall_mem_cons.mpr ⟨tw_943, (List.forall_mem_cons.mpr ⟨tw_942, (List.forall_mem_cons.mpr ⟨tw_941, (List.forall_mem_cons.mpr ⟨tw_1308, (List.forall_mem_cons.mpr ⟨tw_1307, (List.forall_mem_cons.mpr ⟨tw_1306, (List.forall_mem_cons.mpr ⟨tw_1305, (List.forall_mem_cons.mpr ⟨tw_925, (List.forall_mem_cons.mpr ⟨tw_949, (List.forall_mem_cons.mpr ⟨tw_948, (List.forall_mem_cons.mpr ⟨tw_947, (List.forall_mem_cons.mpr ⟨tw_945, (List.forall_mem_cons.mpr ⟨tw_944, (List.forall_mem_cons.mpr ⟨tw_932, (List.forall_mem_cons.mpr ⟨tw_931, (List.forall_mem_cons.mpr ⟨tw_930, (List.forall_mem_cons.mpr ⟨tw_929, (List.forall_mem_cons.mpr ⟨tw_936, (List.forall_mem_cons.mpr ⟨tw_935, (fun _ h => absurd h List.not_mem_nil)⟩)⟩)⟩)⟩)⟩)⟩)⟩)⟩)⟩)⟩)⟩)⟩)⟩)⟩)⟩)⟩)⟩)⟩)⟩)⟩)⟩)⟩)⟩)⟩)
set_option maxRecDepth 20000 in
theorem il_wsX10_resolve_r2 : ∀ w ∈ wsX10_resolve_r2, w ∈ lw_tbl2 := by
  delta wsX10_resolve_r2
  exact (List.forall_mem_cons.mpr ⟨tw_934, (List.forall_mem_cons.mpr ⟨tw_933, (List.forall_mem_cons.mpr ⟨tw_928, (List.forall_mem_cons.mpr ⟨tw_927, (List.forall_mem_cons.mpr ⟨tw_972, (List.forall_mem_cons.mpr ⟨tw_971, (List.forall_mem_cons.mpr ⟨tw_970, (List.forall_mem_cons.mpr ⟨tw_969, (List.forall_mem_cons.mpr ⟨tw_968, (List.forall_mem_cons.mpr ⟨tw_924, (List.forall_mem_cons.mpr ⟨tw_1315, (List.forall_mem_cons.mpr ⟨tw_1314, (List.forall_mem_cons.mpr ⟨tw_1313, (List.forall_mem_cons.mpr ⟨tw_1312, (List.forall_mem_cons.mpr ⟨tw_1063, (List.forall_mem_cons.mpr ⟨tw_33, (List.forall_mem_cons.mpr ⟨tw_32, (List.forall_mem_cons.mpr ⟨tw_31, (List.forall_mem_cons.mpr ⟨tw_1001, (List.forall_mem_cons.mpr ⟨tw_1000, (List.forall_mem_cons.mpr ⟨tw_999, (List.forall_mem_cons.mpr ⟨tw_998, (List.forall_mem_cons.mpr ⟨tw_940, (List.forall_mem_cons.mpr ⟨tw_939, (fun _ h => absurd h List.not_mem_nil)⟩)⟩)⟩)⟩)⟩)⟩)⟩)⟩)⟩)⟩)⟩)⟩)⟩)⟩)⟩)⟩)⟩)⟩)⟩)⟩)⟩)⟩)⟩)⟩)
set_option maxRecDepth 20000 in
theorem il_wsX10_resolve_r3 : ∀ w ∈ wsX10_resolve_r3, w ∈ lw_tbl2 := by
  delta wsX10_resolve_r3
  exact (List.forall_mem_cons.mpr ⟨tw_938, (List.forall_mem_cons.mpr ⟨tw_937, (List.forall_mem_cons.mpr ⟨tw_983, (List.forall_mem_cons.mpr ⟨tw_982, (List.forall_mem_cons.mpr ⟨tw_981, (List.forall_mem_cons.mpr ⟨tw_980, (List.forall_mem_cons.mpr ⟨tw_1319, (List.forall_mem_cons.mpr ⟨tw_1318, (List.forall_mem_cons.mpr ⟨tw_1317, (List.forall_mem_cons.mpr ⟨tw_1316, (List.forall_mem_cons.mpr ⟨tw_967, (List.forall_mem_cons.mpr ⟨tw_966, (List.forall_mem_cons.mpr ⟨tw_965, (List.forall_mem_cons.mpr ⟨tw_964, (List.forall_mem_cons.mpr ⟨tw_1080, (List.forall_mem_cons.mpr ⟨tw_1079, (List.forall_mem_cons.mpr ⟨tw_1078, (List.forall_mem_cons.mpr ⟨tw_1077, (List.forall_mem_cons.mpr ⟨tw_1076, (List.forall_mem_cons.mpr ⟨tw_1075, (List.forall_mem_cons.mpr ⟨tw_1074, (List.forall_mem_cons.mpr ⟨tw_1073, (List.forall_mem_cons.mpr ⟨tw_1038, (List.forall_mem_cons.mpr ⟨tw_1013, (fun _ h => absurd h List.not_mem_nil)⟩)⟩)⟩)⟩)⟩)⟩)⟩)⟩)⟩)⟩)⟩)⟩)⟩)⟩)⟩)⟩)⟩)⟩)⟩)⟩)⟩)⟩)⟩)⟩)
set_option maxRecDepth 20000 in
theorem il_wsX10_resolve_r4 : ∀ w ∈ wsX10_resolve_r4, w ∈ lw_tbl2 := by
  delta wsX10_resolve_r4
  exact (List.forall_mem_cons.mpr ⟨tw_1012, (List.forall_mem_cons.mpr ⟨tw_1011, (List.forall_mem_cons.mpr ⟨tw_1017, (List.forall_mem_cons.mpr ⟨tw_1016, (List.forall_mem_cons.mpr ⟨tw_1015, (List.forall_mem_cons.mpr ⟨tw_1014, (fun _ h => absurd h List.not_mem_nil)⟩)⟩)⟩)⟩)⟩)⟩)
set_option maxRecDepth 20000 in
theorem il_wsX10_resolve : ∀ w ∈ wsX10_resolve, w ∈ lw_tbl2 := by
  delta wsX10_resolve
  exact (List.forall_mem_cons.mpr ⟨tw_1304, (List.forall_mem_append.mpr ⟨(List.forall_mem_append.mpr ⟨il_wsX10_resolve_r1, (List.forall_mem_append.mpr ⟨il_wsX10_resolve_r2, (List.forall_mem_append.mpr ⟨il_wsX10_resolve_r3, il_wsX10_resolve_r4⟩)⟩)⟩), il_wsX100⟩)⟩)
set_option maxRecDepth 20000 in
theorem il_wsX10_setGrace : ∀ w ∈ wsX10_setGrace, w ∈ lw_tbl2 := by
  delta wsX10_setGrace
  exact (List.forall_mem_cons.mpr ⟨tw_1320, (List.forall_mem_append.mpr ⟨(List.forall_mem_cons.mpr ⟨tw_1321, (List.forall_mem_cons.mpr ⟨tw_944, (List.forall_mem_cons.mpr ⟨tw_943, (List.forall_mem_cons.mpr ⟨tw_942, (List.forall_mem_cons.mpr ⟨tw_946, (List.forall_mem_cons.mpr ⟨tw_941, (List.forall_mem_cons.mpr ⟨tw_1006, (List.forall_mem_cons.mpr ⟨tw_1005, (List.forall_mem_cons.mpr ⟨tw_1004, (List.forall_mem_cons.mpr ⟨tw_1003, (List.forall_mem_cons.mpr ⟨tw_925, (List.forall_mem_cons.mpr ⟨tw_928, (List.forall_mem_cons.mpr ⟨tw_927, (List.forall_mem_cons.mpr ⟨tw_972, (List.forall_mem_cons.mpr ⟨tw_971, (List.forall_mem_cons.mpr ⟨tw_970, (List.forall_mem_cons.mpr ⟨tw_969, (List.forall_mem_cons.mpr ⟨tw_968, (List.forall_mem_cons.mpr ⟨tw_924, (fun _ h => absurd h List.not_mem_nil)⟩)⟩)⟩)⟩)⟩)⟩)⟩)⟩)⟩)⟩)⟩)⟩)⟩)⟩)⟩)⟩)⟩)⟩)⟩), il_wsX100⟩)⟩)
set_option maxRecDepth 20000 in
theorem il_wsX10_setRate : ∀ w ∈ wsX10_setRate, w ∈ lw_tbl2 := by
  delta wsX10_setRate
  exact (List.forall_mem_cons.mpr ⟨tw_1322, (List.forall_mem_append.mpr ⟨(List.forall_mem_cons.mpr ⟨tw_1323, (List.forall_mem_cons.mpr ⟨tw_944, (List.forall_mem_cons.mpr ⟨tw_943, (List.forall_mem_cons.mpr ⟨tw_942, (List.forall_mem_cons.mpr ⟨tw_946, (List.forall_mem_cons.mpr ⟨tw_941, (List.forall_mem_cons.mpr ⟨tw_1006, (List.forall_mem_cons.mpr ⟨tw_1005, (List.forall_mem_cons.mpr ⟨tw_1004, (List.forall_mem_cons.mpr ⟨tw_1003, (List.forall_mem_cons.mpr ⟨tw_925, (List.forall_mem_cons.mpr ⟨tw_928, (List.forall_mem_cons.mpr ⟨tw_927, (List.forall_mem_cons.mpr ⟨tw_972, (List.forall_mem_cons.mpr ⟨tw_971, (List.forall_mem_cons.mpr ⟨tw_970, (List.forall_mem_cons.mpr ⟨tw_969, (List.forall_mem_cons.mpr ⟨tw_968, (List.forall_mem_cons.mpr ⟨tw_924, (fun _ h => absurd h List.not_mem_nil)⟩)⟩)⟩)⟩)⟩)⟩)⟩)⟩)⟩)⟩)⟩)⟩)⟩)⟩)⟩)⟩)⟩)⟩)⟩), il_wsX100⟩)⟩)
set_option maxRecDepth 20000 in
theorem il_wsX10_shareFor_r1 : ∀ w ∈ wsX10_shareFor_r1, w ∈ lw_tbl2 := by
  delta wsX10_shareFor_r1
  exact (List.forall_mem_cons.mpr ⟨tw_1090, (List.forall_mem_cons.mpr ⟨tw_943, (List.forall_mem_cons.mpr ⟨tw_942, (List.forall_mem_cons.mpr ⟨tw_946, (List.forall_mem_cons.mpr ⟨tw_941, (List.forall_mem_cons.mpr ⟨tw_1308, (List.forall_mem_cons.mpr ⟨tw_1307, (List.forall_mem_cons.mpr ⟨tw_1306, (List.forall_mem_cons.mpr ⟨tw_1305, (List.forall_mem_cons.mpr ⟨tw_925, (List.forall_mem_cons.mpr ⟨tw_949, (List.forall_mem_cons.mpr ⟨tw_948, (List.forall_mem_cons.mpr ⟨tw_947, (List.forall_mem_cons.mpr ⟨tw_945, (List.forall_mem_cons.mpr ⟨tw_944, (List.forall_mem_cons.mpr ⟨tw_932, (List.forall_mem_cons.mpr ⟨tw_931, (List.forall_mem_cons.mpr ⟨tw_930, (List.forall_mem_cons.mpr ⟨tw_929, (List.forall_mem_cons.mpr ⟨tw_936, (List.forall_mem_cons.mpr ⟨tw_935, (List.forall_mem_cons.mpr ⟨tw_934, (List.forall_mem_cons.mpr ⟨tw_933, (List.forall_mem_cons.mpr ⟨tw_1319, (fun _ h => absurd h List.not_mem_nil)⟩)⟩)⟩)⟩)⟩)⟩)⟩)⟩)⟩)⟩)⟩)⟩)⟩)⟩)⟩)⟩)⟩)⟩)⟩)⟩)⟩)⟩)⟩)⟩)
set_option maxRecDepth 20000 in
theorem il_wsX10_shareFor_r2 : ∀ w ∈ wsX10_shareFor_r2, w ∈ lw_tbl2 := by
  delta wsX10_shareFor_r2
  exact (List.forall_mem_cons.mpr ⟨tw_1318, (List.forall_mem_cons.mpr ⟨tw_1317, (List.forall_mem_cons.mpr ⟨tw_1316, (List.forall_mem_cons.mpr ⟨tw_1292, (List.forall_mem_cons.mpr ⟨tw_1315, (List.forall_mem_cons.mpr ⟨tw_1314, (List.forall_mem_cons.mpr ⟨tw_1313, (List.forall_mem_cons.mpr ⟨tw_1312, (List.forall_mem_cons.mpr ⟨tw_1063, (List.forall_mem_cons.mpr ⟨tw_33, (List.forall_mem_cons.mpr ⟨tw_32, (List.forall_mem_cons.mpr ⟨tw_31, (List.forall_mem_cons.mpr ⟨tw_1001, (List.forall_mem_cons.mpr ⟨tw_1000, (List.forall_mem_cons.mpr ⟨tw_999, (List.forall_mem_cons.mpr ⟨tw_998, (List.forall_mem_cons.mpr ⟨tw_940, (List.forall_mem_cons.mpr ⟨tw_939, (List.forall_mem_cons.mpr ⟨tw_938, (List.forall_mem_cons.mpr ⟨tw_937, (List.forall_mem_cons.mpr ⟨tw_983, (List.forall_mem_cons.mpr ⟨tw_982, (List.forall_mem_cons.mpr ⟨tw_981, (List.forall_mem_cons.mpr ⟨tw_980, (fun _ h => absurd h List.not_mem_nil)⟩)⟩)⟩)⟩)⟩)⟩)⟩)⟩)⟩)⟩)⟩)⟩)⟩)⟩)⟩)⟩)⟩)⟩)⟩)⟩)⟩)⟩)⟩)⟩)
set_option maxRecDepth 20000 in
theorem il_wsX10_shareFor_r3 : ∀ w ∈ wsX10_shareFor_r3, w ∈ lw_tbl2 := by
  delta wsX10_shareFor_r3
  exact (List.forall_mem_cons.mpr ⟨tw_1076, (List.forall_mem_cons.mpr ⟨tw_1075, (List.forall_mem_cons.mpr ⟨tw_1074, (List.forall_mem_cons.mpr ⟨tw_1073, (List.forall_mem_cons.mpr ⟨tw_1038, (fun _ h => absurd h List.not_mem_nil)⟩)⟩)⟩)⟩)⟩)
set_option maxRecDepth 20000 in
theorem il_wsX10_shareFor : ∀ w ∈ wsX10_shareFor, w ∈ lw_tbl2 := by
  delta wsX10_shareFor
  exact (List.forall_mem_cons.mpr ⟨tw_1324, (List.forall_mem_append.mpr ⟨(List.forall_mem_append.mpr ⟨il_wsX10_shareFor_r1, (List.forall_mem_append.mpr ⟨il_wsX10_shareFor_r2, il_wsX10_shareFor_r3⟩)⟩), il_wsX100⟩)⟩)
set_option maxRecDepth 20000 in
theorem il_wsX10_shortDay_r1 : ∀ w ∈ wsX10_shortDay_r1, w ∈ lw_tbl2 := by
  delta wsX10_shortDay_r1
  exact (List.forall_mem_cons.mpr ⟨tw_944, (List.forall_mem_cons.mpr ⟨tw_1033, (List.forall_mem_cons.mpr ⟨tw_1032, (List.forall_mem_cons.mpr ⟨tw_946, (List.forall_mem_cons.mpr ⟨tw_1031, (List.forall_mem_cons.mpr ⟨tw_1030, (List.forall_mem_cons.mpr ⟨tw_943, (List.forall_mem_cons.mpr ⟨tw_942, (List.forall_mem_cons.mpr ⟨tw_941, (List.forall_mem_cons.mpr ⟨tw_1006, (List.forall_mem_cons.mpr ⟨tw_1005, (List.forall_mem_cons.mpr ⟨tw_1004, (List.forall_mem_cons.mpr ⟨tw_1003, (List.forall_mem_cons.mpr ⟨tw_925, (List.forall_mem_cons.mpr ⟨tw_1029, (List.forall_mem_cons.mpr ⟨tw_1028, (List.forall_mem_cons.mpr ⟨tw_1027, (List.forall_mem_cons.mpr ⟨tw_1026, (List.forall_mem_cons.mpr ⟨tw_1025, (List.forall_mem_cons.mpr ⟨tw_924, (List.forall_mem_cons.mpr ⟨tw_1024, (List.forall_mem_cons.mpr ⟨tw_1023, (List.forall_mem_cons.mpr ⟨tw_1022, (List.forall_mem_cons.mpr ⟨tw_1021, (fun _ h => absurd h List.not_mem_nil)⟩)⟩)⟩)⟩)⟩)⟩)⟩)⟩)⟩)⟩)⟩)⟩)⟩)⟩)⟩)⟩)⟩)⟩)⟩)⟩)⟩)⟩)⟩)⟩)
set_option maxRecDepth 20000 in
theorem il_wsX10_shortDay_r2 : ∀ w ∈ wsX10_shortDay_r2, w ∈ lw_tbl2 := by
  delta wsX10_shortDay_r2
  exact (List.forall_mem_cons.mpr ⟨tw_1046, (List.forall_mem_cons.mpr ⟨tw_1045, (List.forall_mem_cons.mpr ⟨tw_1044, (List.forall_mem_cons.mpr ⟨tw_1043, (List.forall_mem_cons.mpr ⟨tw_1042, (List.forall_mem_cons.mpr ⟨tw_1041, (List.forall_mem_cons.mpr ⟨tw_1040, (List.forall_mem_cons.mpr ⟨tw_1039, (List.forall_mem_cons.mpr ⟨tw_1038, (List.forall_mem_cons.mpr ⟨tw_1013, (List.forall_mem_cons.mpr ⟨tw_1012, (List.forall_mem_cons.mpr ⟨tw_1011, (List.forall_mem_cons.mpr ⟨tw_1037, (List.forall_mem_cons.mpr ⟨tw_1036, (List.forall_mem_cons.mpr ⟨tw_1035, (List.forall_mem_cons.mpr ⟨tw_1034, (List.forall_mem_cons.mpr ⟨tw_959, (List.forall_mem_cons.mpr ⟨tw_958, (List.forall_mem_cons.mpr ⟨tw_957, (List.forall_mem_cons.mpr ⟨tw_956, (List.forall_mem_cons.mpr ⟨tw_936, (List.forall_mem_cons.mpr ⟨tw_935, (List.forall_mem_cons.mpr ⟨tw_934, (List.forall_mem_cons.mpr ⟨tw_933, (fun _ h => absurd h List.not_mem_nil)⟩)⟩)⟩)⟩)⟩)⟩)⟩)⟩)⟩)⟩)⟩)⟩)⟩)⟩)⟩)⟩)⟩)⟩)⟩)⟩)⟩)⟩)⟩)⟩)
set_option maxRecDepth 20000 in
theorem il_wsX10_shortDay_r3 : ∀ w ∈ wsX10_shortDay_r3, w ∈ lw_tbl2 := by
  delta wsX10_shortDay_r3
  exact (List.forall_mem_cons.mpr ⟨tw_955, (List.forall_mem_cons.mpr ⟨tw_954, (List.forall_mem_cons.mpr ⟨tw_953, (List.forall_mem_cons.mpr ⟨tw_952, (List.forall_mem_cons.mpr ⟨tw_951, (List.forall_mem_cons.mpr ⟨tw_950, (List.forall_mem_cons.mpr ⟨tw_978, (List.forall_mem_cons.mpr ⟨tw_977, (List.forall_mem_cons.mpr ⟨tw_976, (List.forall_mem_cons.mpr ⟨tw_975, (List.forall_mem_cons.mpr ⟨tw_974, (List.forall_mem_cons.mpr ⟨tw_973, (List.forall_mem_cons.mpr ⟨tw_967, (List.forall_mem_cons.mpr ⟨tw_966, (List.forall_mem_cons.mpr ⟨tw_965, (List.forall_mem_cons.mpr ⟨tw_964, (List.forall_mem_cons.mpr ⟨tw_1054, (List.forall_mem_cons.mpr ⟨tw_1053, (List.forall_mem_cons.mpr ⟨tw_1052, (List.forall_mem_cons.mpr ⟨tw_1051, (List.forall_mem_cons.mpr ⟨tw_1064, (List.forall_mem_cons.mpr ⟨tw_1063, (List.forall_mem_cons.mpr ⟨tw_33, (List.forall_mem_cons.mpr ⟨tw_32, (fun _ h => absurd h List.not_mem_nil)⟩)⟩)⟩)⟩)⟩)⟩)⟩)⟩)⟩)⟩)⟩)⟩)⟩)⟩)⟩)⟩)⟩)⟩)⟩)⟩)⟩)⟩)⟩)⟩)
set_option maxRecDepth 20000 in
theorem il_wsX10_shortDay_r4 : ∀ w ∈ wsX10_shortDay_r4, w ∈ lw_tbl2 := by
  delta wsX10_shortDay_r4
  exact (List.forall_mem_cons.mpr ⟨tw_31, (List.forall_mem_cons.mpr ⟨tw_1062, (List.forall_mem_cons.mpr ⟨tw_1061, (List.forall_mem_cons.mpr ⟨tw_1060, (List.forall_mem_cons.mpr ⟨tw_1059, (List.forall_mem_cons.mpr ⟨tw_1058, (List.forall_mem_cons.mpr ⟨tw_1057, (List.forall_mem_cons.mpr ⟨tw_1056, (List.forall_mem_cons.mpr ⟨tw_1055, (List.forall_mem_cons.mpr ⟨tw_1001, (List.forall_mem_cons.mpr ⟨tw_1000, (List.forall_mem_cons.mpr ⟨tw_999, (List.forall_mem_cons.mpr ⟨tw_998, (List.forall_mem_cons.mpr ⟨tw_940, (List.forall_mem_cons.mpr ⟨tw_939, (List.forall_mem_cons.mpr ⟨tw_938, (List.forall_mem_cons.mpr ⟨tw_937, (List.forall_mem_cons.mpr ⟨tw_983, (List.forall_mem_cons.mpr ⟨tw_982, (List.forall_mem_cons.mpr ⟨tw_981, (List.forall_mem_cons.mpr ⟨tw_980, (List.forall_mem_cons.mpr ⟨tw_1084, (List.forall_mem_cons.mpr ⟨tw_1083, (List.forall_mem_cons.mpr ⟨tw_1082, (fun _ h => absurd h List.not_mem_nil)⟩)⟩)⟩)⟩)⟩)⟩)⟩)⟩)⟩)⟩)⟩)⟩)⟩)⟩)⟩)⟩)⟩)⟩)⟩)⟩)⟩)⟩)⟩)⟩)
set_option maxRecDepth 20000 in
theorem il_wsX10_shortDay_r5 : ∀ w ∈ wsX10_shortDay_r5, w ∈ lw_tbl2 := by
  delta wsX10_shortDay_r5
  exact (List.forall_mem_cons.mpr ⟨tw_1081, (List.forall_mem_cons.mpr ⟨tw_1080, (List.forall_mem_cons.mpr ⟨tw_1079, (List.forall_mem_cons.mpr ⟨tw_1078, (List.forall_mem_cons.mpr ⟨tw_1077, (List.forall_mem_cons.mpr ⟨tw_1076, (List.forall_mem_cons.mpr ⟨tw_1075, (List.forall_mem_cons.mpr ⟨tw_1074, (List.forall_mem_cons.mpr ⟨tw_1073, (List.forall_mem_cons.mpr ⟨tw_1072, (List.forall_mem_cons.mpr ⟨tw_1071, (List.forall_mem_cons.mpr ⟨tw_1070, (List.forall_mem_cons.mpr ⟨tw_1069, (List.forall_mem_cons.mpr ⟨tw_1329, (List.forall_mem_cons.mpr ⟨tw_1328, (List.forall_mem_cons.mpr ⟨tw_1327, (List.forall_mem_cons.mpr ⟨tw_1326, (List.forall_mem_cons.mpr ⟨tw_1068, (List.forall_mem_cons.mpr ⟨tw_1067, (List.forall_mem_cons.mpr ⟨tw_1066, (List.forall_mem_cons.mpr ⟨tw_1065, (fun _ h => absurd h List.not_mem_nil)⟩)⟩)⟩)⟩)⟩)⟩)⟩)⟩)⟩)⟩)⟩)⟩)⟩)⟩)⟩)⟩)⟩)⟩)⟩)⟩)⟩)
set_option maxRecDepth 20000 in
theorem il_wsX10_shortDay : ∀ w ∈ wsX10_shortDay, w ∈ lw_tbl2 := by
  delta wsX10_shortDay
  exact (List.forall_mem_cons.mpr ⟨tw_1325, (List.forall_mem_append.mpr ⟨(List.forall_mem_append.mpr ⟨il_wsX10_shortDay_r1, (List.forall_mem_append.mpr ⟨il_wsX10_shortDay_r2, (List.forall_mem_append.mpr ⟨il_wsX10_shortDay_r3, (List.forall_mem_append.mpr ⟨il_wsX10_shortDay_r4, il_wsX10_shortDay_r5⟩)⟩)⟩)⟩), il_wsX100⟩)⟩)
set_option maxRecDepth 20000 in
theorem il_wsX10_shortage : ∀ w ∈ wsX10_shortage, w ∈ lw_tbl2 := by
  delta wsX10_shortage
  exact (List.forall_mem_cons.mpr ⟨tw_1330, (List.forall_mem_append.mpr ⟨(List.forall_mem_cons.mpr ⟨tw_925, (List.forall_mem_cons.mpr ⟨tw_944, (List.forall_mem_cons.mpr ⟨tw_1112, (List.forall_mem_cons.mpr ⟨tw_273, (List.forall_mem_cons.mpr ⟨tw_32, (List.forall_mem_cons.mpr ⟨tw_272, (List.forall_mem_cons.mpr ⟨tw_1001, (List.forall_mem_cons.mpr ⟨tw_1000, (List.forall_mem_cons.mpr ⟨tw_999, (List.forall_mem_cons.mpr ⟨tw_946, (List.forall_mem_cons.mpr ⟨tw_998, (List.forall_mem_cons.mpr ⟨tw_940, (List.forall_mem_cons.mpr ⟨tw_939, (List.forall_mem_cons.mpr ⟨tw_938, (List.forall_mem_cons.mpr ⟨tw_937, (List.forall_mem_cons.mpr ⟨tw_936, (List.forall_mem_cons.mpr ⟨tw_935, (List.forall_mem_cons.mpr ⟨tw_934, (List.forall_mem_cons.mpr ⟨tw_933, (fun _ h => absurd h List.not_mem_nil)⟩)⟩)⟩)⟩)⟩)⟩)⟩)⟩)⟩)⟩)⟩)⟩)⟩)⟩)⟩)⟩)⟩)⟩)⟩), il_wsX100⟩)⟩)
set_option maxRecDepth 20000 in
theorem il_wsX10_splitPayment_r1 : ∀ w ∈ wsX10_splitPayment_r1, w ∈ lw_tbl2 := by
  delta wsX10_splitPayment_r1
  exact (List.forall_mem_cons.mpr ⟨tw_1311, (List.forall_mem_cons.mpr ⟨tw_1310, (List.forall_mem_cons.mpr ⟨tw_946, (List.forall_mem_cons.mpr ⟨tw_1309, (List.forall_mem_cons.mpr ⟨tw_1292, (List.forall_mem_cons.mpr ⟨tw_943, (List.forall_mem_cons.mpr ⟨tw_942, (List.forall_mem_cons.mpr ⟨tw_941, (List.forall_mem_cons.mpr ⟨tw_1308, (List.forall_mem_cons.mpr ⟨tw_1307, (List.forall_mem_cons.mpr ⟨tw_1306, (List.forall_mem_cons.mpr ⟨tw_1305, (List.forall_mem_cons.mpr ⟨tw_925, (List.forall_mem_cons.mpr ⟨tw_949, (List.forall_mem_cons.mpr ⟨tw_948, (List.forall_mem_cons.mpr ⟨tw_947, (List.forall_mem_cons.mpr ⟨tw_945, (List.forall_mem_cons.mpr ⟨tw_944, (List.forall_mem_cons.mpr ⟨tw_932, (List.forall_mem_cons.mpr ⟨tw_931, (List.forall_mem_cons.mpr ⟨tw_930, (List.forall_mem_cons.mpr ⟨tw_929, (List.forall_mem_cons.mpr ⟨tw_936, (List.forall_mem_cons.mpr ⟨tw_935, (fun _ h => absurd h List.not_mem_nil)⟩)⟩)⟩)⟩)⟩)⟩)⟩)⟩)⟩)⟩)⟩)⟩)⟩)⟩)⟩)⟩)⟩)⟩)⟩)⟩)⟩)⟩)⟩)⟩)
set_option maxRecDepth 20000 in
theorem il_wsX10_splitPayment_r2 : ∀ w ∈ wsX10_splitPayment_r2, w ∈ lw_tbl2 := by
  delta wsX10_splitPayment_r2
  exact (List.forall_mem_cons.mpr ⟨tw_934, (List.forall_mem_cons.mpr ⟨tw_933, (List.forall_mem_cons.mpr ⟨tw_1319, (List.forall_mem_cons.mpr ⟨tw_1318, (List.forall_mem_cons.mpr ⟨tw_1317, (List.forall_mem_cons.mpr ⟨tw_1316, (List.forall_mem_cons.mpr ⟨tw_1315, (List.forall_mem_cons.mpr ⟨tw_1314, (List.forall_mem_cons.mpr ⟨tw_1313, (List.forall_mem_cons.mpr ⟨tw_1312, (List.forall_mem_cons.mpr ⟨tw_1063, (List.forall_mem_cons.mpr ⟨tw_33, (List.forall_mem_cons.mpr ⟨tw_32, (List.forall_mem_cons.mpr ⟨tw_31, (List.forall_mem_cons.mpr ⟨tw_1001, (List.forall_mem_cons.mpr ⟨tw_1000, (List.forall_mem_cons.mpr ⟨tw_999, (List.forall_mem_cons.mpr ⟨tw_998, (List.forall_mem_cons.mpr ⟨tw_940, (List.forall_mem_cons.mpr ⟨tw_939, (List.forall_mem_cons.mpr ⟨tw_938, (List.forall_mem_cons.mpr ⟨tw_937, (List.forall_mem_cons.mpr ⟨tw_983, (List.forall_mem_cons.mpr ⟨tw_982, (fun _ h => absurd h List.not_mem_nil)⟩)⟩)⟩)⟩)⟩)⟩)⟩)⟩)⟩)⟩)⟩)⟩)⟩)⟩)⟩)⟩)⟩)⟩)⟩)⟩)⟩)⟩)⟩)⟩)
set_option maxRecDepth 20000 in
theorem il_wsX10_splitPayment_r3 : ∀ w ∈ wsX10_splitPayment_r3, w ∈ lw_tbl2 := by
  delta wsX10_splitPayment_r3
  exact (List.forall_mem_cons.mpr ⟨tw_981, (List.forall_mem_cons.mpr ⟨tw_980, (fun _ h => absurd h List.not_mem_nil)⟩)⟩)
set_option maxRecDepth 20000 in
theorem il_wsX10_splitPayment : ∀ w ∈ wsX10_splitPayment, w ∈ lw_tbl2 := by
  delta wsX10_splitPayment
  exact (List.forall_mem_cons.mpr ⟨tw_1331, (List.forall_mem_append.mpr ⟨(List.forall_mem_append.mpr ⟨il_wsX10_splitPayment_r1, (List.forall_mem_append.mpr ⟨il_wsX10_splitPayment_r2, il_wsX10_splitPayment_r3⟩)⟩), il_wsX100⟩)⟩)
set_option maxRecDepth 20000 in
theorem il_wsX10_state : ∀ w ∈ wsX10_state, w ∈ lw_tbl2 := by
  delta wsX10_state
  exact (List.forall_mem_cons.mpr ⟨tw_1332, (List.forall_mem_append.mpr ⟨(List.forall_mem_cons.mpr ⟨tw_949, (List.forall_mem_cons.mpr ⟨tw_948, (List.forall_mem_cons.mpr ⟨tw_947, (List.forall_mem_cons.mpr ⟨tw_946, (List.forall_mem_cons.mpr ⟨tw_945, (List.forall_mem_cons.mpr ⟨tw_944, (List.forall_mem_cons.mpr ⟨tw_943, (List.forall_mem_cons.mpr ⟨tw_942, (List.forall_mem_cons.mpr ⟨tw_941, (List.forall_mem_cons.mpr ⟨tw_1006, (List.forall_mem_cons.mpr ⟨tw_1005, (List.forall_mem_cons.mpr ⟨tw_1004, (List.forall_mem_cons.mpr ⟨tw_1003, (List.forall_mem_cons.mpr ⟨tw_925, (List.forall_mem_cons.mpr ⟨tw_936, (List.forall_mem_cons.mpr ⟨tw_935, (List.forall_mem_cons.mpr ⟨tw_934, (List.forall_mem_cons.mpr ⟨tw_933, (fun _ h => absurd h List.not_mem_nil)⟩)⟩)⟩)⟩)⟩)⟩)⟩)⟩)⟩)⟩)⟩)⟩)⟩)⟩)⟩)⟩)⟩)⟩), il_wsX100⟩)⟩)
set_option maxRecDepth 20000 in
theorem il_wsX10_submit : ∀ w ∈ wsX10_submit, w ∈ lw_tbl2 := by
  delta wsX10_submit
  exact (List.forall_mem_cons.mpr ⟨tw_1333, (List.forall_mem_append.mpr ⟨(List.forall_mem_cons.mpr ⟨tw_944, (List.forall_mem_cons.mpr ⟨tw_1144, (List.forall_mem_cons.mpr ⟨tw_1143, (List.forall_mem_cons.mpr ⟨tw_1142, (List.forall_mem_cons.mpr ⟨tw_946, (List.forall_mem_cons.mpr ⟨tw_1141, (List.forall_mem_cons.mpr ⟨tw_943, (List.forall_mem_cons.mpr ⟨tw_942, (List.forall_mem_cons.mpr ⟨tw_941, (List.forall_mem_cons.mpr ⟨tw_1006, (List.forall_mem_cons.mpr ⟨tw_1005, (List.forall_mem_cons.mpr ⟨tw_1004, (List.forall_mem_cons.mpr ⟨tw_1003, (List.forall_mem_cons.mpr ⟨tw_925, (List.forall_mem_cons.mpr ⟨tw_928, (List.forall_mem_cons.mpr ⟨tw_927, (List.forall_mem_cons.mpr ⟨tw_972, (List.forall_mem_cons.mpr ⟨tw_971, (List.forall_mem_cons.mpr ⟨tw_970, (List.forall_mem_cons.mpr ⟨tw_969, (List.forall_mem_cons.mpr ⟨tw_968, (List.forall_mem_cons.mpr ⟨tw_924, (fun _ h => absurd h List.not_mem_nil)⟩)⟩)⟩)⟩)⟩)⟩)⟩)⟩)⟩)⟩)⟩)⟩)⟩)⟩)⟩)⟩)⟩)⟩)⟩)⟩)⟩)⟩), il_wsX100⟩)⟩)
set_option maxRecDepth 20000 in
theorem il_wsX10_totalOn : ∀ w ∈ wsX10_totalOn, w ∈ lw_tbl2 := by
  delta wsX10_totalOn
  exact (List.forall_mem_cons.mpr ⟨tw_1334, (List.forall_mem_append.mpr ⟨(List.forall_mem_cons.mpr ⟨tw_1335, (List.forall_mem_cons.mpr ⟨tw_943, (List.forall_mem_cons.mpr ⟨tw_942, (List.forall_mem_cons.mpr ⟨tw_946, (List.forall_mem_cons.mpr ⟨tw_941, (List.forall_mem_cons.mpr ⟨tw_1006, (List.forall_mem_cons.mpr ⟨tw_1005, (List.forall_mem_cons.mpr ⟨tw_1004, (List.forall_mem_cons.mpr ⟨tw_1003, (List.forall_mem_cons.mpr ⟨tw_925, (List.forall_mem_cons.mpr ⟨tw_988, (List.forall_mem_cons.mpr ⟨tw_987, (List.forall_mem_cons.mpr ⟨tw_986, (List.forall_mem_cons.mpr ⟨tw_985, (List.forall_mem_cons.mpr ⟨tw_944, (List.forall_mem_cons.mpr ⟨tw_992, (List.forall_mem_cons.mpr ⟨tw_991, (List.forall_mem_cons.mpr ⟨tw_990, (List.forall_mem_cons.mpr ⟨tw_989, (fun _ h => absurd h List.not_mem_nil)⟩)⟩)⟩)⟩)⟩)⟩)⟩)⟩)⟩)⟩)⟩)⟩)⟩)⟩)⟩)⟩)⟩)⟩)⟩), il_wsX100⟩)⟩)
set_option maxRecDepth 20000 in
theorem il_wsX10_undo : ∀ w ∈ wsX10_undo, w ∈ lw_tbl2 := by
  delta wsX10_undo
  exact (List.forall_mem_cons.mpr ⟨tw_1336, (List.forall_mem_append.mpr ⟨(List.forall_mem_cons.mpr ⟨tw_925, (List.forall_mem_cons.mpr ⟨tw_970, (List.forall_mem_cons.mpr ⟨tw_944, (List.forall_mem_cons.mpr ⟨tw_969, (List.forall_mem_cons.mpr ⟨tw_968, (List.forall_mem_cons.mpr ⟨tw_924, (fun _ h => absurd h List.not_mem_nil)⟩)⟩)⟩)⟩)⟩)⟩), il_wsX100⟩)⟩)
set_option maxRecDepth 20000 in
theorem il_wsX10_withdraw_r1 : ∀ w ∈ wsX10_withdraw_r1, w ∈ lw_tbl2 := by
  delta wsX10_withdraw_r1
  exact (List.forall_mem_cons.mpr ⟨tw_949, (List.forall_mem_cons.mpr ⟨tw_948, (List.forall_mem_cons.mpr ⟨tw_947, (List.forall_mem_cons.mpr ⟨tw_946, (List.forall_mem_cons.mpr ⟨tw_945, (List.forall_mem_cons.mpr ⟨tw_944, (List.forall_mem_cons.mpr ⟨tw_943, (List.forall_mem_cons.mpr ⟨tw_942, (List.forall_mem_cons.mpr ⟨tw_941, (List.forall_mem_cons.mpr ⟨tw_936, (List.forall_mem_cons.mpr ⟨tw_935, (List.forall_mem_cons.mpr ⟨tw_934, (List.forall_mem_cons.mpr ⟨tw_933, (List.forall_mem_cons.mpr ⟨tw_932, (List.forall_mem_cons.mpr ⟨tw_931, (List.forall_mem_cons.mpr ⟨tw_930, (List.forall_mem_cons.mpr ⟨tw_929, (List.forall_mem_cons.mpr ⟨tw_925, (List.forall_mem_cons.mpr ⟨tw_928, (List.forall_mem_cons.mpr ⟨tw_927, (List.forall_mem_cons.mpr ⟨tw_972, (List.forall_mem_cons.mpr ⟨tw_971, (List.forall_mem_cons.mpr ⟨tw_970, (List.forall_mem_cons.mpr ⟨tw_969, (fun _ h => absurd h List.not_mem_nil)⟩)⟩)⟩)⟩)⟩)⟩)⟩)⟩)⟩)⟩)⟩)⟩)⟩)⟩)⟩)⟩)⟩)⟩)⟩)⟩)⟩)⟩)⟩)⟩)
set_option maxRecDepth 20000 in
theorem il_wsX10_withdraw_r2 : ∀ w ∈ wsX10_withdraw_r2, w ∈ lw_tbl2 := by
  delta wsX10_withdraw_r2
  exact (List.forall_mem_cons.mpr ⟨tw_968, (List.forall_mem_cons.mpr ⟨tw_924, (List.forall_mem_cons.mpr ⟨tw_967, (List.forall_mem_cons.mpr ⟨tw_966, (List.forall_mem_cons.mpr ⟨tw_965, (List.forall_mem_cons.mpr ⟨tw_964, (List.forall_mem_cons.mpr ⟨tw_983, (List.forall_mem_cons.mpr ⟨tw_982, (List.forall_mem_cons.mpr ⟨tw_981, (List.forall_mem_cons.mpr ⟨tw_980, (fun _ h => absurd h List.not_mem_nil)⟩)⟩)⟩)⟩)⟩)⟩)⟩)⟩)⟩)⟩)
set_option maxRecDepth 20000 in
theorem il_wsX10_withdraw : ∀ w ∈ wsX10_withdraw, w ∈ lw_tbl2 := by
  delta wsX10_withdraw
  exact (List.forall_mem_cons.mpr ⟨tw_1337, (List.forall_mem_append.mpr ⟨(List.forall_mem_append.mpr ⟨il_wsX10_withdraw_r1, il_wsX10_withdraw_r2⟩), il_wsX100⟩)⟩)
set_option maxRecDepth 20000 in
theorem il_wsX10_wouldHold_r1 : ∀ w ∈ wsX10_wouldHold_r1, w ∈ lw_tbl2 := by
  delta wsX10_wouldHold_r1
  exact (List.forall_mem_cons.mpr ⟨tw_944, (List.forall_mem_cons.mpr ⟨tw_943, (List.forall_mem_cons.mpr ⟨tw_942, (List.forall_mem_cons.mpr ⟨tw_946, (List.forall_mem_cons.mpr ⟨tw_941, (List.forall_mem_cons.mpr ⟨tw_949, (List.forall_mem_cons.mpr ⟨tw_948, (List.forall_mem_cons.mpr ⟨tw_947, (List.forall_mem_cons.mpr ⟨tw_945, (List.forall_mem_cons.mpr ⟨tw_932, (List.forall_mem_cons.mpr ⟨tw_931, (List.forall_mem_cons.mpr ⟨tw_930, (List.forall_mem_cons.mpr ⟨tw_929, (List.forall_mem_cons.mpr ⟨tw_925, (List.forall_mem_cons.mpr ⟨tw_959, (List.forall_mem_cons.mpr ⟨tw_958, (List.forall_mem_cons.mpr ⟨tw_957, (List.forall_mem_cons.mpr ⟨tw_956, (List.forall_mem_cons.mpr ⟨tw_936, (List.forall_mem_cons.mpr ⟨tw_935, (List.forall_mem_cons.mpr ⟨tw_934, (List.forall_mem_cons.mpr ⟨tw_933, (List.forall_mem_cons.mpr ⟨tw_955, (List.forall_mem_cons.mpr ⟨tw_954, (fun _ h => absurd h List.not_mem_nil)⟩)⟩)⟩)⟩)⟩)⟩)⟩)⟩)⟩)⟩)⟩)⟩)⟩)⟩)⟩)⟩)⟩)⟩)⟩)⟩)⟩)⟩)⟩)⟩)
set_option maxRecDepth 20000 in
theorem il_wsX10_wouldHold_r2 : ∀ w ∈ wsX10_wouldHold_r2, w ∈ lw_tbl2 := by
  delta wsX10_wouldHold_r2
  exact (List.forall_mem_cons.mpr ⟨tw_953, (List.forall_mem_cons.mpr ⟨tw_952, (List.forall_mem_cons.mpr ⟨tw_951, (List.forall_mem_cons.mpr ⟨tw_950, (List.forall_mem_cons.mpr ⟨tw_978, (List.forall_mem_cons.mpr ⟨tw_977, (List.forall_mem_cons.mpr ⟨tw_976, (List.forall_mem_cons.mpr ⟨tw_975, (List.forall_mem_cons.mpr ⟨tw_974, (List.forall_mem_cons.mpr ⟨tw_973, (fun _ h => absurd h List.not_mem_nil)⟩)⟩)⟩)⟩)⟩)⟩)⟩)⟩)⟩)⟩)
set_option maxRecDepth 20000 in
theorem il_wsX10_wouldHold : ∀ w ∈ wsX10_wouldHold, w ∈ lw_tbl2 := by
  delta wsX10_wouldHold
  exact (List.forall_mem_cons.mpr ⟨tw_1338, (List.forall_mem_append.mpr ⟨(List.forall_mem_append.mpr ⟨il_wsX10_wouldHold_r1, il_wsX10_wouldHold_r2⟩), il_wsX100⟩)⟩)
set_option maxRecDepth 20000 in
theorem il_wsX10_write_r1 : ∀ w ∈ wsX10_write_r1, w ∈ lw_tbl2 := by
  delta wsX10_write_r1
  exact (List.forall_mem_cons.mpr ⟨tw_1341, (List.forall_mem_cons.mpr ⟨tw_1121, (List.forall_mem_cons.mpr ⟨tw_949, (List.forall_mem_cons.mpr ⟨tw_948, (List.forall_mem_cons.mpr ⟨tw_947, (List.forall_mem_cons.mpr ⟨tw_946, (List.forall_mem_cons.mpr ⟨tw_945, (List.forall_mem_cons.mpr ⟨tw_944, (List.forall_mem_cons.mpr ⟨tw_943, (List.forall_mem_cons.mpr ⟨tw_942, (List.forall_mem_cons.mpr ⟨tw_941, (List.forall_mem_cons.mpr ⟨tw_1006, (List.forall_mem_cons.mpr ⟨tw_1005, (List.forall_mem_cons.mpr ⟨tw_1004, (List.forall_mem_cons.mpr ⟨tw_1003, (List.forall_mem_cons.mpr ⟨tw_925, (List.forall_mem_cons.mpr ⟨tw_1299, (List.forall_mem_cons.mpr ⟨tw_1298, (List.forall_mem_cons.mpr ⟨tw_1297, (List.forall_mem_cons.mpr ⟨tw_1131, (List.forall_mem_cons.mpr ⟨tw_1296, (List.forall_mem_cons.mpr ⟨tw_1295, (List.forall_mem_cons.mpr ⟨tw_1294, (List.forall_mem_cons.mpr ⟨tw_1340, (fun _ h => absurd h List.not_mem_nil)⟩)⟩)⟩)⟩)⟩)⟩)⟩)⟩)⟩)⟩)⟩)⟩)⟩)⟩)⟩)⟩)⟩)⟩)⟩)⟩)⟩)⟩)⟩)⟩)
set_option maxRecDepth 20000 in
theorem il_wsX10_write_r2 : ∀ w ∈ wsX10_write_r2, w ∈ lw_tbl2 := by
  delta wsX10_write_r2
  exact (List.forall_mem_cons.mpr ⟨tw_1352, (List.forall_mem_cons.mpr ⟨tw_1351, (List.forall_mem_cons.mpr ⟨tw_1350, (List.forall_mem_cons.mpr ⟨tw_1135, (List.forall_mem_cons.mpr ⟨tw_936, (List.forall_mem_cons.mpr ⟨tw_935, (List.forall_mem_cons.mpr ⟨tw_934, (List.forall_mem_cons.mpr ⟨tw_933, (List.forall_mem_cons.mpr ⟨tw_1349, (List.forall_mem_cons.mpr ⟨tw_1348, (List.forall_mem_cons.mpr ⟨tw_1347, (List.forall_mem_cons.mpr ⟨tw_1346, (List.forall_mem_cons.mpr ⟨tw_1345, (List.forall_mem_cons.mpr ⟨tw_1344, (List.forall_mem_cons.mpr ⟨tw_1343, (List.forall_mem_cons.mpr ⟨tw_1342, (List.forall_mem_cons.mpr ⟨tw_339, (List.forall_mem_cons.mpr ⟨tw_338, (List.forall_mem_cons.mpr ⟨tw_337, (List.forall_mem_cons.mpr ⟨tw_336, (List.forall_mem_cons.mpr ⟨tw_383, (List.forall_mem_cons.mpr ⟨tw_382, (List.forall_mem_cons.mpr ⟨tw_381, (List.forall_mem_cons.mpr ⟨tw_380, (fun _ h => absurd h List.not_mem_nil)⟩)⟩)⟩)⟩)⟩)⟩)⟩)⟩)⟩)⟩)⟩)⟩)⟩)⟩)⟩)⟩)⟩)⟩)⟩)⟩)⟩)⟩)⟩)⟩)
set_option maxRecDepth 20000 in
theorem il_wsX10_write_r3 : ∀ w ∈ wsX10_write_r3, w ∈ lw_tbl2 := by
  delta wsX10_write_r3
  exact (List.forall_mem_cons.mpr ⟨tw_379, (List.forall_mem_cons.mpr ⟨tw_378, (List.forall_mem_cons.mpr ⟨tw_377, (List.forall_mem_cons.mpr ⟨tw_1129, (List.forall_mem_cons.mpr ⟨tw_375, (List.forall_mem_cons.mpr ⟨tw_374, (List.forall_mem_cons.mpr ⟨tw_373, (List.forall_mem_cons.mpr ⟨tw_372, (List.forall_mem_cons.mpr ⟨tw_371, (List.forall_mem_cons.mpr ⟨tw_370, (List.forall_mem_cons.mpr ⟨tw_369, (List.forall_mem_cons.mpr ⟨tw_368, (List.forall_mem_cons.mpr ⟨tw_367, (List.forall_mem_cons.mpr ⟨tw_366, (List.forall_mem_cons.mpr ⟨tw_365, (List.forall_mem_cons.mpr ⟨tw_364, (List.forall_mem_cons.mpr ⟨tw_363, (List.forall_mem_cons.mpr ⟨tw_362, (List.forall_mem_cons.mpr ⟨tw_361, (List.forall_mem_cons.mpr ⟨tw_360, (List.forall_mem_cons.mpr ⟨tw_407, (List.forall_mem_cons.mpr ⟨tw_406, (List.forall_mem_cons.mpr ⟨tw_405, (List.forall_mem_cons.mpr ⟨tw_404, (fun _ h => absurd h List.not_mem_nil)⟩)⟩)⟩)⟩)⟩)⟩)⟩)⟩)⟩)⟩)⟩)⟩)⟩)⟩)⟩)⟩)⟩)⟩)⟩)⟩)⟩)⟩)⟩)⟩)
set_option maxRecDepth 20000 in
theorem il_wsX10_write_r4 : ∀ w ∈ wsX10_write_r4, w ∈ lw_tbl2 := by
  delta wsX10_write_r4
  exact (List.forall_mem_cons.mpr ⟨tw_403, (List.forall_mem_cons.mpr ⟨tw_402, (List.forall_mem_cons.mpr ⟨tw_401, (List.forall_mem_cons.mpr ⟨tw_400, (List.forall_mem_cons.mpr ⟨tw_399, (List.forall_mem_cons.mpr ⟨tw_398, (List.forall_mem_cons.mpr ⟨tw_397, (List.forall_mem_cons.mpr ⟨tw_396, (List.forall_mem_cons.mpr ⟨tw_395, (List.forall_mem_cons.mpr ⟨tw_394, (List.forall_mem_cons.mpr ⟨tw_393, (List.forall_mem_cons.mpr ⟨tw_392, (List.forall_mem_cons.mpr ⟨tw_391, (List.forall_mem_cons.mpr ⟨tw_390, (List.forall_mem_cons.mpr ⟨tw_389, (List.forall_mem_cons.mpr ⟨tw_388, (List.forall_mem_cons.mpr ⟨tw_1356, (List.forall_mem_cons.mpr ⟨tw_1355, (List.forall_mem_cons.mpr ⟨tw_1354, (List.forall_mem_cons.mpr ⟨tw_1353, (fun _ h => absurd h List.not_mem_nil)⟩)⟩)⟩)⟩)⟩)⟩)⟩)⟩)⟩)⟩)⟩)⟩)⟩)⟩)⟩)⟩)⟩)⟩)⟩)⟩)
set_option maxRecDepth 20000 in
theorem il_wsX10_write : ∀ w ∈ wsX10_write, w ∈ lw_tbl2 := by
  delta wsX10_write
  exact (List.forall_mem_cons.mpr ⟨tw_1339, (List.forall_mem_append.mpr ⟨(List.forall_mem_append.mpr ⟨(List.forall_mem_append.mpr ⟨il_wsX10_write_r1, (List.forall_mem_append.mpr ⟨il_wsX10_write_r2, (List.forall_mem_append.mpr ⟨il_wsX10_write_r3, il_wsX10_write_r4⟩)⟩)⟩), il_wsX100⟩), il_wsJ00⟩)⟩)
set_option maxRecDepth 20000 in
theorem il_wsX10_written : ∀ w ∈ wsX10_written, w ∈ lw_tbl2 := by
  delta wsX10_written
  exact (List.forall_mem_cons.mpr ⟨tw_1357, (List.forall_mem_append.mpr ⟨(List.forall_mem_cons.mpr ⟨tw_1341, (List.forall_mem_cons.mpr ⟨tw_1135, (List.forall_mem_cons.mpr ⟨tw_943, (List.forall_mem_cons.mpr ⟨tw_942, (List.forall_mem_cons.mpr ⟨tw_946, (List.forall_mem_cons.mpr ⟨tw_941, (List.forall_mem_cons.mpr ⟨tw_1006, (List.forall_mem_cons.mpr ⟨tw_1005, (List.forall_mem_cons.mpr ⟨tw_1004, (List.forall_mem_cons.mpr ⟨tw_1003, (List.forall_mem_cons.mpr ⟨tw_925, (fun _ h => absurd h List.not_mem_nil)⟩)⟩)⟩)⟩)⟩)⟩)⟩)⟩)⟩)⟩)⟩), il_wsX100⟩)⟩)
set_option maxRecDepth 20000 in
theorem il_wsX9_accruedParts : ∀ w ∈ wsX9_accruedParts, w ∈ lw_tbl2 := by
  delta wsX9_accruedParts
  exact (List.forall_mem_cons.mpr ⟨tw_1358, (List.forall_mem_append.mpr ⟨(List.forall_mem_append.mpr ⟨(List.forall_mem_cons.mpr ⟨tw_17, (fun _ h => absurd h List.not_mem_nil)⟩), il_wsX90⟩), il_wsX00⟩)⟩)
set_option maxRecDepth 20000 in
theorem il_wsX9_available : ∀ w ∈ wsX9_available, w ∈ lw_tbl2 := by
  delta wsX9_available
  exact (List.forall_mem_cons.mpr ⟨tw_1359, (List.forall_mem_append.mpr ⟨(List.forall_mem_append.mpr ⟨(List.forall_mem_append.mpr ⟨(List.forall_mem_cons.mpr ⟨tw_17, (List.forall_mem_cons.mpr ⟨tw_570, (List.forall_mem_cons.mpr ⟨tw_204, (List.forall_mem_cons.mpr ⟨tw_203, (List.forall_mem_cons.mpr ⟨tw_2, (List.forall_mem_cons.mpr ⟨tw_202, (List.forall_mem_cons.mpr ⟨tw_63, (List.forall_mem_cons.mpr ⟨tw_26, (List.forall_mem_cons.mpr ⟨tw_67, (fun _ h => absurd h List.not_mem_nil)⟩)⟩)⟩)⟩)⟩)⟩)⟩)⟩)⟩), il_wsX90⟩), il_wsX00⟩), il_wsX30⟩)⟩)
set_option maxRecDepth 20000 in
theorem il_wsX9_busiestDay : ∀ w ∈ wsX9_busiestDay, w ∈ lw_tbl2 := by
  delta wsX9_busiestDay
  exact (List.forall_mem_cons.mpr ⟨tw_1360, (List.forall_mem_append.mpr ⟨(List.forall_mem_append.mpr ⟨(List.forall_mem_append.mpr ⟨(List.forall_mem_cons.mpr ⟨tw_17, (List.forall_mem_cons.mpr ⟨tw_1364, (List.forall_mem_cons.mpr ⟨tw_1363, (List.forall_mem_cons.mpr ⟨tw_1362, (List.forall_mem_cons.mpr ⟨tw_96, (List.forall_mem_cons.mpr ⟨tw_1361, (List.forall_mem_cons.mpr ⟨tw_91, (List.forall_mem_cons.mpr ⟨tw_674, (List.forall_mem_cons.mpr ⟨tw_259, (List.forall_mem_cons.mpr ⟨tw_258, (List.forall_mem_cons.mpr ⟨tw_257, (List.forall_mem_cons.mpr ⟨tw_92, (List.forall_mem_cons.mpr ⟨tw_94, (fun _ h => absurd h List.not_mem_nil)⟩)⟩)⟩)⟩)⟩)⟩)⟩)⟩)⟩)⟩)⟩)⟩)⟩), il_wsX90⟩), il_wsX00⟩), il_wsX20⟩)⟩)
set_option maxRecDepth 20000 in
theorem il_wsX9_closedCount : ∀ w ∈ wsX9_closedCount, w ∈ lw_tbl2 := by
  delta wsX9_closedCount
  exact (List.forall_mem_cons.mpr ⟨tw_129, (List.forall_mem_append.mpr ⟨(List.forall_mem_append.mpr ⟨(List.forall_mem_append.mpr ⟨(List.forall_mem_cons.mpr ⟨tw_11, (List.forall_mem_cons.mpr ⟨tw_17, (List.forall_mem_cons.mpr ⟨tw_5, (List.forall_mem_cons.mpr ⟨tw_4, (List.forall_mem_cons.mpr ⟨tw_3, (List.forall_mem_cons.mpr ⟨tw_2, (List.forall_mem_cons.mpr ⟨tw_1, (List.forall_mem_cons.mpr ⟨tw_48, (fun _ h => absurd h List.not_mem_nil)⟩)⟩)⟩)⟩)⟩)⟩)⟩)⟩), il_wsX90⟩), il_wsX30⟩), il_wsX00⟩)⟩)
set_option maxRecDepth 20000 in
theorem il_wsX9_credited : ∀ w ∈ wsX9_credited, w ∈ lw_tbl2 := by
  delta wsX9_credited
  exact (List.forall_mem_cons.mpr ⟨tw_1365, (List.forall_mem_append.mpr ⟨(List.forall_mem_append.mpr ⟨(List.forall_mem_cons.mpr ⟨tw_17, (fun _ h => absurd h List.not_mem_nil)⟩), il_wsX90⟩), il_wsX00⟩)⟩)
set_option maxRecDepth 20000 in
theorem il_wsX9_day : ∀ w ∈ wsX9_day, w ∈ lw_tbl2 := by
  delta wsX9_day
  exact (List.forall_mem_cons.mpr ⟨tw_1366, (List.forall_mem_append.mpr ⟨(List.forall_mem_append.mpr ⟨(List.forall_mem_cons.mpr ⟨tw_17, (fun _ h => absurd h List.not_mem_nil)⟩), il_wsX90⟩), il_wsX00⟩)⟩)
set_option maxRecDepth 20000 in
theorem il_wsX9_deposited : ∀ w ∈ wsX9_deposited, w ∈ lw_tbl2 := by
  delta wsX9_deposited
  exact (List.forall_mem_cons.mpr ⟨tw_1367, (List.forall_mem_append.mpr ⟨(List.forall_mem_append.mpr ⟨(List.forall_mem_cons.mpr ⟨tw_17, (fun _ h => absurd h List.not_mem_nil)⟩), il_wsX90⟩), il_wsX00⟩)⟩)
set_option maxRecDepth 20000 in
theorem il_wsX9_entries : ∀ w ∈ wsX9_entries, w ∈ lw_tbl2 := by
  delta wsX9_entries
  exact (List.forall_mem_cons.mpr ⟨tw_1368, (List.forall_mem_append.mpr ⟨(List.forall_mem_append.mpr ⟨(List.forall_mem_append.mpr ⟨(List.forall_mem_cons.mpr ⟨tw_17, (fun _ h => absurd h List.not_mem_nil)⟩), il_wsX90⟩), il_wsX00⟩), il_wsX20⟩)⟩)
set_option maxRecDepth 20000 in
theorem il_wsX9_errorKind : ∀ w ∈ wsX9_errorKind, w ∈ lw_tbl2 := by
  delta wsX9_errorKind
  exact (List.forall_mem_cons.mpr ⟨tw_1369, (List.forall_mem_append.mpr ⟨(List.forall_mem_append.mpr ⟨(List.forall_mem_cons.mpr ⟨tw_306, (fun _ h => absurd h List.not_mem_nil)⟩), il_wsX90⟩), il_wsX40⟩)⟩)
set_option maxRecDepth 20000 in
theorem il_wsX9_errorPosition : ∀ w ∈ wsX9_errorPosition, w ∈ lw_tbl2 := by
  delta wsX9_errorPosition
  exact (List.forall_mem_cons.mpr ⟨tw_1370, (List.forall_mem_append.mpr ⟨(List.forall_mem_append.mpr ⟨(List.forall_mem_cons.mpr ⟨tw_306, (fun _ h => absurd h List.not_mem_nil)⟩), il_wsX90⟩), il_wsX40⟩)⟩)
set_option maxRecDepth 20000 in
theorem il_wsX9_feed : ∀ w ∈ wsX9_feed, w ∈ lw_tbl2 := by
  delta wsX9_feed
  exact (List.forall_mem_cons.mpr ⟨tw_1371, (List.forall_mem_append.mpr ⟨(List.forall_mem_cons.mpr ⟨tw_307, (List.forall_mem_cons.mpr ⟨tw_1375, (List.forall_mem_cons.mpr ⟨tw_1374, (List.forall_mem_cons.mpr ⟨tw_1373, (List.forall_mem_cons.mpr ⟨tw_19, (List.forall_mem_cons.mpr ⟨tw_1372, (List.forall_mem_cons.mpr ⟨tw_305, (fun _ h => absurd h List.not_mem_nil)⟩)⟩)⟩)⟩)⟩)⟩)⟩), il_wsX90⟩)⟩)
set_option maxRecDepth 20000 in
theorem il_wsX9_fees : ∀ w ∈ wsX9_fees, w ∈ lw_tbl2 := by
  delta wsX9_fees
  exact (List.forall_mem_cons.mpr ⟨tw_1376, (List.forall_mem_append.mpr ⟨(List.forall_mem_append.mpr ⟨(List.forall_mem_cons.mpr ⟨tw_17, (fun _ h => absurd h List.not_mem_nil)⟩), il_wsX90⟩), il_wsX00⟩)⟩)
set_option maxRecDepth 20000 in
theorem il_wsX9_init_r1 : ∀ w ∈ wsX9_init_r1, w ∈ lw_tbl2 := by
  delta wsX9_init_r1
  exact (List.forall_mem_cons.mpr ⟨tw_1388, (List.forall_mem_cons.mpr ⟨tw_1127, (List.forall_mem_cons.mpr ⟨tw_1126, (List.forall_mem_cons.mpr ⟨tw_1387, (List.forall_mem_cons.mpr ⟨tw_305, (List.forall_mem_cons.mpr ⟨tw_1386, (List.forall_mem_cons.mpr ⟨tw_1385, (List.forall_mem_cons.mpr ⟨tw_76, (List.forall_mem_cons.mpr ⟨tw_11, (List.forall_mem_cons.mpr ⟨tw_304, (List.forall_mem_cons.mpr ⟨tw_1384, (List.forall_mem_cons.mpr ⟨tw_1383, (List.forall_mem_cons.mpr ⟨tw_300, (List.forall_mem_cons.mpr ⟨tw_306, (List.forall_mem_cons.mpr ⟨tw_1382, (List.forall_mem_cons.mpr ⟨tw_1381, (List.forall_mem_cons.mpr ⟨tw_2, (List.forall_mem_cons.mpr ⟨tw_17, (List.forall_mem_cons.mpr ⟨tw_157, (List.forall_mem_cons.mpr ⟨tw_1380, (List.forall_mem_cons.mpr ⟨tw_1379, (List.forall_mem_cons.mpr ⟨tw_39, (List.forall_mem_cons.mpr ⟨tw_16, (List.forall_mem_cons.mpr ⟨tw_1378, (fun _ h => absurd h List.not_mem_nil)⟩)⟩)⟩)⟩)⟩)⟩)⟩)⟩)⟩)⟩)⟩)⟩)⟩)⟩)⟩)⟩)⟩)⟩)⟩)⟩)⟩)⟩)⟩)⟩)
set_option maxRecDepth 20000 in
theorem il_wsX9_init_r2 : ∀ w ∈ wsX9_init_r2, w ∈ lw_tbl2 := by
  delta wsX9_init_r2
  exact (List.forall_mem_cons.mpr ⟨tw_755, (List.forall_mem_cons.mpr ⟨tw_701, (List.forall_mem_cons.mpr ⟨tw_705, (List.forall_mem_cons.mpr ⟨tw_1397, (List.forall_mem_cons.mpr ⟨tw_1396, (List.forall_mem_cons.mpr ⟨tw_1395, (List.forall_mem_cons.mpr ⟨tw_427, (List.forall_mem_cons.mpr ⟨tw_1125, (List.forall_mem_cons.mpr ⟨tw_470, (List.forall_mem_cons.mpr ⟨tw_1123, (List.forall_mem_cons.mpr ⟨tw_498, (List.forall_mem_cons.mpr ⟨tw_504, (List.forall_mem_cons.mpr ⟨tw_506, (List.forall_mem_cons.mpr ⟨tw_505, (List.forall_mem_cons.mpr ⟨tw_515, (List.forall_mem_cons.mpr ⟨tw_105, (List.forall_mem_cons.mpr ⟨tw_106, (List.forall_mem_cons.mpr ⟨tw_107, (List.forall_mem_cons.mpr ⟨tw_1394, (List.forall_mem_cons.mpr ⟨tw_1393, (List.forall_mem_cons.mpr ⟨tw_1392, (List.forall_mem_cons.mpr ⟨tw_1391, (List.forall_mem_cons.mpr ⟨tw_1390, (List.forall_mem_cons.mpr ⟨tw_1389, (fun _ h => absurd h List.not_mem_nil)⟩)⟩)⟩)⟩)⟩)⟩)⟩)⟩)⟩)⟩)⟩)⟩)⟩)⟩)⟩)⟩)⟩)⟩)⟩)⟩)⟩)⟩)⟩)⟩)
set_option maxRecDepth 20000 in
theorem il_wsX9_init_r3 : ∀ w ∈ wsX9_init_r3, w ∈ lw_tbl2 := by
  delta wsX9_init_r3
  exact (List.forall_mem_cons.mpr ⟨tw_328, (List.forall_mem_cons.mpr ⟨tw_298, (List.forall_mem_cons.mpr ⟨tw_334, (List.forall_mem_cons.mpr ⟨tw_333, (List.forall_mem_cons.mpr ⟨tw_335, (List.forall_mem_cons.mpr ⟨tw_1406, (List.forall_mem_cons.mpr ⟨tw_1405, (List.forall_mem_cons.mpr ⟨tw_1404, (List.forall_mem_cons.mpr ⟨tw_317, (List.forall_mem_cons.mpr ⟨tw_352, (List.forall_mem_cons.mpr ⟨tw_318, (List.forall_mem_cons.mpr ⟨tw_1403, (List.forall_mem_cons.mpr ⟨tw_1402, (List.forall_mem_cons.mpr ⟨tw_1401, (List.forall_mem_cons.mpr ⟨tw_1400, (List.forall_mem_cons.mpr ⟨tw_1399, (List.forall_mem_cons.mpr ⟨tw_1398, (List.forall_mem_cons.mpr ⟨tw_96, (List.forall_mem_cons.mpr ⟨tw_25, (List.forall_mem_cons.mpr ⟨tw_48, (List.forall_mem_cons.mpr ⟨tw_68, (List.forall_mem_cons.mpr ⟨tw_67, (List.forall_mem_cons.mpr ⟨tw_66, (List.forall_mem_cons.mpr ⟨tw_26, (fun _ h => absurd h List.not_mem_nil)⟩)⟩)⟩)⟩)⟩)⟩)⟩)⟩)⟩)⟩)⟩)⟩)⟩)⟩)⟩)⟩)⟩)⟩)⟩)⟩)⟩)⟩)⟩)⟩)
set_option maxRecDepth 20000 in
theorem il_wsX9_init_r4 : ∀ w ∈ wsX9_init_r4, w ∈ lw_tbl2 := by
  delta wsX9_init_r4
  exact (List.forall_mem_cons.mpr ⟨tw_1422, (List.forall_mem_cons.mpr ⟨tw_1421, (List.forall_mem_cons.mpr ⟨tw_1420, (List.forall_mem_cons.mpr ⟨tw_94, (List.forall_mem_cons.mpr ⟨tw_1419, (List.forall_mem_cons.mpr ⟨tw_1418, (List.forall_mem_cons.mpr ⟨tw_1417, (List.forall_mem_cons.mpr ⟨tw_1416, (List.forall_mem_cons.mpr ⟨tw_1415, (List.forall_mem_cons.mpr ⟨tw_37, (List.forall_mem_cons.mpr ⟨tw_1414, (List.forall_mem_cons.mpr ⟨tw_1413, (List.forall_mem_cons.mpr ⟨tw_1412, (List.forall_mem_cons.mpr ⟨tw_1411, (List.forall_mem_cons.mpr ⟨tw_1410, (List.forall_mem_cons.mpr ⟨tw_1409, (List.forall_mem_cons.mpr ⟨tw_730, (List.forall_mem_cons.mpr ⟨tw_1408, (List.forall_mem_cons.mpr ⟨tw_1407, (List.forall_mem_cons.mpr ⟨tw_766, (List.forall_mem_cons.mpr ⟨tw_735, (List.forall_mem_cons.mpr ⟨tw_724, (List.forall_mem_cons.mpr ⟨tw_717, (List.forall_mem_cons.mpr ⟨tw_800, (fun _ h => absurd h List.not_mem_nil)⟩)⟩)⟩)⟩)⟩)⟩)⟩)⟩)⟩)⟩)⟩)⟩)⟩)⟩)⟩)⟩)⟩)⟩)⟩)⟩)⟩)⟩)⟩)⟩)
set_option maxRecDepth 20000 in
theorem il_wsX9_init_r5 : ∀ w ∈ wsX9_init_r5, w ∈ lw_tbl2 := by
  delta wsX9_init_r5
  exact (List.forall_mem_cons.mpr ⟨tw_799, (List.forall_mem_cons.mpr ⟨tw_402, (List.forall_mem_cons.mpr ⟨tw_798, (List.forall_mem_cons.mpr ⟨tw_797, (List.forall_mem_cons.mpr ⟨tw_796, (List.forall_mem_cons.mpr ⟨tw_795, (List.forall_mem_cons.mpr ⟨tw_794, (List.forall_mem_cons.mpr ⟨tw_502, (List.forall_mem_cons.mpr ⟨tw_501, (List.forall_mem_cons.mpr ⟨tw_500, (List.forall_mem_cons.mpr ⟨tw_525, (List.forall_mem_cons.mpr ⟨tw_65, (List.forall_mem_cons.mpr ⟨tw_64, (List.forall_mem_cons.mpr ⟨tw_63, (List.forall_mem_cons.mpr ⟨tw_62, (List.forall_mem_cons.mpr ⟨tw_61, (List.forall_mem_cons.mpr ⟨tw_60, (List.forall_mem_cons.mpr ⟨tw_59, (List.forall_mem_cons.mpr ⟨tw_58, (List.forall_mem_cons.mpr ⟨tw_57, (List.forall_mem_cons.mpr ⟨tw_56, (List.forall_mem_cons.mpr ⟨tw_55, (List.forall_mem_cons.mpr ⟨tw_54, (List.forall_mem_cons.mpr ⟨tw_53, (fun _ h => absurd h List.not_mem_nil)⟩)⟩)⟩)⟩)⟩)⟩)⟩)⟩)⟩)⟩)⟩)⟩)⟩)⟩)⟩)⟩)⟩)⟩)⟩)⟩)⟩)⟩)⟩)⟩)
set_option maxRecDepth 20000 in
theorem il_wsX9_init_r6 : ∀ w ∈ wsX9_init_r6, w ∈ lw_tbl2 := by
  delta wsX9_init_r6
  exact (List.forall_mem_cons.mpr ⟨tw_52, (List.forall_mem_cons.mpr ⟨tw_524, (List.forall_mem_cons.mpr ⟨tw_523, (List.forall_mem_cons.mpr ⟨tw_532, (List.forall_mem_cons.mpr ⟨tw_531, (List.forall_mem_cons.mpr ⟨tw_92, (List.forall_mem_cons.mpr ⟨tw_91, (List.forall_mem_cons.mpr ⟨tw_530, (List.forall_mem_cons.mpr ⟨tw_232, (List.forall_mem_cons.mpr ⟨tw_231, (List.forall_mem_cons.mpr ⟨tw_230, (List.forall_mem_cons.mpr ⟨tw_141, (List.forall_mem_cons.mpr ⟨tw_140, (List.forall_mem_cons.mpr ⟨tw_139, (List.forall_mem_cons.mpr ⟨tw_138, (List.forall_mem_cons.mpr ⟨tw_137, (List.forall_mem_cons.mpr ⟨tw_33, (List.forall_mem_cons.mpr ⟨tw_32, (List.forall_mem_cons.mpr ⟨tw_31, (fun _ h => absurd h List.not_mem_nil)⟩)⟩)⟩)⟩)⟩)⟩)⟩)⟩)⟩)⟩)⟩)⟩)⟩)⟩)⟩)⟩)⟩)⟩)⟩)
set_option maxRecDepth 20000 in
theorem il_wsX9_init : ∀ w ∈ wsX9_init, w ∈ lw_tbl2 := by
  delta wsX9_init
  exact (List.forall_mem_cons.mpr ⟨tw_1377, (List.forall_mem_append.mpr ⟨(List.forall_mem_append.mpr ⟨(List.forall_mem_append.mpr ⟨(List.forall_mem_append.mpr ⟨(List.forall_mem_append.mpr ⟨(List.forall_mem_append.mpr ⟨(List.forall_mem_append.mpr ⟨(List.forall_mem_append.mpr ⟨(List.forall_mem_append.mpr ⟨il_wsX9_init_r1, (List.forall_mem_append.mpr ⟨il_wsX9_init_r2, (List.forall_mem_append.mpr ⟨il_wsX9_init_r3, (List.forall_mem_append.mpr ⟨il_wsX9_init_r4, (List.forall_mem_append.mpr ⟨il_wsX9_init_r5, il_wsX9_init_r6⟩)⟩)⟩)⟩)⟩), il_wsX90⟩), il_wsX30⟩), il_wsX40⟩), il_wsX00⟩), il_wsX10⟩), il_wsJ40⟩), il_wsX50⟩), il_wsX20⟩)⟩)
set_option maxRecDepth 20000 in
theorem il_wsX9_interestPot : ∀ w ∈ wsX9_interestPot, w ∈ lw_tbl2 := by
  delta wsX9_interestPot
  exact (List.forall_mem_cons.mpr ⟨tw_1423, (List.forall_mem_append.mpr ⟨(List.forall_mem_append.mpr ⟨(List.forall_mem_cons.mpr ⟨tw_17, (fun _ h => absurd h List.not_mem_nil)⟩), il_wsX90⟩), il_wsX00⟩)⟩)
set_option maxRecDepth 20000 in
theorem il_wsX9_milestones : ∀ w ∈ wsX9_milestones, w ∈ lw_tbl2 := by
  delta wsX9_milestones
  exact (List.forall_mem_cons.mpr ⟨tw_1424, (List.forall_mem_append.mpr ⟨(List.forall_mem_append.mpr ⟨(List.forall_mem_cons.mpr ⟨tw_11, (fun _ h => absurd h List.not_mem_nil)⟩), il_wsX90⟩), il_wsX30⟩)⟩)
set_option maxRecDepth 20000 in
theorem il_wsX9_nextDue : ∀ w ∈ wsX9_nextDue, w ∈ lw_tbl2 := by
  delta wsX9_nextDue
  exact (List.forall_mem_cons.mpr ⟨tw_1425, (List.forall_mem_append.mpr ⟨(List.forall_mem_append.mpr ⟨(List.forall_mem_append.mpr ⟨(List.forall_mem_cons.mpr ⟨tw_17, (List.forall_mem_cons.mpr ⟨tw_246, (List.forall_mem_cons.mpr ⟨tw_245, (List.forall_mem_cons.mpr ⟨tw_244, (List.forall_mem_cons.mpr ⟨tw_2, (List.forall_mem_cons.mpr ⟨tw_243, (List.forall_mem_cons.mpr ⟨tw_26, (List.forall_mem_cons.mpr ⟨tw_48, (fun _ h => absurd h List.not_mem_nil)⟩)⟩)⟩)⟩)⟩)⟩)⟩)⟩), il_wsX90⟩), il_wsX00⟩), il_wsX30⟩)⟩)
set_option maxRecDepth 20000 in
theorem il_wsX9_principal : ∀ w ∈ wsX9_principal, w ∈ lw_tbl2 := by
  delta wsX9_principal
  exact (List.forall_mem_cons.mpr ⟨tw_1426, (List.forall_mem_append.mpr ⟨(List.forall_mem_append.mpr ⟨(List.forall_mem_cons.mpr ⟨tw_17, (fun _ h => absurd h List.not_mem_nil)⟩), il_wsX90⟩), il_wsX00⟩)⟩)
set_option maxRecDepth 20000 in
theorem il_wsX9_progress : ∀ w ∈ wsX9_progress, w ∈ lw_tbl2 := by
  delta wsX9_progress
  exact (List.forall_mem_cons.mpr ⟨tw_1427, (List.forall_mem_append.mpr ⟨(List.forall_mem_append.mpr ⟨(List.forall_mem_append.mpr ⟨(List.forall_mem_cons.mpr ⟨tw_11, (List.forall_mem_cons.mpr ⟨tw_17, (List.forall_mem_cons.mpr ⟨tw_1428, (fun _ h => absurd h List.not_mem_nil)⟩)⟩)⟩), il_wsX90⟩), il_wsX30⟩), il_wsX00⟩)⟩)
set_option maxRecDepth 20000 in
theorem il_wsX9_proofs : ∀ w ∈ wsX9_proofs, w ∈ lw_tbl2 := by
  delta wsX9_proofs
  exact (List.forall_mem_cons.mpr ⟨tw_1429, (List.forall_mem_append.mpr ⟨(List.forall_mem_append.mpr ⟨(List.forall_mem_cons.mpr ⟨tw_11, (fun _ h => absurd h List.not_mem_nil)⟩), il_wsX90⟩), il_wsX30⟩)⟩)
set_option maxRecDepth 20000 in
theorem il_wsX9_received : ∀ w ∈ wsX9_received, w ∈ lw_tbl2 := by
  delta wsX9_received
  exact (List.forall_mem_cons.mpr ⟨tw_1430, (List.forall_mem_append.mpr ⟨(List.forall_mem_append.mpr ⟨(List.forall_mem_cons.mpr ⟨tw_17, (fun _ h => absurd h List.not_mem_nil)⟩), il_wsX90⟩), il_wsX00⟩)⟩)
set_option maxRecDepth 20000 in
theorem il_wsX9_refunded : ∀ w ∈ wsX9_refunded, w ∈ lw_tbl2 := by
  delta wsX9_refunded
  exact (List.forall_mem_cons.mpr ⟨tw_1431, (List.forall_mem_append.mpr ⟨(List.forall_mem_append.mpr ⟨(List.forall_mem_cons.mpr ⟨tw_17, (fun _ h => absurd h List.not_mem_nil)⟩), il_wsX90⟩), il_wsX00⟩)⟩)
set_option maxRecDepth 20000 in
theorem il_wsX9_shortage : ∀ w ∈ wsX9_shortage, w ∈ lw_tbl2 := by
  delta wsX9_shortage
  exact (List.forall_mem_cons.mpr ⟨tw_1432, (List.forall_mem_append.mpr ⟨(List.forall_mem_append.mpr ⟨(List.forall_mem_append.mpr ⟨(List.forall_mem_cons.mpr ⟨tw_11, (List.forall_mem_cons.mpr ⟨tw_17, (List.forall_mem_cons.mpr ⟨tw_274, (List.forall_mem_cons.mpr ⟨tw_273, (List.forall_mem_cons.mpr ⟨tw_32, (List.forall_mem_cons.mpr ⟨tw_272, (List.forall_mem_cons.mpr ⟨tw_127, (List.forall_mem_cons.mpr ⟨tw_126, (List.forall_mem_cons.mpr ⟨tw_125, (List.forall_mem_cons.mpr ⟨tw_2, (List.forall_mem_cons.mpr ⟨tw_124, (List.forall_mem_cons.mpr ⟨tw_26, (List.forall_mem_cons.mpr ⟨tw_68, (List.forall_mem_cons.mpr ⟨tw_123, (List.forall_mem_cons.mpr ⟨tw_4, (List.forall_mem_cons.mpr ⟨tw_3, (List.forall_mem_cons.mpr ⟨tw_1, (List.forall_mem_cons.mpr ⟨tw_48, (fun _ h => absurd h List.not_mem_nil)⟩)⟩)⟩)⟩)⟩)⟩)⟩)⟩)⟩)⟩)⟩)⟩)⟩)⟩)⟩)⟩)⟩)⟩), il_wsX90⟩), il_wsX30⟩), il_wsX00⟩)⟩)
set_option maxRecDepth 20000 in
theorem il_wsX9_undo_r1 : ∀ w ∈ wsX9_undo_r1, w ∈ lw_tbl2 := by
  delta wsX9_undo_r1
  exact (List.forall_mem_cons.mpr ⟨tw_16, (List.forall_mem_cons.mpr ⟨tw_17, (List.forall_mem_cons.mpr ⟨tw_1437, (List.forall_mem_cons.mpr ⟨tw_1436, (List.forall_mem_cons.mpr ⟨tw_1435, (List.forall_mem_cons.mpr ⟨tw_39, (List.forall_mem_cons.mpr ⟨tw_1434, (List.forall_mem_cons.mpr ⟨tw_35, (List.forall_mem_cons.mpr ⟨tw_36, (List.forall_mem_cons.mpr ⟨tw_37, (List.forall_mem_cons.mpr ⟨tw_30, (List.forall_mem_cons.mpr ⟨tw_29, (List.forall_mem_cons.mpr ⟨tw_28, (List.forall_mem_cons.mpr ⟨tw_2, (List.forall_mem_cons.mpr ⟨tw_27, (List.forall_mem_cons.mpr ⟨tw_26, (List.forall_mem_cons.mpr ⟨tw_25, (List.forall_mem_cons.mpr ⟨tw_48, (List.forall_mem_cons.mpr ⟨tw_72, (List.forall_mem_cons.mpr ⟨tw_71, (List.forall_mem_cons.mpr ⟨tw_70, (List.forall_mem_cons.mpr ⟨tw_69, (List.forall_mem_cons.mpr ⟨tw_68, (List.forall_mem_cons.mpr ⟨tw_67, (fun _ h => absurd h List.not_mem_nil)⟩)⟩)⟩)⟩)⟩)⟩)⟩)⟩)⟩)⟩)⟩)⟩)⟩)⟩)⟩)⟩)⟩)⟩)⟩)⟩)⟩)⟩)⟩)⟩)
set_option maxRecDepth 20000 in
theorem il_wsX9_undo_r2 : ∀ w ∈ wsX9_undo_r2, w ∈ lw_tbl2 := by
  delta wsX9_undo_r2
  exact (List.forall_mem_cons.mpr ⟨tw_66, (List.forall_mem_cons.mpr ⟨tw_65, (List.forall_mem_cons.mpr ⟨tw_64, (List.forall_mem_cons.mpr ⟨tw_63, (List.forall_mem_cons.mpr ⟨tw_62, (List.forall_mem_cons.mpr ⟨tw_61, (List.forall_mem_cons.mpr ⟨tw_60, (List.forall_mem_cons.mpr ⟨tw_59, (List.forall_mem_cons.mpr ⟨tw_58, (List.forall_mem_cons.mpr ⟨tw_57, (List.forall_mem_cons.mpr ⟨tw_56, (List.forall_mem_cons.mpr ⟨tw_55, (List.forall_mem_cons.mpr ⟨tw_54, (List.forall_mem_cons.mpr ⟨tw_53, (List.forall_mem_cons.mpr ⟨tw_52, (List.forall_mem_cons.mpr ⟨tw_51, (List.forall_mem_cons.mpr ⟨tw_50, (List.forall_mem_cons.mpr ⟨tw_49, (List.forall_mem_cons.mpr ⟨tw_96, (List.forall_mem_cons.mpr ⟨tw_95, (List.forall_mem_cons.mpr ⟨tw_94, (List.forall_mem_cons.mpr ⟨tw_93, (List.forall_mem_cons.mpr ⟨tw_92, (List.forall_mem_cons.mpr ⟨tw_91, (fun _ h => absurd h List.not_mem_nil)⟩)⟩)⟩)⟩)⟩)⟩)⟩)⟩)⟩)⟩)⟩)⟩)⟩)⟩)⟩)⟩)⟩)⟩)⟩)⟩)⟩)⟩)⟩)⟩)
set_option maxRecDepth 20000 in
theorem il_wsX9_undo : ∀ w ∈ wsX9_undo, w ∈ lw_tbl2 := by
  delta wsX9_undo
  exact (List.forall_mem_cons.mpr ⟨tw_1433, (List.forall_mem_append.mpr ⟨(List.forall_mem_append.mpr ⟨(List.forall_mem_append.mpr ⟨(List.forall_mem_append.mpr ⟨(List.forall_mem_append.mpr ⟨il_wsX9_undo_r1, il_wsX9_undo_r2⟩), il_wsX90⟩), il_wsX10⟩), il_wsX00⟩), il_wsX20⟩)⟩)
