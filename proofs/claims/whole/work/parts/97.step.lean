/-! one step of the law keeps what class and model have in common -/
theorem law_step {σX σM : Sg} (v0 v1 v2 v3 v4 v5 : Int32) (hI : Inv σX σM) : lwStep v0 v1 v2 v3 v4 v5 σX σM Inv := by
  unfold lwStep
  refine ⟨fun _ => st_row hI _ _, fun _ => ?_⟩
  refine ⟨fun _ => st_lay hI _ _ _, fun _ => ?_⟩
  refine ⟨fun _ => st_at hI _ _, fun _ => ?_⟩
  refine ⟨fun _ => st_tear hI _, fun _ => ?_⟩
  refine ⟨fun _ => st_copy hI _ _ _ _ _, fun _ => ?_⟩
  refine ⟨fun _ => st_mean hI _, fun _ => ?_⟩
  refine ⟨fun _ => st_text hI _ _, fun _ => ?_⟩
  refine ⟨fun _ => st_put hI _ _ _, fun _ => ?_⟩
  refine ⟨fun _ => st_fault hI _, fun _ => ?_⟩
  refine ⟨fun _ => st_delta hI _, fun _ => ?_⟩
  refine ⟨fun _ => st_woman hI _ _, fun _ => ?_⟩
  refine ⟨fun _ => st_mark hI _ _, fun _ => ?_⟩
  refine ⟨fun _ => st_hem hI _ _, fun _ => ?_⟩
  refine ⟨fun _ => st_would hI _ _, fun _ => ?_⟩
  refine ⟨fun _ => st_flood hI _, fun _ => ?_⟩
  refine ⟨fun _ => st_move hI _ _, fun _ => ?_⟩
  refine ⟨fun _ => st_dyke hI _, fun _ => ?_⟩
  refine ⟨fun _ => st_tuck hI _, fun _ => ?_⟩
  refine ⟨fun _ => st_undo hI _, fun _ => ?_⟩
  refine ⟨fun _ => st_keep hI _, fun _ => ?_⟩
  refine ⟨fun _ => st_on hI _, fun _ => ?_⟩
  refine ⟨fun _ => st_know hI _ _, fun _ => ?_⟩
  refine ⟨fun _ => st_high hI _, fun _ => ?_⟩
  refine ⟨fun _ => st_look hI _ _, fun _ => ?_⟩
  refine ⟨fun _ => st_looks hI _, fun _ => ?_⟩
  refine ⟨fun _ => st_line hI _, fun _ => ?_⟩
  refine ⟨fun _ => st_kinds hI _ _, fun _ => ?_⟩
  refine ⟨fun _ => st_test hI _ _, fun _ => ?_⟩
  refine ⟨fun _ => st_whose hI _, fun _ => ?_⟩
  refine ⟨fun _ => st_raise hI _ _ _, fun _ => ?_⟩
  refine ⟨fun _ => st_dry hI, fun _ => ?_⟩
  refine ⟨fun _ => st_least hI _ _ _, fun _ => ?_⟩
  refine ⟨fun _ => st_duel hI _ _, fun _ => ?_⟩
  refine ⟨fun _ => st_odds hI _, fun _ => ?_⟩
  refine ⟨fun _ => st_mid hI, fun _ => ?_⟩
  refine ⟨fun _ => st_lots hI _ _, fun _ => ?_⟩
  refine ⟨fun _ => st_asked hI, fun _ => ?_⟩
  refine ⟨fun _ => st_upper hI, fun _ => ?_⟩
  refine ⟨fun _ => st_lower hI, fun _ => ?_⟩
  refine ⟨fun _ => st_count hI _, fun _ => ?_⟩
  refine ⟨fun _ => st_finding hI, fun _ => ?_⟩
  refine ⟨fun _ => st_findings hI _, fun _ => ?_⟩
  refine ⟨fun _ => st_digest hI, fun _ => ?_⟩
  exact hI
