/-! PURE: all calls, and the start -/
theorem inv_all : pvA Inv := fun k g N μ hk h => ⟨fun x1 => pr_place h x1, fun x1 x2 x3 => pr_stock h x1 x2 x3, fun x1 x2 x3 => pr_cycle h x1 x2 x3, fun x1 x2 => pr_right h x1 x2, fun x1 => pr_setting h x1, fun x1 => pr_day h x1, fun x1 x2 x3 x4 => pr_move h x1 x2 x3 x4, fun x1 => pr_end h x1, fun x1 => pr_moves h x1, fun x1 x2 x3 => pr_round h x1 x2 x3, fun x1 => pr_freeze h x1, fun x1 x2 x3 x4 x5 => pr_found h x1 x2 x3 x4 x5, fun x1 x2 x3 => pr_second h x1 x2 x3, fun x1 => pr_close h x1, fun x1 x2 x3 => pr_differ h x1 x2 x3, fun x1 x2 x3 => pr_correct h x1 x2 x3, fun x1 => pr_share hk h x1, fun x1 => pr_last h x1, fun x1 => pr_due h x1, fun x1 x2 => pr_booked h x1 x2, fun x1 x2 => pr_told h x1 x2, fun x1 => pr_count h x1, inv_up h⟩
theorem inv_00 : Inv 0 g00 (fun _ => 0) m00 := by
  refine ⟨⟨⟨by decide, by decide, by decide⟩, ⟨rfl, rfl, rfl⟩, ⟨rfl, rfl, rfl⟩, rfl, Or.inl ⟨rfl, rfl⟩, ?_, fun _ _ => rfl, fun _ _ => rfl⟩, ⟨0, 0, by omega, by omega, rfl, rfl, rfl, rfl⟩, ⟨fun i hi => absurd hi (Nat.not_lt_zero i), fun i hi => absurd hi (Nat.not_lt_zero i), fun _ _ => rfl⟩, ⟨fun i hi => absurd hi (Nat.not_lt_zero i), fun _ _ => rfl⟩, fun i hi => absurd hi (Nat.not_lt_zero i), fun _ _ => ⟨rfl, rfl, fun _ _ => ⟨rfl, rfl, rfl⟩⟩, ⟨fun i hi => absurd hi (Nat.not_lt_zero i), fun c _ _ _ hc => absurd hc (Nat.not_lt_zero c)⟩⟩
  intro j hj
  rcases (show j = 0 ∨ j = 1 ∨ j = 2 by omega) with rfl | rfl | rfl
  · decide
  · decide
  · decide
