/-! THE LAW'S START: from its first instruction to its loop -/
set_option maxRecDepth 100000 in
set_option maxHeartbeats 4000000 in
theorem law_start {g : GT} {b : Nat} (hg : GH g) (hk : TR g room_1 RL cL_law 4 ret 104 12371 (ZL g) 18 [some (.ref b), some (.ref (gad g 5 0)), some (.ref (gad g 6 0)), some (.int 0)] [] M0) : CR g room_1 RL cL_law 4 ret 0 0 (ZL g) 0 [some (.ref b), none, none, none] [] 0 (fun _ => zE) := by
  have e5 : gad g 5 0 = n0 g + 0 := hg.at (by decide) rfl
  have e6 : gad g 6 0 = n0 g + 85 := hg.at (by decide) rfl
  rw [e5, e6] at hk
  refine r_new (ci := 5) (fs := dfs 5) 3 dL_law_0 rfl kl_L_7 ki_X5 kt_X5 rfl (fun ty h j hj => ?_) ⟨by decide, by decide⟩ ?_
  · have q : ∀ j, j < 13 → (parseFieldDescriptor (TX5 j).2.2.1).map defaultValue = some (vp_V (dfs 5) j) := by decide +kernel
    have q := q j hj
    rw [h j hj] at q
    exact Option.some.inj q
  refine r_eqE (E' := AP (fun _ => zE) 0 (.inr (5, dfs 5)) 1 []) ?_ ?_
  · funext j; unfold upE AP
    by_cases h : j = 0
    · rw [if_pos h, if_pos h]
    · rw [if_neg h, if_neg h]; split <;> rfl
  refine r_dup 4 dL_law_3 rfl rfl ?_
  refine r_ini (N := 0) (As := []) (rest := [.ref (n0 g + 0)]) 7 dL_law_4 rfl (cc_X5 g (fun _ => zE) 0 1 (by decide)) km_L_9 kt_X5 kc_X5 (by decide +kernel) kn_X5 rfl rfl rfl ⟨by decide, by decide⟩ ⟨by decide, by decide⟩ (Nat.le_of_ble_eq_true rfl) rfl ?_
  refine r_astore_n 8 dL_law_7 rfl (by decide) rfl ?_
  refine s_new (ci := 6) 11 86 86 2375 dL_law_8 rfl kl_L_10 ki_X6 kt_X6 rfl (by decide +kernel) (by decide) rfl ⟨rfl, rfl, rfl⟩ ⟨by decide, by decide⟩ ?_
  refine r_dup 12 dL_law_11 rfl rfl ?_
  refine s_ini (k := 84) (a := 85) (N := 0) 15 104 104 12371 dL_law_12 rfl cc_X6 km_L_12 kt_X6 kc_X6 (by decide +kernel) kn_X6 rfl rfl rfl ⟨by decide, by decide⟩ ⟨rfl, rfl, rfl⟩ ⟨by decide, by decide⟩ (Nat.le_of_ble_eq_true rfl) (by decide) rfl rfl rfl ?_
  refine r_astore_n 16 dL_law_15 rfl (by decide) rfl ?_
  refine r_iconst (v := 0) 17 dL_law_16 rfl rfl ?_
  refine r_istore_n 18 dL_law_17 rfl (by decide) rfl ?_
  intro p e s m args below meth c H locs ls C hP hz hS hl
  exact hk p e s m args below meth c H locs ls C.1 (WE_WS hg hP) hS hl
