/-! THE LAW'S WHOLE BODY -/
theorem law_all {g : GT} (hg : GH g) (hN : gN g ≤ 3072) : CR g room_1 RL cL_law 4 ret 0 0 (ZL g) 0 [some (.ref (gad g 52 0)), none, none, none] [] 0 (fun _ => zE) :=
  law_start hg (law_loop ⟨by decide, by decide⟩ hN (gN g + 7) 0 M0 0 iv0 (by omega) (by omega) rfl)
