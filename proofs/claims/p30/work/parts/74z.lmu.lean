/-! the methods as the symbolic machine sees them; what a call of each asks -/
abbrev muL_acts : zM := (RL, cL_acts, 16, wsL_acts, (some .boolean), false)
theorem hy_L_acts : yL_acts.cls ≠ "java/lang/invoke/MethodHandle" ∧ yL_acts.cls ≠ "java/lang/invoke/VarHandle" ∧ (parseMethodDescriptor yL_acts.desc).map (fun d => d.parameters.length) = some 8 := by decide +kernel
abbrev muL_cell : zM := (RL, cL_cell, 2, wsL_cell, (some .int), false)
theorem hy_L_cell : yL_cell.cls ≠ "java/lang/invoke/MethodHandle" ∧ yL_cell.cls ≠ "java/lang/invoke/VarHandle" ∧ (parseMethodDescriptor yL_cell.desc).map (fun d => d.parameters.length) = some 2 := by decide +kernel
abbrev muL_ends : zM := (RL, cL_ends, 4, wsL_ends, none, false)
theorem hy_L_ends : yL_ends.cls ≠ "java/lang/invoke/MethodHandle" ∧ yL_ends.cls ≠ "java/lang/invoke/VarHandle" ∧ (parseMethodDescriptor yL_ends.desc).map (fun d => d.parameters.length) = some 3 := by decide +kernel
abbrev muL_flow : zM := (RL, cL_flow, 5, wsL_flow, (some .int), false)
theorem hy_L_flow : yL_flow.cls ≠ "java/lang/invoke/MethodHandle" ∧ yL_flow.cls ≠ "java/lang/invoke/VarHandle" ∧ (parseMethodDescriptor yL_flow.desc).map (fun d => d.parameters.length) = some 4 := by decide +kernel
abbrev muL_heard : zM := (RL, cL_heard, 5, wsL_heard, (some .int), false)
theorem hy_L_heard : yL_heard.cls ≠ "java/lang/invoke/MethodHandle" ∧ yL_heard.cls ≠ "java/lang/invoke/VarHandle" ∧ (parseMethodDescriptor yL_heard.desc).map (fun d => d.parameters.length) = some 3 := by decide +kernel
abbrev muL_isSo : zM := (RL, cL_isSo, 14, wsL_isSo, (some .boolean), false)
theorem hy_L_isSo : yL_isSo.cls ≠ "java/lang/invoke/MethodHandle" ∧ yL_isSo.cls ≠ "java/lang/invoke/VarHandle" ∧ (parseMethodDescriptor yL_isSo.desc).map (fun d => d.parameters.length) = some 6 := by decide +kernel
abbrev muL_level : zM := (RL, cL_level, 3, wsL_level, (some .int), false)
theorem hy_L_level : yL_level.cls ≠ "java/lang/invoke/MethodHandle" ∧ yL_level.cls ≠ "java/lang/invoke/VarHandle" ∧ (parseMethodDescriptor yL_level.desc).map (fun d => d.parameters.length) = some 1 := by decide +kernel
abbrev muL_low : zM := (RL, cL_low, 2, wsL_low, (some .int), false)
theorem hy_L_low : yL_low.cls ≠ "java/lang/invoke/MethodHandle" ∧ yL_low.cls ≠ "java/lang/invoke/VarHandle" ∧ (parseMethodDescriptor yL_low.desc).map (fun d => d.parameters.length) = some 2 := by decide +kernel
abbrev muL_onWay : zM := (RL, cL_onWay, 4, wsL_onWay, (some .int), false)
theorem hy_L_onWay : yL_onWay.cls ≠ "java/lang/invoke/MethodHandle" ∧ yL_onWay.cls ≠ "java/lang/invoke/VarHandle" ∧ (parseMethodDescriptor yL_onWay.desc).map (fun d => d.parameters.length) = some 2 := by decide +kernel
abbrev muL_puts : zM := (RL, cL_puts, 9, wsL_puts, none, false)
theorem hy_L_puts : yL_puts.cls ≠ "java/lang/invoke/MethodHandle" ∧ yL_puts.cls ≠ "java/lang/invoke/VarHandle" ∧ (parseMethodDescriptor yL_puts.desc).map (fun d => d.parameters.length) = some 7 := by decide +kernel
abbrev muL_refused : zM := (RL, cL_refused, 9, wsL_refused, (some .int), false)
theorem hy_L_refused : yL_refused.cls ≠ "java/lang/invoke/MethodHandle" ∧ yL_refused.cls ≠ "java/lang/invoke/VarHandle" ∧ (parseMethodDescriptor yL_refused.desc).map (fun d => d.parameters.length) = some 5 := by decide +kernel
abbrev muL_step : zM := (RL, cL_step, 11, wsL_step, none, false)
theorem hy_L_step : yL_step.cls ≠ "java/lang/invoke/MethodHandle" ∧ yL_step.cls ≠ "java/lang/invoke/VarHandle" ∧ (parseMethodDescriptor yL_step.desc).map (fun d => d.parameters.length) = some 6 := by decide +kernel
