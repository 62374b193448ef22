theorem nw_X2_9 : NW RX2 9 4 := ⟨_, _, _, ck4, wk_X2_9, wx_X4, wn_X4, by decide⟩
theorem nw_X4_9 : NW RX4 9 5 := ⟨_, _, _, ck5, wk_X4_9, wx_X5, wn_X5, by decide⟩
theorem nw_X4_17 : NW RX4 17 3 := ⟨_, _, _, ck3, wk_X4_17, wx_X3, wn_X3, by decide⟩
theorem nw_X6_9 : NW RX6 9 4 := ⟨_, _, _, ck4, wk_X6_9, wx_X4, wn_X4, by decide⟩
theorem nw_X6_19 : NW RX6 19 0 := ⟨_, _, _, ck0, wk_X6_19, wx_X0, wn_X0, by decide⟩
theorem nw_X6_26 : NW RX6 26 2 := ⟨_, _, _, ck2, wk_X6_26, wx_X2, wn_X2, by decide⟩
theorem nw_X6_41 : NW RX6 41 1 := ⟨_, _, _, ck1, wk_X6_41, wx_X1, wn_X1, by decide⟩
theorem nw_L_8 : NW RL 8 6 := ⟨_, _, _, ck6, wk_L_8, wx_X6, wn_X6, by decide⟩
theorem nw_L_114 : NW RL 114 7 := ⟨_, _, _, ck7, wk_L_114, wx_X7, wn_X7, by decide⟩
theorem tw_258 : TW 258 262 "java/lang/IllegalStateException" := ⟨by decide, by decide +kernel, wk_X6_258, wn_IllegalStateException, by decide +kernel, by decide +kernel, by decide +kernel⟩
theorem tw_265 : TW 265 269 "java/lang/IndexOutOfBoundsException" := ⟨by decide, by decide +kernel, wk_X6_265, wn_IndexOutOfBoundsException, by decide +kernel, by decide +kernel, by decide +kernel⟩
theorem tw_270 : TW 270 274 "java/lang/IllegalArgumentException" := ⟨by decide, by decide +kernel, wk_X6_270, wn_IllegalArgumentException, by decide +kernel, by decide +kernel, by decide +kernel⟩
theorem cd_X6_init : (mN mX6_init).cls ≠ "java/lang/invoke/MethodHandle" ∧ (mN mX6_init).cls ≠ "java/lang/invoke/VarHandle" ∧ (parseMethodDescriptor (mN mX6_init).desc).map (fun d => d.parameters.length) = some 0 := by decide +kernel
theorem cp_X6_init : plainFor (mN mX6_init) = true := by decide +kernel
theorem cd_X6_about : (mN mX6_about).cls ≠ "java/lang/invoke/MethodHandle" ∧ (mN mX6_about).cls ≠ "java/lang/invoke/VarHandle" ∧ (parseMethodDescriptor (mN mX6_about).desc).map (fun d => d.parameters.length) = some 1 := by decide +kernel
theorem cp_X6_about : plainFor (mN mX6_about) = true := by decide +kernel
theorem cd_X6_addOrder : (mN mX6_addOrder).cls ≠ "java/lang/invoke/MethodHandle" ∧ (mN mX6_addOrder).cls ≠ "java/lang/invoke/VarHandle" ∧ (parseMethodDescriptor (mN mX6_addOrder).desc).map (fun d => d.parameters.length) = some 4 := by decide +kernel
theorem cp_X6_addOrder : plainFor (mN mX6_addOrder) = true := by decide +kernel
theorem cd_X6_ahead : (mN mX6_ahead).cls ≠ "java/lang/invoke/MethodHandle" ∧ (mN mX6_ahead).cls ≠ "java/lang/invoke/VarHandle" ∧ (parseMethodDescriptor (mN mX6_ahead).desc).map (fun d => d.parameters.length) = some 3 := by decide +kernel
theorem cp_X6_ahead : plainFor (mN mX6_ahead) = true := by decide +kernel
theorem cd_X6_append : (mN mX6_append).cls ≠ "java/lang/invoke/MethodHandle" ∧ (mN mX6_append).cls ≠ "java/lang/invoke/VarHandle" ∧ (parseMethodDescriptor (mN mX6_append).desc).map (fun d => d.parameters.length) = some 1 := by decide +kernel
theorem cp_X6_append : plainFor (mN mX6_append) = true := by decide +kernel
theorem cd_X6_ask : (mN mX6_ask).cls ≠ "java/lang/invoke/MethodHandle" ∧ (mN mX6_ask).cls ≠ "java/lang/invoke/VarHandle" ∧ (parseMethodDescriptor (mN mX6_ask).desc).map (fun d => d.parameters.length) = some 3 := by decide +kernel
theorem cp_X6_ask : plainFor (mN mX6_ask) = true := by decide +kernel
theorem cd_X6_askShort : (mN mX6_askShort).cls ≠ "java/lang/invoke/MethodHandle" ∧ (mN mX6_askShort).cls ≠ "java/lang/invoke/VarHandle" ∧ (parseMethodDescriptor (mN mX6_askShort).desc).map (fun d => d.parameters.length) = some 3 := by decide +kernel
theorem cp_X6_askShort : plainFor (mN mX6_askShort) = true := by decide +kernel
theorem cd_X6_auction : (mN mX6_auction).cls ≠ "java/lang/invoke/MethodHandle" ∧ (mN mX6_auction).cls ≠ "java/lang/invoke/VarHandle" ∧ (parseMethodDescriptor (mN mX6_auction).desc).map (fun d => d.parameters.length) = some 1 := by decide +kernel
theorem cp_X6_auction : plainFor (mN mX6_auction) = true := by decide +kernel
theorem cd_X6_bid : (mN mX6_bid).cls ≠ "java/lang/invoke/MethodHandle" ∧ (mN mX6_bid).cls ≠ "java/lang/invoke/VarHandle" ∧ (parseMethodDescriptor (mN mX6_bid).desc).map (fun d => d.parameters.length) = some 3 := by decide +kernel
theorem cp_X6_bid : plainFor (mN mX6_bid) = true := by decide +kernel
theorem cd_X6_clearText : (mN mX6_clearText).cls ≠ "java/lang/invoke/MethodHandle" ∧ (mN mX6_clearText).cls ≠ "java/lang/invoke/VarHandle" ∧ (parseMethodDescriptor (mN mX6_clearText).desc).map (fun d => d.parameters.length) = some 0 := by decide +kernel
theorem cp_X6_clearText : plainFor (mN mX6_clearText) = true := by decide +kernel
theorem cd_X6_demand : (mN mX6_demand).cls ≠ "java/lang/invoke/MethodHandle" ∧ (mN mX6_demand).cls ≠ "java/lang/invoke/VarHandle" ∧ (parseMethodDescriptor (mN mX6_demand).desc).map (fun d => d.parameters.length) = some 1 := by decide +kernel
theorem cp_X6_demand : plainFor (mN mX6_demand) = true := by decide +kernel
theorem cd_X6_deposit : (mN mX6_deposit).cls ≠ "java/lang/invoke/MethodHandle" ∧ (mN mX6_deposit).cls ≠ "java/lang/invoke/VarHandle" ∧ (parseMethodDescriptor (mN mX6_deposit).desc).map (fun d => d.parameters.length) = some 2 := by decide +kernel
theorem cp_X6_deposit : plainFor (mN mX6_deposit) = true := by decide +kernel
theorem cd_X6_errorPosition : (mN mX6_errorPosition).cls ≠ "java/lang/invoke/MethodHandle" ∧ (mN mX6_errorPosition).cls ≠ "java/lang/invoke/VarHandle" ∧ (parseMethodDescriptor (mN mX6_errorPosition).desc).map (fun d => d.parameters.length) = some 0 := by decide +kernel
theorem cp_X6_errorPosition : plainFor (mN mX6_errorPosition) = true := by decide +kernel
theorem cd_X6_factorial : (mN mX6_factorial).cls ≠ "java/lang/invoke/MethodHandle" ∧ (mN mX6_factorial).cls ≠ "java/lang/invoke/VarHandle" ∧ (parseMethodDescriptor (mN mX6_factorial).desc).map (fun d => d.parameters.length) = some 1 := by decide +kernel
theorem cp_X6_factorial : plainFor (mN mX6_factorial) = true := by decide +kernel
theorem cd_X6_fairness : (mN mX6_fairness).cls ≠ "java/lang/invoke/MethodHandle" ∧ (mN mX6_fairness).cls ≠ "java/lang/invoke/VarHandle" ∧ (parseMethodDescriptor (mN mX6_fairness).desc).map (fun d => d.parameters.length) = some 1 := by decide +kernel
theorem cp_X6_fairness : plainFor (mN mX6_fairness) = true := by decide +kernel
theorem cd_X6_inLowestTerms : (mN mX6_inLowestTerms).cls ≠ "java/lang/invoke/MethodHandle" ∧ (mN mX6_inLowestTerms).cls ≠ "java/lang/invoke/VarHandle" ∧ (parseMethodDescriptor (mN mX6_inLowestTerms).desc).map (fun d => d.parameters.length) = some 3 := by decide +kernel
theorem cp_X6_inLowestTerms : plainFor (mN mX6_inLowestTerms) = true := by decide +kernel
theorem cd_X6_isPlaceInQueue : (mN mX6_isPlaceInQueue).cls ≠ "java/lang/invoke/MethodHandle" ∧ (mN mX6_isPlaceInQueue).cls ≠ "java/lang/invoke/VarHandle" ∧ (parseMethodDescriptor (mN mX6_isPlaceInQueue).desc).map (fun d => d.parameters.length) = some 1 := by decide +kernel
theorem cp_X6_isPlaceInQueue : plainFor (mN mX6_isPlaceInQueue) = true := by decide +kernel
theorem cd_X6_isSlot : (mN mX6_isSlot).cls ≠ "java/lang/invoke/MethodHandle" ∧ (mN mX6_isSlot).cls ≠ "java/lang/invoke/VarHandle" ∧ (parseMethodDescriptor (mN mX6_isSlot).desc).map (fun d => d.parameters.length) = some 1 := by decide +kernel
theorem cp_X6_isSlot : plainFor (mN mX6_isSlot) = true := by decide +kernel
theorem cd_X6_isTwoDigits : (mN mX6_isTwoDigits).cls ≠ "java/lang/invoke/MethodHandle" ∧ (mN mX6_isTwoDigits).cls ≠ "java/lang/invoke/VarHandle" ∧ (parseMethodDescriptor (mN mX6_isTwoDigits).desc).map (fun d => d.parameters.length) = some 1 := by decide +kernel
theorem cp_X6_isTwoDigits : plainFor (mN mX6_isTwoDigits) = true := by decide +kernel
theorem cd_X6_isWithin : (mN mX6_isWithin).cls ≠ "java/lang/invoke/MethodHandle" ∧ (mN mX6_isWithin).cls ≠ "java/lang/invoke/VarHandle" ∧ (parseMethodDescriptor (mN mX6_isWithin).desc).map (fun d => d.parameters.length) = some 3 := by decide +kernel
theorem cp_X6_isWithin : plainFor (mN mX6_isWithin) = true := by decide +kernel
theorem cd_X6_load : (mN mX6_load).cls ≠ "java/lang/invoke/MethodHandle" ∧ (mN mX6_load).cls ≠ "java/lang/invoke/VarHandle" ∧ (parseMethodDescriptor (mN mX6_load).desc).map (fun d => d.parameters.length) = some 0 := by decide +kernel
theorem cp_X6_load : plainFor (mN mX6_load) = true := by decide +kernel
theorem cd_X6_message : (mN mX6_message).cls ≠ "java/lang/invoke/MethodHandle" ∧ (mN mX6_message).cls ≠ "java/lang/invoke/VarHandle" ∧ (parseMethodDescriptor (mN mX6_message).desc).map (fun d => d.parameters.length) = some 2 := by decide +kernel
theorem cp_X6_message : plainFor (mN mX6_message) = true := by decide +kernel
theorem cd_X6_order : (mN mX6_order).cls ≠ "java/lang/invoke/MethodHandle" ∧ (mN mX6_order).cls ≠ "java/lang/invoke/VarHandle" ∧ (parseMethodDescriptor (mN mX6_order).desc).map (fun d => d.parameters.length) = some 2 := by decide +kernel
theorem cp_X6_order : plainFor (mN mX6_order) = true := by decide +kernel
theorem cd_X6_priceFor : (mN mX6_priceFor).cls ≠ "java/lang/invoke/MethodHandle" ∧ (mN mX6_priceFor).cls ≠ "java/lang/invoke/VarHandle" ∧ (parseMethodDescriptor (mN mX6_priceFor).desc).map (fun d => d.parameters.length) = some 1 := by decide +kernel
theorem cp_X6_priceFor : plainFor (mN mX6_priceFor) = true := by decide +kernel
theorem cd_X6_push : (mN mX6_push).cls ≠ "java/lang/invoke/MethodHandle" ∧ (mN mX6_push).cls ≠ "java/lang/invoke/VarHandle" ∧ (parseMethodDescriptor (mN mX6_push).desc).map (fun d => d.parameters.length) = some 2 := by decide +kernel
theorem cp_X6_push : plainFor (mN mX6_push) = true := by decide +kernel
theorem cd_X6_requireArgument : (mN mX6_requireArgument).cls ≠ "java/lang/invoke/MethodHandle" ∧ (mN mX6_requireArgument).cls ≠ "java/lang/invoke/VarHandle" ∧ (parseMethodDescriptor (mN mX6_requireArgument).desc).map (fun d => d.parameters.length) = some 1 := by decide +kernel
theorem cp_X6_requireArgument : plainFor (mN mX6_requireArgument) = true := by decide +kernel
theorem cd_X6_requirePossible : (mN mX6_requirePossible).cls ≠ "java/lang/invoke/MethodHandle" ∧ (mN mX6_requirePossible).cls ≠ "java/lang/invoke/VarHandle" ∧ (parseMethodDescriptor (mN mX6_requirePossible).desc).map (fun d => d.parameters.length) = some 1 := by decide +kernel
theorem cp_X6_requirePossible : plainFor (mN mX6_requirePossible) = true := by decide +kernel
theorem cd_X6_requireThere : (mN mX6_requireThere).cls ≠ "java/lang/invoke/MethodHandle" ∧ (mN mX6_requireThere).cls ≠ "java/lang/invoke/VarHandle" ∧ (parseMethodDescriptor (mN mX6_requireThere).desc).map (fun d => d.parameters.length) = some 1 := by decide +kernel
theorem cp_X6_requireThere : plainFor (mN mX6_requireThere) = true := by decide +kernel
theorem cd_X6_restore : (mN mX6_restore).cls ≠ "java/lang/invoke/MethodHandle" ∧ (mN mX6_restore).cls ≠ "java/lang/invoke/VarHandle" ∧ (parseMethodDescriptor (mN mX6_restore).desc).map (fun d => d.parameters.length) = some 1 := by decide +kernel
theorem cp_X6_restore : plainFor (mN mX6_restore) = true := by decide +kernel
theorem cd_X6_runScript : (mN mX6_runScript).cls ≠ "java/lang/invoke/MethodHandle" ∧ (mN mX6_runScript).cls ≠ "java/lang/invoke/VarHandle" ∧ (parseMethodDescriptor (mN mX6_runScript).desc).map (fun d => d.parameters.length) = some 2 := by decide +kernel
theorem cp_X6_runScript : plainFor (mN mX6_runScript) = true := by decide +kernel
theorem cd_X6_save : (mN mX6_save).cls ≠ "java/lang/invoke/MethodHandle" ∧ (mN mX6_save).cls ≠ "java/lang/invoke/VarHandle" ∧ (parseMethodDescriptor (mN mX6_save).desc).map (fun d => d.parameters.length) = some 1 := by decide +kernel
theorem cp_X6_save : plainFor (mN mX6_save) = true := by decide +kernel
theorem cd_X6_sentAfter : (mN mX6_sentAfter).cls ≠ "java/lang/invoke/MethodHandle" ∧ (mN mX6_sentAfter).cls ≠ "java/lang/invoke/VarHandle" ∧ (parseMethodDescriptor (mN mX6_sentAfter).desc).map (fun d => d.parameters.length) = some 2 := by decide +kernel
theorem cp_X6_sentAfter : plainFor (mN mX6_sentAfter) = true := by decide +kernel
theorem cd_X6_setRate : (mN mX6_setRate).cls ≠ "java/lang/invoke/MethodHandle" ∧ (mN mX6_setRate).cls ≠ "java/lang/invoke/VarHandle" ∧ (parseMethodDescriptor (mN mX6_setRate).desc).map (fun d => d.parameters.length) = some 2 := by decide +kernel
theorem cp_X6_setRate : plainFor (mN mX6_setRate) = true := by decide +kernel
theorem cd_X6_setWidth : (mN mX6_setWidth).cls ≠ "java/lang/invoke/MethodHandle" ∧ (mN mX6_setWidth).cls ≠ "java/lang/invoke/VarHandle" ∧ (parseMethodDescriptor (mN mX6_setWidth).desc).map (fun d => d.parameters.length) = some 1 := by decide +kernel
theorem cp_X6_setWidth : plainFor (mN mX6_setWidth) = true := by decide +kernel
theorem cd_X6_share : (mN mX6_share).cls ≠ "java/lang/invoke/MethodHandle" ∧ (mN mX6_share).cls ≠ "java/lang/invoke/VarHandle" ∧ (parseMethodDescriptor (mN mX6_share).desc).map (fun d => d.parameters.length) = some 2 := by decide +kernel
theorem cp_X6_share : plainFor (mN mX6_share) = true := by decide +kernel
theorem cd_X6_simulate : (mN mX6_simulate).cls ≠ "java/lang/invoke/MethodHandle" ∧ (mN mX6_simulate).cls ≠ "java/lang/invoke/VarHandle" ∧ (parseMethodDescriptor (mN mX6_simulate).desc).map (fun d => d.parameters.length) = some 2 := by decide +kernel
theorem cp_X6_simulate : plainFor (mN mX6_simulate) = true := by decide +kernel
theorem cd_X6_succeeds : (mN mX6_succeeds).cls ≠ "java/lang/invoke/MethodHandle" ∧ (mN mX6_succeeds).cls ≠ "java/lang/invoke/VarHandle" ∧ (parseMethodDescriptor (mN mX6_succeeds).desc).map (fun d => d.parameters.length) = some 1 := by decide +kernel
theorem cp_X6_succeeds : plainFor (mN mX6_succeeds) = true := by decide +kernel
theorem cd_X6_supply : (mN mX6_supply).cls ≠ "java/lang/invoke/MethodHandle" ∧ (mN mX6_supply).cls ≠ "java/lang/invoke/VarHandle" ∧ (parseMethodDescriptor (mN mX6_supply).desc).map (fun d => d.parameters.length) = some 1 := by decide +kernel
theorem cp_X6_supply : plainFor (mN mX6_supply) = true := by decide +kernel
theorem cd_X6_surplusOf : (mN mX6_surplusOf).cls ≠ "java/lang/invoke/MethodHandle" ∧ (mN mX6_surplusOf).cls ≠ "java/lang/invoke/VarHandle" ∧ (parseMethodDescriptor (mN mX6_surplusOf).desc).map (fun d => d.parameters.length) = some 1 := by decide +kernel
theorem cp_X6_surplusOf : plainFor (mN mX6_surplusOf) = true := by decide +kernel
theorem cd_X6_tenant : (mN mX6_tenant).cls ≠ "java/lang/invoke/MethodHandle" ∧ (mN mX6_tenant).cls ≠ "java/lang/invoke/VarHandle" ∧ (parseMethodDescriptor (mN mX6_tenant).desc).map (fun d => d.parameters.length) = some 2 := by decide +kernel
theorem cp_X6_tenant : plainFor (mN mX6_tenant) = true := by decide +kernel
theorem cd_X6_tick : (mN mX6_tick).cls ≠ "java/lang/invoke/MethodHandle" ∧ (mN mX6_tick).cls ≠ "java/lang/invoke/VarHandle" ∧ (parseMethodDescriptor (mN mX6_tick).desc).map (fun d => d.parameters.length) = some 1 := by decide +kernel
theorem cp_X6_tick : plainFor (mN mX6_tick) = true := by decide +kernel
theorem cd_X6_tryRandomAction : (mN mX6_tryRandomAction).cls ≠ "java/lang/invoke/MethodHandle" ∧ (mN mX6_tryRandomAction).cls ≠ "java/lang/invoke/VarHandle" ∧ (parseMethodDescriptor (mN mX6_tryRandomAction).desc).map (fun d => d.parameters.length) = some 1 := by decide +kernel
theorem cp_X6_tryRandomAction : plainFor (mN mX6_tryRandomAction) = true := by decide +kernel
theorem cd_X6_undo : (mN mX6_undo).cls ≠ "java/lang/invoke/MethodHandle" ∧ (mN mX6_undo).cls ≠ "java/lang/invoke/VarHandle" ∧ (parseMethodDescriptor (mN mX6_undo).desc).map (fun d => d.parameters.length) = some 0 := by decide +kernel
theorem cp_X6_undo : plainFor (mN mX6_undo) = true := by decide +kernel
theorem cd_X6_unitOfGroup : (mN mX6_unitOfGroup).cls ≠ "java/lang/invoke/MethodHandle" ∧ (mN mX6_unitOfGroup).cls ≠ "java/lang/invoke/VarHandle" ∧ (parseMethodDescriptor (mN mX6_unitOfGroup).desc).map (fun d => d.parameters.length) = some 1 := by decide +kernel
theorem cp_X6_unitOfGroup : plainFor (mN mX6_unitOfGroup) = true := by decide +kernel
theorem cd_X6_unused : (mN mX6_unused).cls ≠ "java/lang/invoke/MethodHandle" ∧ (mN mX6_unused).cls ≠ "java/lang/invoke/VarHandle" ∧ (parseMethodDescriptor (mN mX6_unused).desc).map (fun d => d.parameters.length) = some 1 := by decide +kernel
theorem cp_X6_unused : plainFor (mN mX6_unused) = true := by decide +kernel
theorem cd_X6_volumeIf : (mN mX6_volumeIf).cls ≠ "java/lang/invoke/MethodHandle" ∧ (mN mX6_volumeIf).cls ≠ "java/lang/invoke/VarHandle" ∧ (parseMethodDescriptor (mN mX6_volumeIf).desc).map (fun d => d.parameters.length) = some 4 := by decide +kernel
theorem cp_X6_volumeIf : plainFor (mN mX6_volumeIf) = true := by decide +kernel
theorem cd_X6_wealthiest : (mN mX6_wealthiest).cls ≠ "java/lang/invoke/MethodHandle" ∧ (mN mX6_wealthiest).cls ≠ "java/lang/invoke/VarHandle" ∧ (parseMethodDescriptor (mN mX6_wealthiest).desc).map (fun d => d.parameters.length) = some 1 := by decide +kernel
theorem cp_X6_wealthiest : plainFor (mN mX6_wealthiest) = true := by decide +kernel
theorem cd_X6_withdraw : (mN mX6_withdraw).cls ≠ "java/lang/invoke/MethodHandle" ∧ (mN mX6_withdraw).cls ≠ "java/lang/invoke/VarHandle" ∧ (parseMethodDescriptor (mN mX6_withdraw).desc).map (fun d => d.parameters.length) = some 1 := by decide +kernel
theorem cp_X6_withdraw : plainFor (mN mX6_withdraw) = true := by decide +kernel
theorem cd_X0_init : (mN mX0_init).cls ≠ "java/lang/invoke/MethodHandle" ∧ (mN mX0_init).cls ≠ "java/lang/invoke/VarHandle" ∧ (parseMethodDescriptor (mN mX0_init).desc).map (fun d => d.parameters.length) = some 0 := by decide +kernel
theorem cp_X0_init : plainFor (mN mX0_init) = true := by decide +kernel
theorem cd_X0_add : (mN mX0_add).cls ≠ "java/lang/invoke/MethodHandle" ∧ (mN mX0_add).cls ≠ "java/lang/invoke/VarHandle" ∧ (parseMethodDescriptor (mN mX0_add).desc).map (fun d => d.parameters.length) = some 3 := by decide +kernel
theorem cp_X0_add : plainFor (mN mX0_add) = true := by decide +kernel
theorem cd_X0_countWhollyFilled : (mN mX0_countWhollyFilled).cls ≠ "java/lang/invoke/MethodHandle" ∧ (mN mX0_countWhollyFilled).cls ≠ "java/lang/invoke/VarHandle" ∧ (parseMethodDescriptor (mN mX0_countWhollyFilled).desc).map (fun d => d.parameters.length) = some 0 := by decide +kernel
theorem cp_X0_countWhollyFilled : plainFor (mN mX0_countWhollyFilled) = true := by decide +kernel
theorem cd_X0_fill : (mN mX0_fill).cls ≠ "java/lang/invoke/MethodHandle" ∧ (mN mX0_fill).cls ≠ "java/lang/invoke/VarHandle" ∧ (parseMethodDescriptor (mN mX0_fill).desc).map (fun d => d.parameters.length) = some 2 := by decide +kernel
theorem cp_X0_fill : plainFor (mN mX0_fill) = true := by decide +kernel
theorem cd_X0_fillOf : (mN mX0_fillOf).cls ≠ "java/lang/invoke/MethodHandle" ∧ (mN mX0_fillOf).cls ≠ "java/lang/invoke/VarHandle" ∧ (parseMethodDescriptor (mN mX0_fillOf).desc).map (fun d => d.parameters.length) = some 1 := by decide +kernel
theorem cp_X0_fillOf : plainFor (mN mX0_fillOf) = true := by decide +kernel
theorem cd_X0_firstAskLeft : (mN mX0_firstAskLeft).cls ≠ "java/lang/invoke/MethodHandle" ∧ (mN mX0_firstAskLeft).cls ≠ "java/lang/invoke/VarHandle" ∧ (parseMethodDescriptor (mN mX0_firstAskLeft).desc).map (fun d => d.parameters.length) = some 0 := by decide +kernel
theorem cp_X0_firstAskLeft : plainFor (mN mX0_firstAskLeft) = true := by decide +kernel
theorem cd_X0_firstBidLeft : (mN mX0_firstBidLeft).cls ≠ "java/lang/invoke/MethodHandle" ∧ (mN mX0_firstBidLeft).cls ≠ "java/lang/invoke/VarHandle" ∧ (parseMethodDescriptor (mN mX0_firstBidLeft).desc).map (fun d => d.parameters.length) = some 0 := by decide +kernel
theorem cp_X0_firstBidLeft : plainFor (mN mX0_firstBidLeft) = true := by decide +kernel
theorem cd_X0_gather : (mN mX0_gather).cls ≠ "java/lang/invoke/MethodHandle" ∧ (mN mX0_gather).cls ≠ "java/lang/invoke/VarHandle" ∧ (parseMethodDescriptor (mN mX0_gather).desc).map (fun d => d.parameters.length) = some 2 := by decide +kernel
theorem cp_X0_gather : plainFor (mN mX0_gather) = true := by decide +kernel
theorem cd_X0_hold : (mN mX0_hold).cls ≠ "java/lang/invoke/MethodHandle" ∧ (mN mX0_hold).cls ≠ "java/lang/invoke/VarHandle" ∧ (parseMethodDescriptor (mN mX0_hold).desc).map (fun d => d.parameters.length) = some 1 := by decide +kernel
theorem cp_X0_hold : plainFor (mN mX0_hold) = true := by decide +kernel
theorem cd_X0_isAskBefore : (mN mX0_isAskBefore).cls ≠ "java/lang/invoke/MethodHandle" ∧ (mN mX0_isAskBefore).cls ≠ "java/lang/invoke/VarHandle" ∧ (parseMethodDescriptor (mN mX0_isAskBefore).desc).map (fun d => d.parameters.length) = some 2 := by decide +kernel
theorem cp_X0_isAskBefore : plainFor (mN mX0_isAskBefore) = true := by decide +kernel
theorem cd_X0_match : (mN mX0_match).cls ≠ "java/lang/invoke/MethodHandle" ∧ (mN mX0_match).cls ≠ "java/lang/invoke/VarHandle" ∧ (parseMethodDescriptor (mN mX0_match).desc).map (fun d => d.parameters.length) = some 0 := by decide +kernel
theorem cp_X0_match : plainFor (mN mX0_match) = true := by decide +kernel
theorem cd_X1_init : (mN mX1_init).cls ≠ "java/lang/invoke/MethodHandle" ∧ (mN mX1_init).cls ≠ "java/lang/invoke/VarHandle" ∧ (parseMethodDescriptor (mN mX1_init).desc).map (fun d => d.parameters.length) = some 0 := by decide +kernel
theorem cp_X1_init : plainFor (mN mX1_init) = true := by decide +kernel
theorem cd_X1_add : (mN mX1_add).cls ≠ "java/lang/invoke/MethodHandle" ∧ (mN mX1_add).cls ≠ "java/lang/invoke/VarHandle" ∧ (parseMethodDescriptor (mN mX1_add).desc).map (fun d => d.parameters.length) = some 1 := by decide +kernel
theorem cp_X1_add : plainFor (mN mX1_add) = true := by decide +kernel
theorem cd_X1_empty : (mN mX1_empty).cls ≠ "java/lang/invoke/MethodHandle" ∧ (mN mX1_empty).cls ≠ "java/lang/invoke/VarHandle" ∧ (parseMethodDescriptor (mN mX1_empty).desc).map (fun d => d.parameters.length) = some 0 := by decide +kernel
theorem cp_X1_empty : plainFor (mN mX1_empty) = true := by decide +kernel
theorem cd_X1_isFull : (mN mX1_isFull).cls ≠ "java/lang/invoke/MethodHandle" ∧ (mN mX1_isFull).cls ≠ "java/lang/invoke/VarHandle" ∧ (parseMethodDescriptor (mN mX1_isFull).desc).map (fun d => d.parameters.length) = some 0 := by decide +kernel
theorem cp_X1_isFull : plainFor (mN mX1_isFull) = true := by decide +kernel
theorem cd_X1_readInto : (mN mX1_readInto).cls ≠ "java/lang/invoke/MethodHandle" ∧ (mN mX1_readInto).cls ≠ "java/lang/invoke/VarHandle" ∧ (parseMethodDescriptor (mN mX1_readInto).desc).map (fun d => d.parameters.length) = some 1 := by decide +kernel
theorem cp_X1_readInto : plainFor (mN mX1_readInto) = true := by decide +kernel
theorem cd_X1_readLetter : (mN mX1_readLetter).cls ≠ "java/lang/invoke/MethodHandle" ∧ (mN mX1_readLetter).cls ≠ "java/lang/invoke/VarHandle" ∧ (parseMethodDescriptor (mN mX1_readLetter).desc).map (fun d => d.parameters.length) = some 1 := by decide +kernel
theorem cp_X1_readLetter : plainFor (mN mX1_readLetter) = true := by decide +kernel
theorem cd_X1_readLink : (mN mX1_readLink).cls ≠ "java/lang/invoke/MethodHandle" ∧ (mN mX1_readLink).cls ≠ "java/lang/invoke/VarHandle" ∧ (parseMethodDescriptor (mN mX1_readLink).desc).map (fun d => d.parameters.length) = some 1 := by decide +kernel
theorem cp_X1_readLink : plainFor (mN mX1_readLink) = true := by decide +kernel
theorem cd_X1_readMessages : (mN mX1_readMessages).cls ≠ "java/lang/invoke/MethodHandle" ∧ (mN mX1_readMessages).cls ≠ "java/lang/invoke/VarHandle" ∧ (parseMethodDescriptor (mN mX1_readMessages).desc).map (fun d => d.parameters.length) = some 1 := by decide +kernel
theorem cp_X1_readMessages : plainFor (mN mX1_readMessages) = true := by decide +kernel
theorem cd_X1_readNumber : (mN mX1_readNumber).cls ≠ "java/lang/invoke/MethodHandle" ∧ (mN mX1_readNumber).cls ≠ "java/lang/invoke/VarHandle" ∧ (parseMethodDescriptor (mN mX1_readNumber).desc).map (fun d => d.parameters.length) = some 3 := by decide +kernel
theorem cp_X1_readNumber : plainFor (mN mX1_readNumber) = true := by decide +kernel
theorem cd_X1_readQueue : (mN mX1_readQueue).cls ≠ "java/lang/invoke/MethodHandle" ∧ (mN mX1_readQueue).cls ≠ "java/lang/invoke/VarHandle" ∧ (parseMethodDescriptor (mN mX1_readQueue).desc).map (fun d => d.parameters.length) = some 1 := by decide +kernel
theorem cp_X1_readQueue : plainFor (mN mX1_readQueue) = true := by decide +kernel
theorem cd_X1_readTenants : (mN mX1_readTenants).cls ≠ "java/lang/invoke/MethodHandle" ∧ (mN mX1_readTenants).cls ≠ "java/lang/invoke/VarHandle" ∧ (parseMethodDescriptor (mN mX1_readTenants).desc).map (fun d => d.parameters.length) = some 1 := by decide +kernel
theorem cp_X1_readTenants : plainFor (mN mX1_readTenants) = true := by decide +kernel
theorem cd_X1_sign : (mN mX1_sign).cls ≠ "java/lang/invoke/MethodHandle" ∧ (mN mX1_sign).cls ≠ "java/lang/invoke/VarHandle" ∧ (parseMethodDescriptor (mN mX1_sign).desc).map (fun d => d.parameters.length) = some 0 := by decide +kernel
theorem cp_X1_sign : plainFor (mN mX1_sign) = true := by decide +kernel
theorem cd_X2_init : (mN mX2_init).cls ≠ "java/lang/invoke/MethodHandle" ∧ (mN mX2_init).cls ≠ "java/lang/invoke/VarHandle" ∧ (parseMethodDescriptor (mN mX2_init).desc).map (fun d => d.parameters.length) = some 0 := by decide +kernel
theorem cp_X2_init : plainFor (mN mX2_init) = true := by decide +kernel
theorem cd_X2_forget : (mN mX2_forget).cls ≠ "java/lang/invoke/MethodHandle" ∧ (mN mX2_forget).cls ≠ "java/lang/invoke/VarHandle" ∧ (parseMethodDescriptor (mN mX2_forget).desc).map (fun d => d.parameters.length) = some 0 := by decide +kernel
theorem cp_X2_forget : plainFor (mN mX2_forget) = true := by decide +kernel
theorem cd_X2_remember : (mN mX2_remember).cls ≠ "java/lang/invoke/MethodHandle" ∧ (mN mX2_remember).cls ≠ "java/lang/invoke/VarHandle" ∧ (parseMethodDescriptor (mN mX2_remember).desc).map (fun d => d.parameters.length) = some 1 := by decide +kernel
theorem cp_X2_remember : plainFor (mN mX2_remember) = true := by decide +kernel
theorem cd_X2_takeBack : (mN mX2_takeBack).cls ≠ "java/lang/invoke/MethodHandle" ∧ (mN mX2_takeBack).cls ≠ "java/lang/invoke/VarHandle" ∧ (parseMethodDescriptor (mN mX2_takeBack).desc).map (fun d => d.parameters.length) = some 1 := by decide +kernel
theorem cp_X2_takeBack : plainFor (mN mX2_takeBack) = true := by decide +kernel
theorem cd_X3_init : (mN mX3_init).cls ≠ "java/lang/invoke/MethodHandle" ∧ (mN mX3_init).cls ≠ "java/lang/invoke/VarHandle" ∧ (parseMethodDescriptor (mN mX3_init).desc).map (fun d => d.parameters.length) = some 0 := by decide +kernel
theorem cp_X3_init : plainFor (mN mX3_init) = true := by decide +kernel
theorem cd_X3_begin : (mN mX3_begin).cls ≠ "java/lang/invoke/MethodHandle" ∧ (mN mX3_begin).cls ≠ "java/lang/invoke/VarHandle" ∧ (parseMethodDescriptor (mN mX3_begin).desc).map (fun d => d.parameters.length) = some 4 := by decide +kernel
theorem cp_X3_begin : plainFor (mN mX3_begin) = true := by decide +kernel
theorem cd_X4_init : (mN mX4_init).cls ≠ "java/lang/invoke/MethodHandle" ∧ (mN mX4_init).cls ≠ "java/lang/invoke/VarHandle" ∧ (parseMethodDescriptor (mN mX4_init).desc).map (fun d => d.parameters.length) = some 0 := by decide +kernel
theorem cp_X4_init : plainFor (mN mX4_init) = true := by decide +kernel
theorem cd_X4_addTenant : (mN mX4_addTenant).cls ≠ "java/lang/invoke/MethodHandle" ∧ (mN mX4_addTenant).cls ≠ "java/lang/invoke/VarHandle" ∧ (parseMethodDescriptor (mN mX4_addTenant).desc).map (fun d => d.parameters.length) = some 3 := by decide +kernel
theorem cp_X4_addTenant : plainFor (mN mX4_addTenant) = true := by decide +kernel
theorem cd_X4_advance : (mN mX4_advance).cls ≠ "java/lang/invoke/MethodHandle" ∧ (mN mX4_advance).cls ≠ "java/lang/invoke/VarHandle" ∧ (parseMethodDescriptor (mN mX4_advance).desc).map (fun d => d.parameters.length) = some 2 := by decide +kernel
theorem cp_X4_advance : plainFor (mN mX4_advance) = true := by decide +kernel
theorem cd_X4_areAllQueuesFull : (mN mX4_areAllQueuesFull).cls ≠ "java/lang/invoke/MethodHandle" ∧ (mN mX4_areAllQueuesFull).cls ≠ "java/lang/invoke/VarHandle" ∧ (parseMethodDescriptor (mN mX4_areAllQueuesFull).desc).map (fun d => d.parameters.length) = some 0 := by decide +kernel
theorem cp_X4_areAllQueuesFull : plainFor (mN mX4_areAllQueuesFull) = true := by decide +kernel
theorem cd_X4_begin : (mN mX4_begin).cls ≠ "java/lang/invoke/MethodHandle" ∧ (mN mX4_begin).cls ≠ "java/lang/invoke/VarHandle" ∧ (parseMethodDescriptor (mN mX4_begin).desc).map (fun d => d.parameters.length) = some 4 := by decide +kernel
theorem cp_X4_begin : plainFor (mN mX4_begin) = true := by decide +kernel
theorem cd_X4_canPlace : (mN mX4_canPlace).cls ≠ "java/lang/invoke/MethodHandle" ∧ (mN mX4_canPlace).cls ≠ "java/lang/invoke/VarHandle" ∧ (parseMethodDescriptor (mN mX4_canPlace).desc).map (fun d => d.parameters.length) = some 4 := by decide +kernel
theorem cp_X4_canPlace : plainFor (mN mX4_canPlace) = true := by decide +kernel
theorem cd_X4_canSend : (mN mX4_canSend).cls ≠ "java/lang/invoke/MethodHandle" ∧ (mN mX4_canSend).cls ≠ "java/lang/invoke/VarHandle" ∧ (parseMethodDescriptor (mN mX4_canSend).desc).map (fun d => d.parameters.length) = some 1 := by decide +kernel
theorem cp_X4_canSend : plainFor (mN mX4_canSend) = true := by decide +kernel
theorem cd_X4_cashSetAside : (mN mX4_cashSetAside).cls ≠ "java/lang/invoke/MethodHandle" ∧ (mN mX4_cashSetAside).cls ≠ "java/lang/invoke/VarHandle" ∧ (parseMethodDescriptor (mN mX4_cashSetAside).desc).map (fun d => d.parameters.length) = some 1 := by decide +kernel
theorem cp_X4_cashSetAside : plainFor (mN mX4_cashSetAside) = true := by decide +kernel
theorem cd_X4_collect : (mN mX4_collect).cls ≠ "java/lang/invoke/MethodHandle" ∧ (mN mX4_collect).cls ≠ "java/lang/invoke/VarHandle" ∧ (parseMethodDescriptor (mN mX4_collect).desc).map (fun d => d.parameters.length) = some 2 := by decide +kernel
theorem cp_X4_collect : plainFor (mN mX4_collect) = true := by decide +kernel
theorem cd_X4_collectDebts : (mN mX4_collectDebts).cls ≠ "java/lang/invoke/MethodHandle" ∧ (mN mX4_collectDebts).cls ≠ "java/lang/invoke/VarHandle" ∧ (parseMethodDescriptor (mN mX4_collectDebts).desc).map (fun d => d.parameters.length) = some 0 := by decide +kernel
theorem cp_X4_collectDebts : plainFor (mN mX4_collectDebts) = true := by decide +kernel
theorem cd_X4_copyFrom : (mN mX4_copyFrom).cls ≠ "java/lang/invoke/MethodHandle" ∧ (mN mX4_copyFrom).cls ≠ "java/lang/invoke/VarHandle" ∧ (parseMethodDescriptor (mN mX4_copyFrom).desc).map (fun d => d.parameters.length) = some 1 := by decide +kernel
theorem cp_X4_copyFrom : plainFor (mN mX4_copyFrom) = true := by decide +kernel
theorem cd_X4_earliestDueTime : (mN mX4_earliestDueTime).cls ≠ "java/lang/invoke/MethodHandle" ∧ (mN mX4_earliestDueTime).cls ≠ "java/lang/invoke/VarHandle" ∧ (parseMethodDescriptor (mN mX4_earliestDueTime).desc).map (fun d => d.parameters.length) = some 1 := by decide +kernel
theorem cp_X4_earliestDueTime : plainFor (mN mX4_earliestDueTime) = true := by decide +kernel
theorem cd_X4_fillBuckets : (mN mX4_fillBuckets).cls ≠ "java/lang/invoke/MethodHandle" ∧ (mN mX4_fillBuckets).cls ≠ "java/lang/invoke/VarHandle" ∧ (parseMethodDescriptor (mN mX4_fillBuckets).desc).map (fun d => d.parameters.length) = some 0 := by decide +kernel
theorem cp_X4_fillBuckets : plainFor (mN mX4_fillBuckets) = true := by decide +kernel
theorem cd_X4_giveBack : (mN mX4_giveBack).cls ≠ "java/lang/invoke/MethodHandle" ∧ (mN mX4_giveBack).cls ≠ "java/lang/invoke/VarHandle" ∧ (parseMethodDescriptor (mN mX4_giveBack).desc).map (fun d => d.parameters.length) = some 1 := by decide +kernel
theorem cp_X4_giveBack : plainFor (mN mX4_giveBack) = true := by decide +kernel
theorem cd_X4_hasOrder : (mN mX4_hasOrder).cls ≠ "java/lang/invoke/MethodHandle" ∧ (mN mX4_hasOrder).cls ≠ "java/lang/invoke/VarHandle" ∧ (parseMethodDescriptor (mN mX4_hasOrder).desc).map (fun d => d.parameters.length) = some 1 := by decide +kernel
theorem cp_X4_hasOrder : plainFor (mN mX4_hasOrder) = true := by decide +kernel
theorem cd_X4_hasTenant : (mN mX4_hasTenant).cls ≠ "java/lang/invoke/MethodHandle" ∧ (mN mX4_hasTenant).cls ≠ "java/lang/invoke/VarHandle" ∧ (parseMethodDescriptor (mN mX4_hasTenant).desc).map (fun d => d.parameters.length) = some 1 := by decide +kernel
theorem cp_X4_hasTenant : plainFor (mN mX4_hasTenant) = true := by decide +kernel
theorem cd_X4_isSuspended : (mN mX4_isSuspended).cls ≠ "java/lang/invoke/MethodHandle" ∧ (mN mX4_isSuspended).cls ≠ "java/lang/invoke/VarHandle" ∧ (parseMethodDescriptor (mN mX4_isSuspended).desc).map (fun d => d.parameters.length) = some 1 := by decide +kernel
theorem cp_X4_isSuspended : plainFor (mN mX4_isSuspended) = true := by decide +kernel
theorem cd_X4_number : (mN mX4_number).cls ≠ "java/lang/invoke/MethodHandle" ∧ (mN mX4_number).cls ≠ "java/lang/invoke/VarHandle" ∧ (parseMethodDescriptor (mN mX4_number).desc).map (fun d => d.parameters.length) = some 1 := by decide +kernel
theorem cp_X4_number : plainFor (mN mX4_number) = true := by decide +kernel
theorem cd_X4_offeredAt : (mN mX4_offeredAt).cls ≠ "java/lang/invoke/MethodHandle" ∧ (mN mX4_offeredAt).cls ≠ "java/lang/invoke/VarHandle" ∧ (parseMethodDescriptor (mN mX4_offeredAt).desc).map (fun d => d.parameters.length) = some 1 := by decide +kernel
theorem cp_X4_offeredAt : plainFor (mN mX4_offeredAt) = true := by decide +kernel
theorem cd_X4_place : (mN mX4_place).cls ≠ "java/lang/invoke/MethodHandle" ∧ (mN mX4_place).cls ≠ "java/lang/invoke/VarHandle" ∧ (parseMethodDescriptor (mN mX4_place).desc).map (fun d => d.parameters.length) = some 4 := by decide +kernel
theorem cp_X4_place : plainFor (mN mX4_place) = true := by decide +kernel
theorem cd_X4_quantityOf : (mN mX4_quantityOf).cls ≠ "java/lang/invoke/MethodHandle" ∧ (mN mX4_quantityOf).cls ≠ "java/lang/invoke/VarHandle" ∧ (parseMethodDescriptor (mN mX4_quantityOf).desc).map (fun d => d.parameters.length) = some 2 := by decide +kernel
theorem cp_X4_quantityOf : plainFor (mN mX4_quantityOf) = true := by decide +kernel
theorem cd_X4_rankByWealth : (mN mX4_rankByWealth).cls ≠ "java/lang/invoke/MethodHandle" ∧ (mN mX4_rankByWealth).cls ≠ "java/lang/invoke/VarHandle" ∧ (parseMethodDescriptor (mN mX4_rankByWealth).desc).map (fun d => d.parameters.length) = some 1 := by decide +kernel
theorem cp_X4_rankByWealth : plainFor (mN mX4_rankByWealth) = true := by decide +kernel
theorem cd_X4_removeEmptyOrders : (mN mX4_removeEmptyOrders).cls ≠ "java/lang/invoke/MethodHandle" ∧ (mN mX4_removeEmptyOrders).cls ≠ "java/lang/invoke/VarHandle" ∧ (parseMethodDescriptor (mN mX4_removeEmptyOrders).desc).map (fun d => d.parameters.length) = some 0 := by decide +kernel
theorem cp_X4_removeEmptyOrders : plainFor (mN mX4_removeEmptyOrders) = true := by decide +kernel
theorem cd_X4_sendMessages : (mN mX4_sendMessages).cls ≠ "java/lang/invoke/MethodHandle" ∧ (mN mX4_sendMessages).cls ≠ "java/lang/invoke/VarHandle" ∧ (parseMethodDescriptor (mN mX4_sendMessages).desc).map (fun d => d.parameters.length) = some 0 := by decide +kernel
theorem cp_X4_sendMessages : plainFor (mN mX4_sendMessages) = true := by decide +kernel
theorem cd_X4_sendRound : (mN mX4_sendRound).cls ≠ "java/lang/invoke/MethodHandle" ∧ (mN mX4_sendRound).cls ≠ "java/lang/invoke/VarHandle" ∧ (parseMethodDescriptor (mN mX4_sendRound).desc).map (fun d => d.parameters.length) = some 0 := by decide +kernel
theorem cp_X4_sendRound : plainFor (mN mX4_sendRound) = true := by decide +kernel
theorem cd_X4_settle : (mN mX4_settle).cls ≠ "java/lang/invoke/MethodHandle" ∧ (mN mX4_settle).cls ≠ "java/lang/invoke/VarHandle" ∧ (parseMethodDescriptor (mN mX4_settle).desc).map (fun d => d.parameters.length) = some 1 := by decide +kernel
theorem cp_X4_settle : plainFor (mN mX4_settle) = true := by decide +kernel
theorem cd_X4_settleOrder : (mN mX4_settleOrder).cls ≠ "java/lang/invoke/MethodHandle" ∧ (mN mX4_settleOrder).cls ≠ "java/lang/invoke/VarHandle" ∧ (parseMethodDescriptor (mN mX4_settleOrder).desc).map (fun d => d.parameters.length) = some 3 := by decide +kernel
theorem cp_X4_settleOrder : plainFor (mN mX4_settleOrder) = true := by decide +kernel
theorem cd_X4_tenantNumber : (mN mX4_tenantNumber).cls ≠ "java/lang/invoke/MethodHandle" ∧ (mN mX4_tenantNumber).cls ≠ "java/lang/invoke/VarHandle" ∧ (parseMethodDescriptor (mN mX4_tenantNumber).desc).map (fun d => d.parameters.length) = some 2 := by decide +kernel
theorem cp_X4_tenantNumber : plainFor (mN mX4_tenantNumber) = true := by decide +kernel
theorem cd_X4_tryPlace : (mN mX4_tryPlace).cls ≠ "java/lang/invoke/MethodHandle" ∧ (mN mX4_tryPlace).cls ≠ "java/lang/invoke/VarHandle" ∧ (parseMethodDescriptor (mN mX4_tryPlace).desc).map (fun d => d.parameters.length) = some 4 := by decide +kernel
theorem cp_X4_tryPlace : plainFor (mN mX4_tryPlace) = true := by decide +kernel
theorem cd_X4_tryQueue : (mN mX4_tryQueue).cls ≠ "java/lang/invoke/MethodHandle" ∧ (mN mX4_tryQueue).cls ≠ "java/lang/invoke/VarHandle" ∧ (parseMethodDescriptor (mN mX4_tryQueue).desc).map (fun d => d.parameters.length) = some 2 := by decide +kernel
theorem cp_X4_tryQueue : plainFor (mN mX4_tryQueue) = true := by decide +kernel
theorem cd_X4_wantedAt : (mN mX4_wantedAt).cls ≠ "java/lang/invoke/MethodHandle" ∧ (mN mX4_wantedAt).cls ≠ "java/lang/invoke/VarHandle" ∧ (parseMethodDescriptor (mN mX4_wantedAt).desc).map (fun d => d.parameters.length) = some 1 := by decide +kernel
theorem cp_X4_wantedAt : plainFor (mN mX4_wantedAt) = true := by decide +kernel
theorem cd_X4_wealthOf : (mN mX4_wealthOf).cls ≠ "java/lang/invoke/MethodHandle" ∧ (mN mX4_wealthOf).cls ≠ "java/lang/invoke/VarHandle" ∧ (parseMethodDescriptor (mN mX4_wealthOf).desc).map (fun d => d.parameters.length) = some 1 := by decide +kernel
theorem cp_X4_wealthOf : plainFor (mN mX4_wealthOf) = true := by decide +kernel
theorem cd_X4_withdrawAllOf : (mN mX4_withdrawAllOf).cls ≠ "java/lang/invoke/MethodHandle" ∧ (mN mX4_withdrawAllOf).cls ≠ "java/lang/invoke/VarHandle" ∧ (parseMethodDescriptor (mN mX4_withdrawAllOf).desc).map (fun d => d.parameters.length) = some 1 := by decide +kernel
theorem cp_X4_withdrawAllOf : plainFor (mN mX4_withdrawAllOf) = true := by decide +kernel
theorem cd_X4_withdrawOrder : (mN mX4_withdrawOrder).cls ≠ "java/lang/invoke/MethodHandle" ∧ (mN mX4_withdrawOrder).cls ≠ "java/lang/invoke/VarHandle" ∧ (parseMethodDescriptor (mN mX4_withdrawOrder).desc).map (fun d => d.parameters.length) = some 1 := by decide +kernel
theorem cp_X4_withdrawOrder : plainFor (mN mX4_withdrawOrder) = true := by decide +kernel
theorem cd_X5_init : (mN mX5_init).cls ≠ "java/lang/invoke/MethodHandle" ∧ (mN mX5_init).cls ≠ "java/lang/invoke/VarHandle" ∧ (parseMethodDescriptor (mN mX5_init).desc).map (fun d => d.parameters.length) = some 0 := by decide +kernel
theorem cp_X5_init : plainFor (mN mX5_init) = true := by decide +kernel
theorem cd_X5_begin : (mN mX5_begin).cls ≠ "java/lang/invoke/MethodHandle" ∧ (mN mX5_begin).cls ≠ "java/lang/invoke/VarHandle" ∧ (parseMethodDescriptor (mN mX5_begin).desc).map (fun d => d.parameters.length) = some 3 := by decide +kernel
theorem cp_X5_begin : plainFor (mN mX5_begin) = true := by decide +kernel
theorem cd_X5_copyFrom : (mN mX5_copyFrom).cls ≠ "java/lang/invoke/MethodHandle" ∧ (mN mX5_copyFrom).cls ≠ "java/lang/invoke/VarHandle" ∧ (parseMethodDescriptor (mN mX5_copyFrom).desc).map (fun d => d.parameters.length) = some 1 := by decide +kernel
theorem cp_X5_copyFrom : plainFor (mN mX5_copyFrom) = true := by decide +kernel
theorem cd_X5_credits : (mN mX5_credits).cls ≠ "java/lang/invoke/MethodHandle" ∧ (mN mX5_credits).cls ≠ "java/lang/invoke/VarHandle" ∧ (parseMethodDescriptor (mN mX5_credits).desc).map (fun d => d.parameters.length) = some 0 := by decide +kernel
theorem cp_X5_credits : plainFor (mN mX5_credits) = true := by decide +kernel
theorem cd_X5_isQueueFull : (mN mX5_isQueueFull).cls ≠ "java/lang/invoke/MethodHandle" ∧ (mN mX5_isQueueFull).cls ≠ "java/lang/invoke/VarHandle" ∧ (parseMethodDescriptor (mN mX5_isQueueFull).desc).map (fun d => d.parameters.length) = some 0 := by decide +kernel
theorem cp_X5_isQueueFull : plainFor (mN mX5_isQueueFull) = true := by decide +kernel
theorem cd_X5_owe : (mN mX5_owe).cls ≠ "java/lang/invoke/MethodHandle" ∧ (mN mX5_owe).cls ≠ "java/lang/invoke/VarHandle" ∧ (parseMethodDescriptor (mN mX5_owe).desc).map (fun d => d.parameters.length) = some 2 := by decide +kernel
theorem cp_X5_owe : plainFor (mN mX5_owe) = true := by decide +kernel
theorem cd_X5_owedAt : (mN mX5_owedAt).cls ≠ "java/lang/invoke/MethodHandle" ∧ (mN mX5_owedAt).cls ≠ "java/lang/invoke/VarHandle" ∧ (parseMethodDescriptor (mN mX5_owedAt).desc).map (fun d => d.parameters.length) = some 1 := by decide +kernel
theorem cp_X5_owedAt : plainFor (mN mX5_owedAt) = true := by decide +kernel
theorem cd_X5_owedInAll : (mN mX5_owedInAll).cls ≠ "java/lang/invoke/MethodHandle" ∧ (mN mX5_owedInAll).cls ≠ "java/lang/invoke/VarHandle" ∧ (parseMethodDescriptor (mN mX5_owedInAll).desc).map (fun d => d.parameters.length) = some 0 := by decide +kernel
theorem cp_X5_owedInAll : plainFor (mN mX5_owedInAll) = true := by decide +kernel
theorem cd_X5_queueMessage : (mN mX5_queueMessage).cls ≠ "java/lang/invoke/MethodHandle" ∧ (mN mX5_queueMessage).cls ≠ "java/lang/invoke/VarHandle" ∧ (parseMethodDescriptor (mN mX5_queueMessage).desc).map (fun d => d.parameters.length) = some 1 := by decide +kernel
theorem cp_X5_queueMessage : plainFor (mN mX5_queueMessage) = true := by decide +kernel
theorem cd_X5_sendFirst : (mN mX5_sendFirst).cls ≠ "java/lang/invoke/MethodHandle" ∧ (mN mX5_sendFirst).cls ≠ "java/lang/invoke/VarHandle" ∧ (parseMethodDescriptor (mN mX5_sendFirst).desc).map (fun d => d.parameters.length) = some 0 := by decide +kernel
theorem cp_X5_sendFirst : plainFor (mN mX5_sendFirst) = true := by decide +kernel
theorem cd_X5_sizeAt : (mN mX5_sizeAt).cls ≠ "java/lang/invoke/MethodHandle" ∧ (mN mX5_sizeAt).cls ≠ "java/lang/invoke/VarHandle" ∧ (parseMethodDescriptor (mN mX5_sizeAt).desc).map (fun d => d.parameters.length) = some 1 := by decide +kernel
theorem cp_X5_sizeAt : plainFor (mN mX5_sizeAt) = true := by decide +kernel
theorem cd_X5_takeUpTo : (mN mX5_takeUpTo).cls ≠ "java/lang/invoke/MethodHandle" ∧ (mN mX5_takeUpTo).cls ≠ "java/lang/invoke/VarHandle" ∧ (parseMethodDescriptor (mN mX5_takeUpTo).desc).map (fun d => d.parameters.length) = some 1 := by decide +kernel
theorem cp_X5_takeUpTo : plainFor (mN mX5_takeUpTo) = true := by decide +kernel
theorem cd_L_about : (mN mL_about).cls ≠ "java/lang/invoke/MethodHandle" ∧ (mN mL_about).cls ≠ "java/lang/invoke/VarHandle" ∧ (parseMethodDescriptor (mN mL_about).desc).map (fun d => d.parameters.length) = some 3 := by decide +kernel
theorem cp_L_about : plainFor (mN mL_about) = true := by decide +kernel
theorem cq_L_about : plainName (mN mL_about).cls = true := by decide +kernel
theorem cd_L_ahead : (mN mL_ahead).cls ≠ "java/lang/invoke/MethodHandle" ∧ (mN mL_ahead).cls ≠ "java/lang/invoke/VarHandle" ∧ (parseMethodDescriptor (mN mL_ahead).desc).map (fun d => d.parameters.length) = some 5 := by decide +kernel
theorem cp_L_ahead : plainFor (mN mL_ahead) = true := by decide +kernel
theorem cq_L_ahead : plainName (mN mL_ahead).cls = true := by decide +kernel
theorem cd_L_append : (mN mL_append).cls ≠ "java/lang/invoke/MethodHandle" ∧ (mN mL_append).cls ≠ "java/lang/invoke/VarHandle" ∧ (parseMethodDescriptor (mN mL_append).desc).map (fun d => d.parameters.length) = some 3 := by decide +kernel
theorem cp_L_append : plainFor (mN mL_append) = true := by decide +kernel
theorem cq_L_append : plainName (mN mL_append).cls = true := by decide +kernel
theorem cd_L_ask : (mN mL_ask).cls ≠ "java/lang/invoke/MethodHandle" ∧ (mN mL_ask).cls ≠ "java/lang/invoke/VarHandle" ∧ (parseMethodDescriptor (mN mL_ask).desc).map (fun d => d.parameters.length) = some 5 := by decide +kernel
theorem cp_L_ask : plainFor (mN mL_ask) = true := by decide +kernel
theorem cq_L_ask : plainName (mN mL_ask).cls = true := by decide +kernel
theorem cd_L_askShort : (mN mL_askShort).cls ≠ "java/lang/invoke/MethodHandle" ∧ (mN mL_askShort).cls ≠ "java/lang/invoke/VarHandle" ∧ (parseMethodDescriptor (mN mL_askShort).desc).map (fun d => d.parameters.length) = some 5 := by decide +kernel
theorem cp_L_askShort : plainFor (mN mL_askShort) = true := by decide +kernel
theorem cq_L_askShort : plainName (mN mL_askShort).cls = true := by decide +kernel
theorem cd_L_auction : (mN mL_auction).cls ≠ "java/lang/invoke/MethodHandle" ∧ (mN mL_auction).cls ≠ "java/lang/invoke/VarHandle" ∧ (parseMethodDescriptor (mN mL_auction).desc).map (fun d => d.parameters.length) = some 3 := by decide +kernel
theorem cp_L_auction : plainFor (mN mL_auction) = true := by decide +kernel
theorem cq_L_auction : plainName (mN mL_auction).cls = true := by decide +kernel
theorem cd_L_bid : (mN mL_bid).cls ≠ "java/lang/invoke/MethodHandle" ∧ (mN mL_bid).cls ≠ "java/lang/invoke/VarHandle" ∧ (parseMethodDescriptor (mN mL_bid).desc).map (fun d => d.parameters.length) = some 5 := by decide +kernel
theorem cp_L_bid : plainFor (mN mL_bid) = true := by decide +kernel
theorem cq_L_bid : plainName (mN mL_bid).cls = true := by decide +kernel
theorem cd_L_demand : (mN mL_demand).cls ≠ "java/lang/invoke/MethodHandle" ∧ (mN mL_demand).cls ≠ "java/lang/invoke/VarHandle" ∧ (parseMethodDescriptor (mN mL_demand).desc).map (fun d => d.parameters.length) = some 3 := by decide +kernel
theorem cp_L_demand : plainFor (mN mL_demand) = true := by decide +kernel
theorem cq_L_demand : plainName (mN mL_demand).cls = true := by decide +kernel
theorem cd_L_deposit : (mN mL_deposit).cls ≠ "java/lang/invoke/MethodHandle" ∧ (mN mL_deposit).cls ≠ "java/lang/invoke/VarHandle" ∧ (parseMethodDescriptor (mN mL_deposit).desc).map (fun d => d.parameters.length) = some 4 := by decide +kernel
theorem cp_L_deposit : plainFor (mN mL_deposit) = true := by decide +kernel
theorem cq_L_deposit : plainName (mN mL_deposit).cls = true := by decide +kernel
theorem cd_L_load : (mN mL_load).cls ≠ "java/lang/invoke/MethodHandle" ∧ (mN mL_load).cls ≠ "java/lang/invoke/VarHandle" ∧ (parseMethodDescriptor (mN mL_load).desc).map (fun d => d.parameters.length) = some 2 := by decide +kernel
theorem cp_L_load : plainFor (mN mL_load) = true := by decide +kernel
theorem cq_L_load : plainName (mN mL_load).cls = true := by decide +kernel
theorem cd_L_message : (mN mL_message).cls ≠ "java/lang/invoke/MethodHandle" ∧ (mN mL_message).cls ≠ "java/lang/invoke/VarHandle" ∧ (parseMethodDescriptor (mN mL_message).desc).map (fun d => d.parameters.length) = some 4 := by decide +kernel
theorem cp_L_message : plainFor (mN mL_message) = true := by decide +kernel
theorem cq_L_message : plainName (mN mL_message).cls = true := by decide +kernel
theorem cd_L_order : (mN mL_order).cls ≠ "java/lang/invoke/MethodHandle" ∧ (mN mL_order).cls ≠ "java/lang/invoke/VarHandle" ∧ (parseMethodDescriptor (mN mL_order).desc).map (fun d => d.parameters.length) = some 4 := by decide +kernel
theorem cp_L_order : plainFor (mN mL_order) = true := by decide +kernel
theorem cq_L_order : plainName (mN mL_order).cls = true := by decide +kernel
theorem cd_L_priceFor : (mN mL_priceFor).cls ≠ "java/lang/invoke/MethodHandle" ∧ (mN mL_priceFor).cls ≠ "java/lang/invoke/VarHandle" ∧ (parseMethodDescriptor (mN mL_priceFor).desc).map (fun d => d.parameters.length) = some 3 := by decide +kernel
theorem cp_L_priceFor : plainFor (mN mL_priceFor) = true := by decide +kernel
theorem cq_L_priceFor : plainName (mN mL_priceFor).cls = true := by decide +kernel
theorem cd_L_push : (mN mL_push).cls ≠ "java/lang/invoke/MethodHandle" ∧ (mN mL_push).cls ≠ "java/lang/invoke/VarHandle" ∧ (parseMethodDescriptor (mN mL_push).desc).map (fun d => d.parameters.length) = some 4 := by decide +kernel
theorem cp_L_push : plainFor (mN mL_push) = true := by decide +kernel
theorem cq_L_push : plainName (mN mL_push).cls = true := by decide +kernel
theorem cd_L_restore : (mN mL_restore).cls ≠ "java/lang/invoke/MethodHandle" ∧ (mN mL_restore).cls ≠ "java/lang/invoke/VarHandle" ∧ (parseMethodDescriptor (mN mL_restore).desc).map (fun d => d.parameters.length) = some 3 := by decide +kernel
theorem cp_L_restore : plainFor (mN mL_restore) = true := by decide +kernel
theorem cq_L_restore : plainName (mN mL_restore).cls = true := by decide +kernel
theorem cd_L_runScript : (mN mL_runScript).cls ≠ "java/lang/invoke/MethodHandle" ∧ (mN mL_runScript).cls ≠ "java/lang/invoke/VarHandle" ∧ (parseMethodDescriptor (mN mL_runScript).desc).map (fun d => d.parameters.length) = some 4 := by decide +kernel
theorem cp_L_runScript : plainFor (mN mL_runScript) = true := by decide +kernel
theorem cq_L_runScript : plainName (mN mL_runScript).cls = true := by decide +kernel
theorem cd_L_save : (mN mL_save).cls ≠ "java/lang/invoke/MethodHandle" ∧ (mN mL_save).cls ≠ "java/lang/invoke/VarHandle" ∧ (parseMethodDescriptor (mN mL_save).desc).map (fun d => d.parameters.length) = some 3 := by decide +kernel
theorem cp_L_save : plainFor (mN mL_save) = true := by decide +kernel
theorem cq_L_save : plainName (mN mL_save).cls = true := by decide +kernel
theorem cd_L_sentAfter : (mN mL_sentAfter).cls ≠ "java/lang/invoke/MethodHandle" ∧ (mN mL_sentAfter).cls ≠ "java/lang/invoke/VarHandle" ∧ (parseMethodDescriptor (mN mL_sentAfter).desc).map (fun d => d.parameters.length) = some 4 := by decide +kernel
theorem cp_L_sentAfter : plainFor (mN mL_sentAfter) = true := by decide +kernel
theorem cq_L_sentAfter : plainName (mN mL_sentAfter).cls = true := by decide +kernel
theorem cd_L_setRate : (mN mL_setRate).cls ≠ "java/lang/invoke/MethodHandle" ∧ (mN mL_setRate).cls ≠ "java/lang/invoke/VarHandle" ∧ (parseMethodDescriptor (mN mL_setRate).desc).map (fun d => d.parameters.length) = some 4 := by decide +kernel
theorem cp_L_setRate : plainFor (mN mL_setRate) = true := by decide +kernel
theorem cq_L_setRate : plainName (mN mL_setRate).cls = true := by decide +kernel
theorem cd_L_setWidth : (mN mL_setWidth).cls ≠ "java/lang/invoke/MethodHandle" ∧ (mN mL_setWidth).cls ≠ "java/lang/invoke/VarHandle" ∧ (parseMethodDescriptor (mN mL_setWidth).desc).map (fun d => d.parameters.length) = some 3 := by decide +kernel
theorem cp_L_setWidth : plainFor (mN mL_setWidth) = true := by decide +kernel
theorem cq_L_setWidth : plainName (mN mL_setWidth).cls = true := by decide +kernel
theorem cd_L_share : (mN mL_share).cls ≠ "java/lang/invoke/MethodHandle" ∧ (mN mL_share).cls ≠ "java/lang/invoke/VarHandle" ∧ (parseMethodDescriptor (mN mL_share).desc).map (fun d => d.parameters.length) = some 4 := by decide +kernel
theorem cp_L_share : plainFor (mN mL_share) = true := by decide +kernel
theorem cq_L_share : plainName (mN mL_share).cls = true := by decide +kernel
theorem cd_L_simulate : (mN mL_simulate).cls ≠ "java/lang/invoke/MethodHandle" ∧ (mN mL_simulate).cls ≠ "java/lang/invoke/VarHandle" ∧ (parseMethodDescriptor (mN mL_simulate).desc).map (fun d => d.parameters.length) = some 4 := by decide +kernel
theorem cp_L_simulate : plainFor (mN mL_simulate) = true := by decide +kernel
theorem cq_L_simulate : plainName (mN mL_simulate).cls = true := by decide +kernel
theorem cd_L_supply : (mN mL_supply).cls ≠ "java/lang/invoke/MethodHandle" ∧ (mN mL_supply).cls ≠ "java/lang/invoke/VarHandle" ∧ (parseMethodDescriptor (mN mL_supply).desc).map (fun d => d.parameters.length) = some 3 := by decide +kernel
theorem cp_L_supply : plainFor (mN mL_supply) = true := by decide +kernel
theorem cq_L_supply : plainName (mN mL_supply).cls = true := by decide +kernel
theorem cd_L_tenant : (mN mL_tenant).cls ≠ "java/lang/invoke/MethodHandle" ∧ (mN mL_tenant).cls ≠ "java/lang/invoke/VarHandle" ∧ (parseMethodDescriptor (mN mL_tenant).desc).map (fun d => d.parameters.length) = some 4 := by decide +kernel
theorem cp_L_tenant : plainFor (mN mL_tenant) = true := by decide +kernel
theorem cq_L_tenant : plainName (mN mL_tenant).cls = true := by decide +kernel
theorem cd_L_tick : (mN mL_tick).cls ≠ "java/lang/invoke/MethodHandle" ∧ (mN mL_tick).cls ≠ "java/lang/invoke/VarHandle" ∧ (parseMethodDescriptor (mN mL_tick).desc).map (fun d => d.parameters.length) = some 3 := by decide +kernel
theorem cp_L_tick : plainFor (mN mL_tick) = true := by decide +kernel
theorem cq_L_tick : plainName (mN mL_tick).cls = true := by decide +kernel
theorem cd_L_undo : (mN mL_undo).cls ≠ "java/lang/invoke/MethodHandle" ∧ (mN mL_undo).cls ≠ "java/lang/invoke/VarHandle" ∧ (parseMethodDescriptor (mN mL_undo).desc).map (fun d => d.parameters.length) = some 2 := by decide +kernel
theorem cp_L_undo : plainFor (mN mL_undo) = true := by decide +kernel
theorem cq_L_undo : plainName (mN mL_undo).cls = true := by decide +kernel
theorem cd_L_unused : (mN mL_unused).cls ≠ "java/lang/invoke/MethodHandle" ∧ (mN mL_unused).cls ≠ "java/lang/invoke/VarHandle" ∧ (parseMethodDescriptor (mN mL_unused).desc).map (fun d => d.parameters.length) = some 3 := by decide +kernel
theorem cp_L_unused : plainFor (mN mL_unused) = true := by decide +kernel
theorem cq_L_unused : plainName (mN mL_unused).cls = true := by decide +kernel
theorem cd_L_volumeIf : (mN mL_volumeIf).cls ≠ "java/lang/invoke/MethodHandle" ∧ (mN mL_volumeIf).cls ≠ "java/lang/invoke/VarHandle" ∧ (parseMethodDescriptor (mN mL_volumeIf).desc).map (fun d => d.parameters.length) = some 6 := by decide +kernel
theorem cp_L_volumeIf : plainFor (mN mL_volumeIf) = true := by decide +kernel
theorem cq_L_volumeIf : plainName (mN mL_volumeIf).cls = true := by decide +kernel
theorem cd_L_wealthiest : (mN mL_wealthiest).cls ≠ "java/lang/invoke/MethodHandle" ∧ (mN mL_wealthiest).cls ≠ "java/lang/invoke/VarHandle" ∧ (parseMethodDescriptor (mN mL_wealthiest).desc).map (fun d => d.parameters.length) = some 3 := by decide +kernel
theorem cp_L_wealthiest : plainFor (mN mL_wealthiest) = true := by decide +kernel
theorem cq_L_wealthiest : plainName (mN mL_wealthiest).cls = true := by decide +kernel
theorem cd_L_withdraw : (mN mL_withdraw).cls ≠ "java/lang/invoke/MethodHandle" ∧ (mN mL_withdraw).cls ≠ "java/lang/invoke/VarHandle" ∧ (parseMethodDescriptor (mN mL_withdraw).desc).map (fun d => d.parameters.length) = some 3 := by decide +kernel
theorem cp_L_withdraw : plainFor (mN mL_withdraw) = true := by decide +kernel
theorem cq_L_withdraw : plainName (mN mL_withdraw).cls = true := by decide +kernel
theorem cd_X7_init : (mN mX7_init).cls ≠ "java/lang/invoke/MethodHandle" ∧ (mN mX7_init).cls ≠ "java/lang/invoke/VarHandle" ∧ (parseMethodDescriptor (mN mX7_init).desc).map (fun d => d.parameters.length) = some 0 := by decide +kernel
theorem cp_X7_init : plainFor (mN mX7_init) = true := by decide +kernel
theorem cd_X7_about : (mN mX7_about).cls ≠ "java/lang/invoke/MethodHandle" ∧ (mN mX7_about).cls ≠ "java/lang/invoke/VarHandle" ∧ (parseMethodDescriptor (mN mX7_about).desc).map (fun d => d.parameters.length) = some 1 := by decide +kernel
theorem cp_X7_about : plainFor (mN mX7_about) = true := by decide +kernel
theorem cd_X7_addOrder : (mN mX7_addOrder).cls ≠ "java/lang/invoke/MethodHandle" ∧ (mN mX7_addOrder).cls ≠ "java/lang/invoke/VarHandle" ∧ (parseMethodDescriptor (mN mX7_addOrder).desc).map (fun d => d.parameters.length) = some 5 := by decide +kernel
theorem cp_X7_addOrder : plainFor (mN mX7_addOrder) = true := by decide +kernel
theorem cd_X7_ahead : (mN mX7_ahead).cls ≠ "java/lang/invoke/MethodHandle" ∧ (mN mX7_ahead).cls ≠ "java/lang/invoke/VarHandle" ∧ (parseMethodDescriptor (mN mX7_ahead).desc).map (fun d => d.parameters.length) = some 3 := by decide +kernel
theorem cp_X7_ahead : plainFor (mN mX7_ahead) = true := by decide +kernel
theorem cd_X7_append : (mN mX7_append).cls ≠ "java/lang/invoke/MethodHandle" ∧ (mN mX7_append).cls ≠ "java/lang/invoke/VarHandle" ∧ (parseMethodDescriptor (mN mX7_append).desc).map (fun d => d.parameters.length) = some 1 := by decide +kernel
theorem cp_X7_append : plainFor (mN mX7_append) = true := by decide +kernel
theorem cd_X7_ask : (mN mX7_ask).cls ≠ "java/lang/invoke/MethodHandle" ∧ (mN mX7_ask).cls ≠ "java/lang/invoke/VarHandle" ∧ (parseMethodDescriptor (mN mX7_ask).desc).map (fun d => d.parameters.length) = some 3 := by decide +kernel
theorem cp_X7_ask : plainFor (mN mX7_ask) = true := by decide +kernel
theorem cd_X7_askShort : (mN mX7_askShort).cls ≠ "java/lang/invoke/MethodHandle" ∧ (mN mX7_askShort).cls ≠ "java/lang/invoke/VarHandle" ∧ (parseMethodDescriptor (mN mX7_askShort).desc).map (fun d => d.parameters.length) = some 3 := by decide +kernel
theorem cp_X7_askShort : plainFor (mN mX7_askShort) = true := by decide +kernel
theorem cd_X7_at : (mN mX7_at).cls ≠ "java/lang/invoke/MethodHandle" ∧ (mN mX7_at).cls ≠ "java/lang/invoke/VarHandle" ∧ (parseMethodDescriptor (mN mX7_at).desc).map (fun d => d.parameters.length) = some 1 := by decide +kernel
theorem cp_X7_at : plainFor (mN mX7_at) = true := by decide +kernel
theorem cd_X7_atLeast : (mN mX7_atLeast).cls ≠ "java/lang/invoke/MethodHandle" ∧ (mN mX7_atLeast).cls ≠ "java/lang/invoke/VarHandle" ∧ (parseMethodDescriptor (mN mX7_atLeast).desc).map (fun d => d.parameters.length) = some 2 := by decide +kernel
theorem cp_X7_atLeast : plainFor (mN mX7_atLeast) = true := by decide +kernel
theorem cd_X7_auction : (mN mX7_auction).cls ≠ "java/lang/invoke/MethodHandle" ∧ (mN mX7_auction).cls ≠ "java/lang/invoke/VarHandle" ∧ (parseMethodDescriptor (mN mX7_auction).desc).map (fun d => d.parameters.length) = some 1 := by decide +kernel
theorem cp_X7_auction : plainFor (mN mX7_auction) = true := by decide +kernel
theorem cd_X7_auctionOn : (mN mX7_auctionOn).cls ≠ "java/lang/invoke/MethodHandle" ∧ (mN mX7_auctionOn).cls ≠ "java/lang/invoke/VarHandle" ∧ (parseMethodDescriptor (mN mX7_auctionOn).desc).map (fun d => d.parameters.length) = some 1 := by decide +kernel
theorem cp_X7_auctionOn : plainFor (mN mX7_auctionOn) = true := by decide +kernel
theorem cd_X7_benchMore : (mN mX7_benchMore).cls ≠ "java/lang/invoke/MethodHandle" ∧ (mN mX7_benchMore).cls ≠ "java/lang/invoke/VarHandle" ∧ (parseMethodDescriptor (mN mX7_benchMore).desc).map (fun d => d.parameters.length) = some 4 := by decide +kernel
theorem cp_X7_benchMore : plainFor (mN mX7_benchMore) = true := by decide +kernel
theorem cd_X7_bid : (mN mX7_bid).cls ≠ "java/lang/invoke/MethodHandle" ∧ (mN mX7_bid).cls ≠ "java/lang/invoke/VarHandle" ∧ (parseMethodDescriptor (mN mX7_bid).desc).map (fun d => d.parameters.length) = some 3 := by decide +kernel
theorem cp_X7_bid : plainFor (mN mX7_bid) = true := by decide +kernel
theorem cd_X7_clear : (mN mX7_clear).cls ≠ "java/lang/invoke/MethodHandle" ∧ (mN mX7_clear).cls ≠ "java/lang/invoke/VarHandle" ∧ (parseMethodDescriptor (mN mX7_clear).desc).map (fun d => d.parameters.length) = some 1 := by decide +kernel
theorem cp_X7_clear : plainFor (mN mX7_clear) = true := by decide +kernel
theorem cd_X7_clearText : (mN mX7_clearText).cls ≠ "java/lang/invoke/MethodHandle" ∧ (mN mX7_clearText).cls ≠ "java/lang/invoke/VarHandle" ∧ (parseMethodDescriptor (mN mX7_clearText).desc).map (fun d => d.parameters.length) = some 0 := by decide +kernel
theorem cp_X7_clearText : plainFor (mN mX7_clearText) = true := by decide +kernel
theorem cd_X7_collect : (mN mX7_collect).cls ≠ "java/lang/invoke/MethodHandle" ∧ (mN mX7_collect).cls ≠ "java/lang/invoke/VarHandle" ∧ (parseMethodDescriptor (mN mX7_collect).desc).map (fun d => d.parameters.length) = some 2 := by decide +kernel
theorem cp_X7_collect : plainFor (mN mX7_collect) = true := by decide +kernel
theorem cd_X7_command : (mN mX7_command).cls ≠ "java/lang/invoke/MethodHandle" ∧ (mN mX7_command).cls ≠ "java/lang/invoke/VarHandle" ∧ (parseMethodDescriptor (mN mX7_command).desc).map (fun d => d.parameters.length) = some 1 := by decide +kernel
theorem cp_X7_command : plainFor (mN mX7_command) = true := by decide +kernel
theorem cd_X7_copy : (mN mX7_copy).cls ≠ "java/lang/invoke/MethodHandle" ∧ (mN mX7_copy).cls ≠ "java/lang/invoke/VarHandle" ∧ (parseMethodDescriptor (mN mX7_copy).desc).map (fun d => d.parameters.length) = some 4 := by decide +kernel
theorem cp_X7_copy : plainFor (mN mX7_copy) = true := by decide +kernel
theorem cd_X7_credits : (mN mX7_credits).cls ≠ "java/lang/invoke/MethodHandle" ∧ (mN mX7_credits).cls ≠ "java/lang/invoke/VarHandle" ∧ (parseMethodDescriptor (mN mX7_credits).desc).map (fun d => d.parameters.length) = some 2 := by decide +kernel
theorem cp_X7_credits : plainFor (mN mX7_credits) = true := by decide +kernel
theorem cd_X7_debts : (mN mX7_debts).cls ≠ "java/lang/invoke/MethodHandle" ∧ (mN mX7_debts).cls ≠ "java/lang/invoke/VarHandle" ∧ (parseMethodDescriptor (mN mX7_debts).desc).map (fun d => d.parameters.length) = some 2 := by decide +kernel
theorem cp_X7_debts : plainFor (mN mX7_debts) = true := by decide +kernel
theorem cd_X7_demand : (mN mX7_demand).cls ≠ "java/lang/invoke/MethodHandle" ∧ (mN mX7_demand).cls ≠ "java/lang/invoke/VarHandle" ∧ (parseMethodDescriptor (mN mX7_demand).desc).map (fun d => d.parameters.length) = some 1 := by decide +kernel
theorem cp_X7_demand : plainFor (mN mX7_demand) = true := by decide +kernel
theorem cd_X7_deposit : (mN mX7_deposit).cls ≠ "java/lang/invoke/MethodHandle" ∧ (mN mX7_deposit).cls ≠ "java/lang/invoke/VarHandle" ∧ (parseMethodDescriptor (mN mX7_deposit).desc).map (fun d => d.parameters.length) = some 2 := by decide +kernel
theorem cp_X7_deposit : plainFor (mN mX7_deposit) = true := by decide +kernel
theorem cd_X7_divisor : (mN mX7_divisor).cls ≠ "java/lang/invoke/MethodHandle" ∧ (mN mX7_divisor).cls ≠ "java/lang/invoke/VarHandle" ∧ (parseMethodDescriptor (mN mX7_divisor).desc).map (fun d => d.parameters.length) = some 2 := by decide +kernel
theorem cp_X7_divisor : plainFor (mN mX7_divisor) = true := by decide +kernel
theorem cd_X7_errorPosition : (mN mX7_errorPosition).cls ≠ "java/lang/invoke/MethodHandle" ∧ (mN mX7_errorPosition).cls ≠ "java/lang/invoke/VarHandle" ∧ (parseMethodDescriptor (mN mX7_errorPosition).desc).map (fun d => d.parameters.length) = some 0 := by decide +kernel
theorem cp_X7_errorPosition : plainFor (mN mX7_errorPosition) = true := by decide +kernel
theorem cd_X7_factorial : (mN mX7_factorial).cls ≠ "java/lang/invoke/MethodHandle" ∧ (mN mX7_factorial).cls ≠ "java/lang/invoke/VarHandle" ∧ (parseMethodDescriptor (mN mX7_factorial).desc).map (fun d => d.parameters.length) = some 1 := by decide +kernel
theorem cp_X7_factorial : plainFor (mN mX7_factorial) = true := by decide +kernel
theorem cd_X7_fairness : (mN mX7_fairness).cls ≠ "java/lang/invoke/MethodHandle" ∧ (mN mX7_fairness).cls ≠ "java/lang/invoke/VarHandle" ∧ (parseMethodDescriptor (mN mX7_fairness).desc).map (fun d => d.parameters.length) = some 1 := by decide +kernel
theorem cp_X7_fairness : plainFor (mN mX7_fairness) = true := by decide +kernel
theorem cd_X7_goneBy : (mN mX7_goneBy).cls ≠ "java/lang/invoke/MethodHandle" ∧ (mN mX7_goneBy).cls ≠ "java/lang/invoke/VarHandle" ∧ (parseMethodDescriptor (mN mX7_goneBy).desc).map (fun d => d.parameters.length) = some 0 := by decide +kernel
theorem cp_X7_goneBy : plainFor (mN mX7_goneBy) = true := by decide +kernel
theorem cd_X7_in : (mN mX7_in).cls ≠ "java/lang/invoke/MethodHandle" ∧ (mN mX7_in).cls ≠ "java/lang/invoke/VarHandle" ∧ (parseMethodDescriptor (mN mX7_in).desc).map (fun d => d.parameters.length) = some 3 := by decide +kernel
theorem cp_X7_in : plainFor (mN mX7_in) = true := by decide +kernel
theorem cd_X7_inBook : (mN mX7_inBook).cls ≠ "java/lang/invoke/MethodHandle" ∧ (mN mX7_inBook).cls ≠ "java/lang/invoke/VarHandle" ∧ (parseMethodDescriptor (mN mX7_inBook).desc).map (fun d => d.parameters.length) = some 4 := by decide +kernel
theorem cp_X7_inBook : plainFor (mN mX7_inBook) = true := by decide +kernel
theorem cd_X7_isBefore : (mN mX7_isBefore).cls ≠ "java/lang/invoke/MethodHandle" ∧ (mN mX7_isBefore).cls ≠ "java/lang/invoke/VarHandle" ∧ (parseMethodDescriptor (mN mX7_isBefore).desc).map (fun d => d.parameters.length) = some 2 := by decide +kernel
theorem cp_X7_isBefore : plainFor (mN mX7_isBefore) = true := by decide +kernel
theorem cd_X7_isOrder : (mN mX7_isOrder).cls ≠ "java/lang/invoke/MethodHandle" ∧ (mN mX7_isOrder).cls ≠ "java/lang/invoke/VarHandle" ∧ (parseMethodDescriptor (mN mX7_isOrder).desc).map (fun d => d.parameters.length) = some 1 := by decide +kernel
theorem cp_X7_isOrder : plainFor (mN mX7_isOrder) = true := by decide +kernel
theorem cd_X7_isRoomLeft : (mN mX7_isRoomLeft).cls ≠ "java/lang/invoke/MethodHandle" ∧ (mN mX7_isRoomLeft).cls ≠ "java/lang/invoke/VarHandle" ∧ (parseMethodDescriptor (mN mX7_isRoomLeft).desc).map (fun d => d.parameters.length) = some 0 := by decide +kernel
theorem cp_X7_isRoomLeft : plainFor (mN mX7_isRoomLeft) = true := by decide +kernel
theorem cd_X7_isSuspended : (mN mX7_isSuspended).cls ≠ "java/lang/invoke/MethodHandle" ∧ (mN mX7_isSuspended).cls ≠ "java/lang/invoke/VarHandle" ∧ (parseMethodDescriptor (mN mX7_isSuspended).desc).map (fun d => d.parameters.length) = some 2 := by decide +kernel
theorem cp_X7_isSuspended : plainFor (mN mX7_isSuspended) = true := by decide +kernel
theorem cd_X7_isTenant : (mN mX7_isTenant).cls ≠ "java/lang/invoke/MethodHandle" ∧ (mN mX7_isTenant).cls ≠ "java/lang/invoke/VarHandle" ∧ (parseMethodDescriptor (mN mX7_isTenant).desc).map (fun d => d.parameters.length) = some 2 := by decide +kernel
theorem cp_X7_isTenant : plainFor (mN mX7_isTenant) = true := by decide +kernel
theorem cd_X7_layBench : (mN mX7_layBench).cls ≠ "java/lang/invoke/MethodHandle" ∧ (mN mX7_layBench).cls ≠ "java/lang/invoke/VarHandle" ∧ (parseMethodDescriptor (mN mX7_layBench).desc).map (fun d => d.parameters.length) = some 2 := by decide +kernel
theorem cp_X7_layBench : plainFor (mN mX7_layBench) = true := by decide +kernel
theorem cd_X7_laySide : (mN mX7_laySide).cls ≠ "java/lang/invoke/MethodHandle" ∧ (mN mX7_laySide).cls ≠ "java/lang/invoke/VarHandle" ∧ (parseMethodDescriptor (mN mX7_laySide).desc).map (fun d => d.parameters.length) = some 2 := by decide +kernel
theorem cp_X7_laySide : plainFor (mN mX7_laySide) = true := by decide +kernel
theorem cd_X7_lesser : (mN mX7_lesser).cls ≠ "java/lang/invoke/MethodHandle" ∧ (mN mX7_lesser).cls ≠ "java/lang/invoke/VarHandle" ∧ (parseMethodDescriptor (mN mX7_lesser).desc).map (fun d => d.parameters.length) = some 2 := by decide +kernel
theorem cp_X7_lesser : plainFor (mN mX7_lesser) = true := by decide +kernel
theorem cd_X7_load : (mN mX7_load).cls ≠ "java/lang/invoke/MethodHandle" ∧ (mN mX7_load).cls ≠ "java/lang/invoke/VarHandle" ∧ (parseMethodDescriptor (mN mX7_load).desc).map (fun d => d.parameters.length) = some 0 := by decide +kernel
theorem cp_X7_load : plainFor (mN mX7_load) = true := by decide +kernel
theorem cd_X7_match : (mN mX7_match).cls ≠ "java/lang/invoke/MethodHandle" ∧ (mN mX7_match).cls ≠ "java/lang/invoke/VarHandle" ∧ (parseMethodDescriptor (mN mX7_match).desc).map (fun d => d.parameters.length) = some 0 := by decide +kernel
theorem cp_X7_match : plainFor (mN mX7_match) = true := by decide +kernel
theorem cd_X7_message : (mN mX7_message).cls ≠ "java/lang/invoke/MethodHandle" ∧ (mN mX7_message).cls ≠ "java/lang/invoke/VarHandle" ∧ (parseMethodDescriptor (mN mX7_message).desc).map (fun d => d.parameters.length) = some 2 := by decide +kernel
theorem cp_X7_message : plainFor (mN mX7_message) = true := by decide +kernel
theorem cd_X7_million : (mN mX7_million).cls ≠ "java/lang/invoke/MethodHandle" ∧ (mN mX7_million).cls ≠ "java/lang/invoke/VarHandle" ∧ (parseMethodDescriptor (mN mX7_million).desc).map (fun d => d.parameters.length) = some 1 := by decide +kernel
theorem cp_X7_million : plainFor (mN mX7_million) = true := by decide +kernel
theorem cd_X7_note : (mN mX7_note).cls ≠ "java/lang/invoke/MethodHandle" ∧ (mN mX7_note).cls ≠ "java/lang/invoke/VarHandle" ∧ (parseMethodDescriptor (mN mX7_note).desc).map (fun d => d.parameters.length) = some 0 := by decide +kernel
theorem cp_X7_note : plainFor (mN mX7_note) = true := by decide +kernel
theorem cd_X7_number : (mN mX7_number).cls ≠ "java/lang/invoke/MethodHandle" ∧ (mN mX7_number).cls ≠ "java/lang/invoke/VarHandle" ∧ (parseMethodDescriptor (mN mX7_number).desc).map (fun d => d.parameters.length) = some 3 := by decide +kernel
theorem cp_X7_number : plainFor (mN mX7_number) = true := by decide +kernel
theorem cd_X7_ones : (mN mX7_ones).cls ≠ "java/lang/invoke/MethodHandle" ∧ (mN mX7_ones).cls ≠ "java/lang/invoke/VarHandle" ∧ (parseMethodDescriptor (mN mX7_ones).desc).map (fun d => d.parameters.length) = some 1 := by decide +kernel
theorem cp_X7_ones : plainFor (mN mX7_ones) = true := by decide +kernel
theorem cd_X7_order : (mN mX7_order).cls ≠ "java/lang/invoke/MethodHandle" ∧ (mN mX7_order).cls ≠ "java/lang/invoke/VarHandle" ∧ (parseMethodDescriptor (mN mX7_order).desc).map (fun d => d.parameters.length) = some 2 := by decide +kernel
theorem cp_X7_order : plainFor (mN mX7_order) = true := by decide +kernel
theorem cd_X7_orderAt : (mN mX7_orderAt).cls ≠ "java/lang/invoke/MethodHandle" ∧ (mN mX7_orderAt).cls ≠ "java/lang/invoke/VarHandle" ∧ (parseMethodDescriptor (mN mX7_orderAt).desc).map (fun d => d.parameters.length) = some 1 := by decide +kernel
theorem cp_X7_orderAt : plainFor (mN mX7_orderAt) = true := by decide +kernel
theorem cd_X7_orderBy : (mN mX7_orderBy).cls ≠ "java/lang/invoke/MethodHandle" ∧ (mN mX7_orderBy).cls ≠ "java/lang/invoke/VarHandle" ∧ (parseMethodDescriptor (mN mX7_orderBy).desc).map (fun d => d.parameters.length) = some 4 := by decide +kernel
theorem cp_X7_orderBy : plainFor (mN mX7_orderBy) = true := by decide +kernel
theorem cd_X7_orders : (mN mX7_orders).cls ≠ "java/lang/invoke/MethodHandle" ∧ (mN mX7_orders).cls ≠ "java/lang/invoke/VarHandle" ∧ (parseMethodDescriptor (mN mX7_orders).desc).map (fun d => d.parameters.length) = some 5 := by decide +kernel
theorem cp_X7_orders : plainFor (mN mX7_orders) = true := by decide +kernel
theorem cd_X7_passes : (mN mX7_passes).cls ≠ "java/lang/invoke/MethodHandle" ∧ (mN mX7_passes).cls ≠ "java/lang/invoke/VarHandle" ∧ (parseMethodDescriptor (mN mX7_passes).desc).map (fun d => d.parameters.length) = some 1 := by decide +kernel
theorem cp_X7_passes : plainFor (mN mX7_passes) = true := by decide +kernel
theorem cd_X7_priceFor : (mN mX7_priceFor).cls ≠ "java/lang/invoke/MethodHandle" ∧ (mN mX7_priceFor).cls ≠ "java/lang/invoke/VarHandle" ∧ (parseMethodDescriptor (mN mX7_priceFor).desc).map (fun d => d.parameters.length) = some 1 := by decide +kernel
theorem cp_X7_priceFor : plainFor (mN mX7_priceFor) = true := by decide +kernel
theorem cd_X7_push : (mN mX7_push).cls ≠ "java/lang/invoke/MethodHandle" ∧ (mN mX7_push).cls ≠ "java/lang/invoke/VarHandle" ∧ (parseMethodDescriptor (mN mX7_push).desc).map (fun d => d.parameters.length) = some 2 := by decide +kernel
theorem cp_X7_push : plainFor (mN mX7_push) = true := by decide +kernel
theorem cd_X7_pushOn : (mN mX7_pushOn).cls ≠ "java/lang/invoke/MethodHandle" ∧ (mN mX7_pushOn).cls ≠ "java/lang/invoke/VarHandle" ∧ (parseMethodDescriptor (mN mX7_pushOn).desc).map (fun d => d.parameters.length) = some 3 := by decide +kernel
theorem cp_X7_pushOn : plainFor (mN mX7_pushOn) = true := by decide +kernel
theorem cd_X7_pushes : (mN mX7_pushes).cls ≠ "java/lang/invoke/MethodHandle" ∧ (mN mX7_pushes).cls ≠ "java/lang/invoke/VarHandle" ∧ (parseMethodDescriptor (mN mX7_pushes).desc).map (fun d => d.parameters.length) = some 3 := by decide +kernel
theorem cp_X7_pushes : plainFor (mN mX7_pushes) = true := by decide +kernel
theorem cd_X7_readHead : (mN mX7_readHead).cls ≠ "java/lang/invoke/MethodHandle" ∧ (mN mX7_readHead).cls ≠ "java/lang/invoke/VarHandle" ∧ (parseMethodDescriptor (mN mX7_readHead).desc).map (fun d => d.parameters.length) = some 0 := by decide +kernel
theorem cp_X7_readHead : plainFor (mN mX7_readHead) = true := by decide +kernel
theorem cd_X7_readMessage : (mN mX7_readMessage).cls ≠ "java/lang/invoke/MethodHandle" ∧ (mN mX7_readMessage).cls ≠ "java/lang/invoke/VarHandle" ∧ (parseMethodDescriptor (mN mX7_readMessage).desc).map (fun d => d.parameters.length) = some 0 := by decide +kernel
theorem cp_X7_readMessage : plainFor (mN mX7_readMessage) = true := by decide +kernel
theorem cd_X7_readTenant : (mN mX7_readTenant).cls ≠ "java/lang/invoke/MethodHandle" ∧ (mN mX7_readTenant).cls ≠ "java/lang/invoke/VarHandle" ∧ (parseMethodDescriptor (mN mX7_readTenant).desc).map (fun d => d.parameters.length) = some 0 := by decide +kernel
theorem cp_X7_readTenant : plainFor (mN mX7_readTenant) = true := by decide +kernel
theorem cd_X7_readText : (mN mX7_readText).cls ≠ "java/lang/invoke/MethodHandle" ∧ (mN mX7_readText).cls ≠ "java/lang/invoke/VarHandle" ∧ (parseMethodDescriptor (mN mX7_readText).desc).map (fun d => d.parameters.length) = some 0 := by decide +kernel
theorem cp_X7_readText : plainFor (mN mX7_readText) = true := by decide +kernel
theorem cd_X7_refused : (mN mX7_refused).cls ≠ "java/lang/invoke/MethodHandle" ∧ (mN mX7_refused).cls ≠ "java/lang/invoke/VarHandle" ∧ (parseMethodDescriptor (mN mX7_refused).desc).map (fun d => d.parameters.length) = some 1 := by decide +kernel
theorem cp_X7_refused : plainFor (mN mX7_refused) = true := by decide +kernel
theorem cd_X7_removeOrder : (mN mX7_removeOrder).cls ≠ "java/lang/invoke/MethodHandle" ∧ (mN mX7_removeOrder).cls ≠ "java/lang/invoke/VarHandle" ∧ (parseMethodDescriptor (mN mX7_removeOrder).desc).map (fun d => d.parameters.length) = some 2 := by decide +kernel
theorem cp_X7_removeOrder : plainFor (mN mX7_removeOrder) = true := by decide +kernel
theorem cd_X7_restore : (mN mX7_restore).cls ≠ "java/lang/invoke/MethodHandle" ∧ (mN mX7_restore).cls ≠ "java/lang/invoke/VarHandle" ∧ (parseMethodDescriptor (mN mX7_restore).desc).map (fun d => d.parameters.length) = some 1 := by decide +kernel
theorem cp_X7_restore : plainFor (mN mX7_restore) = true := by decide +kernel
theorem cd_X7_runScript : (mN mX7_runScript).cls ≠ "java/lang/invoke/MethodHandle" ∧ (mN mX7_runScript).cls ≠ "java/lang/invoke/VarHandle" ∧ (parseMethodDescriptor (mN mX7_runScript).desc).map (fun d => d.parameters.length) = some 2 := by decide +kernel
theorem cp_X7_runScript : plainFor (mN mX7_runScript) = true := by decide +kernel
theorem cd_X7_save : (mN mX7_save).cls ≠ "java/lang/invoke/MethodHandle" ∧ (mN mX7_save).cls ≠ "java/lang/invoke/VarHandle" ∧ (parseMethodDescriptor (mN mX7_save).desc).map (fun d => d.parameters.length) = some 1 := by decide +kernel
theorem cp_X7_save : plainFor (mN mX7_save) = true := by decide +kernel
theorem cd_X7_sendAll : (mN mX7_sendAll).cls ≠ "java/lang/invoke/MethodHandle" ∧ (mN mX7_sendAll).cls ≠ "java/lang/invoke/VarHandle" ∧ (parseMethodDescriptor (mN mX7_sendAll).desc).map (fun d => d.parameters.length) = some 1 := by decide +kernel
theorem cp_X7_sendAll : plainFor (mN mX7_sendAll) = true := by decide +kernel
theorem cd_X7_sends : (mN mX7_sends).cls ≠ "java/lang/invoke/MethodHandle" ∧ (mN mX7_sends).cls ≠ "java/lang/invoke/VarHandle" ∧ (parseMethodDescriptor (mN mX7_sends).desc).map (fun d => d.parameters.length) = some 2 := by decide +kernel
theorem cp_X7_sends : plainFor (mN mX7_sends) = true := by decide +kernel
theorem cd_X7_sentAfter : (mN mX7_sentAfter).cls ≠ "java/lang/invoke/MethodHandle" ∧ (mN mX7_sentAfter).cls ≠ "java/lang/invoke/VarHandle" ∧ (parseMethodDescriptor (mN mX7_sentAfter).desc).map (fun d => d.parameters.length) = some 2 := by decide +kernel
theorem cp_X7_sentAfter : plainFor (mN mX7_sentAfter) = true := by decide +kernel
theorem cd_X7_setRate : (mN mX7_setRate).cls ≠ "java/lang/invoke/MethodHandle" ∧ (mN mX7_setRate).cls ≠ "java/lang/invoke/VarHandle" ∧ (parseMethodDescriptor (mN mX7_setRate).desc).map (fun d => d.parameters.length) = some 2 := by decide +kernel
theorem cp_X7_setRate : plainFor (mN mX7_setRate) = true := by decide +kernel
theorem cd_X7_setWidth : (mN mX7_setWidth).cls ≠ "java/lang/invoke/MethodHandle" ∧ (mN mX7_setWidth).cls ≠ "java/lang/invoke/VarHandle" ∧ (parseMethodDescriptor (mN mX7_setWidth).desc).map (fun d => d.parameters.length) = some 1 := by decide +kernel
theorem cp_X7_setWidth : plainFor (mN mX7_setWidth) = true := by decide +kernel
theorem cd_X7_settle : (mN mX7_settle).cls ≠ "java/lang/invoke/MethodHandle" ∧ (mN mX7_settle).cls ≠ "java/lang/invoke/VarHandle" ∧ (parseMethodDescriptor (mN mX7_settle).desc).map (fun d => d.parameters.length) = some 2 := by decide +kernel
theorem cp_X7_settle : plainFor (mN mX7_settle) = true := by decide +kernel
theorem cd_X7_share : (mN mX7_share).cls ≠ "java/lang/invoke/MethodHandle" ∧ (mN mX7_share).cls ≠ "java/lang/invoke/VarHandle" ∧ (parseMethodDescriptor (mN mX7_share).desc).map (fun d => d.parameters.length) = some 2 := by decide +kernel
theorem cp_X7_share : plainFor (mN mX7_share) = true := by decide +kernel
theorem cd_X7_simulate : (mN mX7_simulate).cls ≠ "java/lang/invoke/MethodHandle" ∧ (mN mX7_simulate).cls ≠ "java/lang/invoke/VarHandle" ∧ (parseMethodDescriptor (mN mX7_simulate).desc).map (fun d => d.parameters.length) = some 2 := by decide +kernel
theorem cp_X7_simulate : plainFor (mN mX7_simulate) = true := by decide +kernel
theorem cd_X7_supply : (mN mX7_supply).cls ≠ "java/lang/invoke/MethodHandle" ∧ (mN mX7_supply).cls ≠ "java/lang/invoke/VarHandle" ∧ (parseMethodDescriptor (mN mX7_supply).desc).map (fun d => d.parameters.length) = some 1 := by decide +kernel
theorem cp_X7_supply : plainFor (mN mX7_supply) = true := by decide +kernel
theorem cd_X7_takeCredits : (mN mX7_takeCredits).cls ≠ "java/lang/invoke/MethodHandle" ∧ (mN mX7_takeCredits).cls ≠ "java/lang/invoke/VarHandle" ∧ (parseMethodDescriptor (mN mX7_takeCredits).desc).map (fun d => d.parameters.length) = some 3 := by decide +kernel
theorem cp_X7_takeCredits : plainFor (mN mX7_takeCredits) = true := by decide +kernel
theorem cd_X7_tell : (mN mX7_tell).cls ≠ "java/lang/invoke/MethodHandle" ∧ (mN mX7_tell).cls ≠ "java/lang/invoke/VarHandle" ∧ (parseMethodDescriptor (mN mX7_tell).desc).map (fun d => d.parameters.length) = some 3 := by decide +kernel
theorem cp_X7_tell : plainFor (mN mX7_tell) = true := by decide +kernel
theorem cd_X7_tenant : (mN mX7_tenant).cls ≠ "java/lang/invoke/MethodHandle" ∧ (mN mX7_tenant).cls ≠ "java/lang/invoke/VarHandle" ∧ (parseMethodDescriptor (mN mX7_tenant).desc).map (fun d => d.parameters.length) = some 2 := by decide +kernel
theorem cp_X7_tenant : plainFor (mN mX7_tenant) = true := by decide +kernel
theorem cd_X7_thrown : (mN mX7_thrown).cls ≠ "java/lang/invoke/MethodHandle" ∧ (mN mX7_thrown).cls ≠ "java/lang/invoke/VarHandle" ∧ (parseMethodDescriptor (mN mX7_thrown).desc).map (fun d => d.parameters.length) = some 0 := by decide +kernel
theorem cp_X7_thrown : plainFor (mN mX7_thrown) = true := by decide +kernel
theorem cd_X7_tick : (mN mX7_tick).cls ≠ "java/lang/invoke/MethodHandle" ∧ (mN mX7_tick).cls ≠ "java/lang/invoke/VarHandle" ∧ (parseMethodDescriptor (mN mX7_tick).desc).map (fun d => d.parameters.length) = some 1 := by decide +kernel
theorem cp_X7_tick : plainFor (mN mX7_tick) = true := by decide +kernel
theorem cd_X7_tickOn : (mN mX7_tickOn).cls ≠ "java/lang/invoke/MethodHandle" ∧ (mN mX7_tickOn).cls ≠ "java/lang/invoke/VarHandle" ∧ (parseMethodDescriptor (mN mX7_tickOn).desc).map (fun d => d.parameters.length) = some 1 := by decide +kernel
theorem cp_X7_tickOn : plainFor (mN mX7_tickOn) = true := by decide +kernel
theorem cd_X7_ticksOn : (mN mX7_ticksOn).cls ≠ "java/lang/invoke/MethodHandle" ∧ (mN mX7_ticksOn).cls ≠ "java/lang/invoke/VarHandle" ∧ (parseMethodDescriptor (mN mX7_ticksOn).desc).map (fun d => d.parameters.length) = some 2 := by decide +kernel
theorem cp_X7_ticksOn : plainFor (mN mX7_ticksOn) = true := by decide +kernel
theorem cd_X7_undo : (mN mX7_undo).cls ≠ "java/lang/invoke/MethodHandle" ∧ (mN mX7_undo).cls ≠ "java/lang/invoke/VarHandle" ∧ (parseMethodDescriptor (mN mX7_undo).desc).map (fun d => d.parameters.length) = some 0 := by decide +kernel
theorem cp_X7_undo : plainFor (mN mX7_undo) = true := by decide +kernel
theorem cd_X7_unused : (mN mX7_unused).cls ≠ "java/lang/invoke/MethodHandle" ∧ (mN mX7_unused).cls ≠ "java/lang/invoke/VarHandle" ∧ (parseMethodDescriptor (mN mX7_unused).desc).map (fun d => d.parameters.length) = some 1 := by decide +kernel
theorem cp_X7_unused : plainFor (mN mX7_unused) = true := by decide +kernel
theorem cd_X7_volumeIf : (mN mX7_volumeIf).cls ≠ "java/lang/invoke/MethodHandle" ∧ (mN mX7_volumeIf).cls ≠ "java/lang/invoke/VarHandle" ∧ (parseMethodDescriptor (mN mX7_volumeIf).desc).map (fun d => d.parameters.length) = some 4 := by decide +kernel
theorem cp_X7_volumeIf : plainFor (mN mX7_volumeIf) = true := by decide +kernel
theorem cd_X7_wealth : (mN mX7_wealth).cls ≠ "java/lang/invoke/MethodHandle" ∧ (mN mX7_wealth).cls ≠ "java/lang/invoke/VarHandle" ∧ (parseMethodDescriptor (mN mX7_wealth).desc).map (fun d => d.parameters.length) = some 1 := by decide +kernel
theorem cp_X7_wealth : plainFor (mN mX7_wealth) = true := by decide +kernel
theorem cd_X7_wealthiest : (mN mX7_wealthiest).cls ≠ "java/lang/invoke/MethodHandle" ∧ (mN mX7_wealthiest).cls ≠ "java/lang/invoke/VarHandle" ∧ (parseMethodDescriptor (mN mX7_wealthiest).desc).map (fun d => d.parameters.length) = some 1 := by decide +kernel
theorem cp_X7_wealthiest : plainFor (mN mX7_wealthiest) = true := by decide +kernel
theorem cd_X7_whyNot : (mN mX7_whyNot).cls ≠ "java/lang/invoke/MethodHandle" ∧ (mN mX7_whyNot).cls ≠ "java/lang/invoke/VarHandle" ∧ (parseMethodDescriptor (mN mX7_whyNot).desc).map (fun d => d.parameters.length) = some 5 := by decide +kernel
theorem cp_X7_whyNot : plainFor (mN mX7_whyNot) = true := by decide +kernel
theorem cd_X7_whyNotPushed : (mN mX7_whyNotPushed).cls ≠ "java/lang/invoke/MethodHandle" ∧ (mN mX7_whyNotPushed).cls ≠ "java/lang/invoke/VarHandle" ∧ (parseMethodDescriptor (mN mX7_whyNotPushed).desc).map (fun d => d.parameters.length) = some 3 := by decide +kernel
theorem cp_X7_whyNotPushed : plainFor (mN mX7_whyNotPushed) = true := by decide +kernel
theorem cd_X7_withdraw : (mN mX7_withdraw).cls ≠ "java/lang/invoke/MethodHandle" ∧ (mN mX7_withdraw).cls ≠ "java/lang/invoke/VarHandle" ∧ (parseMethodDescriptor (mN mX7_withdraw).desc).map (fun d => d.parameters.length) = some 1 := by decide +kernel
theorem cp_X7_withdraw : plainFor (mN mX7_withdraw) = true := by decide +kernel
theorem cd_X7_withdrawAll : (mN mX7_withdrawAll).cls ≠ "java/lang/invoke/MethodHandle" ∧ (mN mX7_withdrawAll).cls ≠ "java/lang/invoke/VarHandle" ∧ (parseMethodDescriptor (mN mX7_withdrawAll).desc).map (fun d => d.parameters.length) = some 2 := by decide +kernel
theorem cp_X7_withdrawAll : plainFor (mN mX7_withdrawAll) = true := by decide +kernel
theorem cd_X7_withdrawFrom : (mN mX7_withdrawFrom).cls ≠ "java/lang/invoke/MethodHandle" ∧ (mN mX7_withdrawFrom).cls ≠ "java/lang/invoke/VarHandle" ∧ (parseMethodDescriptor (mN mX7_withdrawFrom).desc).map (fun d => d.parameters.length) = some 2 := by decide +kernel
theorem cp_X7_withdrawFrom : plainFor (mN mX7_withdrawFrom) = true := by decide +kernel
theorem cd_J6_bitCount_0f7a4 : (mN mJ6_bitCount_0f7a4).cls ≠ "java/lang/invoke/MethodHandle" ∧ (mN mJ6_bitCount_0f7a4).cls ≠ "java/lang/invoke/VarHandle" ∧ (parseMethodDescriptor (mN mJ6_bitCount_0f7a4).desc).map (fun d => d.parameters.length) = some 1 := by decide +kernel
theorem cp_J6_bitCount_0f7a4 : plainFor (mN mJ6_bitCount_0f7a4) = true := by decide +kernel
theorem cd_J9_abs_067f4 : (mN mJ9_abs_067f4).cls ≠ "java/lang/invoke/MethodHandle" ∧ (mN mJ9_abs_067f4).cls ≠ "java/lang/invoke/VarHandle" ∧ (parseMethodDescriptor (mN mJ9_abs_067f4).desc).map (fun d => d.parameters.length) = some 1 := by decide +kernel
theorem cp_J9_abs_067f4 : plainFor (mN mJ9_abs_067f4) = true := by decide +kernel
theorem cd_J9_floorMod_7cf53 : (mN mJ9_floorMod_7cf53).cls ≠ "java/lang/invoke/MethodHandle" ∧ (mN mJ9_floorMod_7cf53).cls ≠ "java/lang/invoke/VarHandle" ∧ (parseMethodDescriptor (mN mJ9_floorMod_7cf53).desc).map (fun d => d.parameters.length) = some 2 := by decide +kernel
theorem cp_J9_floorMod_7cf53 : plainFor (mN mJ9_floorMod_7cf53) = true := by decide +kernel
theorem cd_J9_max_f86c9 : (mN mJ9_max_f86c9).cls ≠ "java/lang/invoke/MethodHandle" ∧ (mN mJ9_max_f86c9).cls ≠ "java/lang/invoke/VarHandle" ∧ (parseMethodDescriptor (mN mJ9_max_f86c9).desc).map (fun d => d.parameters.length) = some 2 := by decide +kernel
theorem cp_J9_max_f86c9 : plainFor (mN mJ9_max_f86c9) = true := by decide +kernel
theorem cd_J9_min_7cf53 : (mN mJ9_min_7cf53).cls ≠ "java/lang/invoke/MethodHandle" ∧ (mN mJ9_min_7cf53).cls ≠ "java/lang/invoke/VarHandle" ∧ (parseMethodDescriptor (mN mJ9_min_7cf53).desc).map (fun d => d.parameters.length) = some 2 := by decide +kernel
theorem cp_J9_min_7cf53 : plainFor (mN mJ9_min_7cf53) = true := by decide +kernel
theorem cs_X0_hold_24 : CV mX0_hold 24 mX0_gather 2 0 := ⟨⟨cp_X0_gather, rfl, wc_X0_gather, wn_X0, wl_X0_24, cd_X0_gather, ⟨by decide, by decide⟩⟩, wi_X0_gather, ws_X0_gather, _, _, rfl⟩
theorem cs_X0_hold_28 : CV mX0_hold 28 mX0_match 0 0 := ⟨⟨cp_X0_match, rfl, wc_X0_match, wn_X0, wl_X0_28, cd_X0_match, ⟨by decide, by decide⟩⟩, wi_X0_match, ws_X0_match, _, _, rfl⟩
theorem cs_X0_gather_58 : CV mX0_gather 58 mX0_add 3 0 := ⟨⟨cp_X0_add, rfl, wc_X0_add, wn_X0, wl_X0_58, cd_X0_add, ⟨by decide, by decide⟩⟩, wi_X0_add, ws_X0_add, _, _, rfl⟩
theorem cs_X0_match_69 : CV mX0_match 69 mX0_firstBidLeft 0 0 := ⟨⟨cp_X0_firstBidLeft, rfl, wc_X0_firstBidLeft, wn_X0, wl_X0_69, cd_X0_firstBidLeft, ⟨by decide, by decide⟩⟩, wi_X0_firstBidLeft, ws_X0_firstBidLeft, _, _, rfl⟩
theorem cs_X0_match_73 : CV mX0_match 73 mX0_firstAskLeft 0 0 := ⟨⟨cp_X0_firstAskLeft, rfl, wc_X0_firstAskLeft, wn_X0, wl_X0_73, cd_X0_firstAskLeft, ⟨by decide, by decide⟩⟩, wi_X0_firstAskLeft, ws_X0_firstAskLeft, _, _, rfl⟩
theorem cs_X0_match_76 : CS mX0_match 76 mJ9_min_7cf53 2 := ⟨⟨cp_J9_min_7cf53, rfl, wc_J9_min_7cf53, wn_J9, wl_X0_76, cd_J9_min_7cf53, ⟨by decide, by decide⟩⟩, wt_J9_min_7cf53⟩
theorem cs_X0_match_82 : CV mX0_match 82 mX0_fill 2 0 := ⟨⟨cp_X0_fill, rfl, wc_X0_fill, wn_X0, wl_X0_82, cd_X0_fill, ⟨by decide, by decide⟩⟩, wi_X0_fill, ws_X0_fill, _, _, rfl⟩
theorem cs_X0_firstAskLeft_86 : CV mX0_firstAskLeft 86 mX0_isAskBefore 2 0 := ⟨⟨cp_X0_isAskBefore, rfl, wc_X0_isAskBefore, wn_X0, wl_X0_86, cd_X0_isAskBefore, ⟨by decide, by decide⟩⟩, wi_X0_isAskBefore, ws_X0_isAskBefore, _, _, rfl⟩
theorem cs_X1_readInto_26 : CV mX1_readInto 26 mX1_readLink 1 1 := ⟨⟨cp_X1_readLink, rfl, wc_X1_readLink, wn_X1, wl_X1_26, cd_X1_readLink, ⟨by decide, by decide⟩⟩, wi_X1_readLink, ws_X1_readLink, _, _, rfl⟩
theorem cs_X1_readInto_30 : CV mX1_readInto 30 mX1_readTenants 1 1 := ⟨⟨cp_X1_readTenants, rfl, wc_X1_readTenants, wn_X1, wl_X1_30, cd_X1_readTenants, ⟨by decide, by decide⟩⟩, wi_X1_readTenants, ws_X1_readTenants, _, _, rfl⟩
theorem cs_X1_readInto_33 : CV mX1_readInto 33 mX1_readMessages 1 1 := ⟨⟨cp_X1_readMessages, rfl, wc_X1_readMessages, wn_X1, wl_X1_33, cd_X1_readMessages, ⟨by decide, by decide⟩⟩, wi_X1_readMessages, ws_X1_readMessages, _, _, rfl⟩
theorem cs_X1_readLink_36 : CV mX1_readLink 36 mX1_readLetter 1 1 := ⟨⟨cp_X1_readLetter, rfl, wc_X1_readLetter, wn_X1, wl_X1_36, cd_X1_readLetter, ⟨by decide, by decide⟩⟩, wi_X1_readLetter, ws_X1_readLetter, _, _, rfl⟩
theorem cs_X1_readLink_40 : CV mX1_readLink 40 mX1_readNumber 3 1 := ⟨⟨cp_X1_readNumber, rfl, wc_X1_readNumber, wn_X1, wl_X1_40, cd_X1_readNumber, ⟨by decide, by decide⟩⟩, wi_X1_readNumber, ws_X1_readNumber, _, _, rfl⟩
theorem cs_X1_readLink_44 : CV mX1_readLink 44 mX4_begin 4 4 := ⟨⟨cp_X4_begin, rfl, wc_X4_begin, wn_X4, wl_X1_44, cd_X4_begin, ⟨by decide, by decide⟩⟩, wi_X4_begin, ws_X4_begin, _, _, rfl⟩
theorem cs_X1_readTenants_50 : CV mX1_readTenants 50 mX1_sign 0 1 := ⟨⟨cp_X1_sign, rfl, wc_X1_sign, wn_X1, wl_X1_50, cd_X1_sign, ⟨by decide, by decide⟩⟩, wi_X1_sign, ws_X1_sign, _, _, rfl⟩
theorem cs_X1_readTenants_36 : CV mX1_readTenants 36 mX1_readLetter 1 1 := ⟨⟨cp_X1_readLetter, rfl, wc_X1_readLetter, wn_X1, wl_X1_36, cd_X1_readLetter, ⟨by decide, by decide⟩⟩, wi_X1_readLetter, ws_X1_readLetter, _, _, rfl⟩
theorem cs_X1_readTenants_40 : CV mX1_readTenants 40 mX1_readNumber 3 1 := ⟨⟨cp_X1_readNumber, rfl, wc_X1_readNumber, wn_X1, wl_X1_40, cd_X1_readNumber, ⟨by decide, by decide⟩⟩, wi_X1_readNumber, ws_X1_readNumber, _, _, rfl⟩
theorem cs_X1_readTenants_54 : CV mX1_readTenants 54 mX4_addTenant 3 4 := ⟨⟨cp_X4_addTenant, rfl, wc_X4_addTenant, wn_X4, wl_X1_54, cd_X4_addTenant, ⟨by decide, by decide⟩⟩, wi_X4_addTenant, ws_X4_addTenant, _, _, rfl⟩
theorem cs_X1_readMessages_58 : CV mX1_readMessages 58 mX4_areAllQueuesFull 0 4 := ⟨⟨cp_X4_areAllQueuesFull, rfl, wc_X4_areAllQueuesFull, wn_X4, wl_X1_58, cd_X4_areAllQueuesFull, ⟨by decide, by decide⟩⟩, wi_X4_areAllQueuesFull, ws_X4_areAllQueuesFull, _, _, rfl⟩
theorem cs_X1_readMessages_36 : CV mX1_readMessages 36 mX1_readLetter 1 1 := ⟨⟨cp_X1_readLetter, rfl, wc_X1_readLetter, wn_X1, wl_X1_36, cd_X1_readLetter, ⟨by decide, by decide⟩⟩, wi_X1_readLetter, ws_X1_readLetter, _, _, rfl⟩
theorem cs_X1_readMessages_62 : CV mX1_readMessages 62 mX1_readQueue 1 1 := ⟨⟨cp_X1_readQueue, rfl, wc_X1_readQueue, wn_X1, wl_X1_62, cd_X1_readQueue, ⟨by decide, by decide⟩⟩, wi_X1_readQueue, ws_X1_readQueue, _, _, rfl⟩
theorem cs_X1_readMessages_40 : CV mX1_readMessages 40 mX1_readNumber 3 1 := ⟨⟨cp_X1_readNumber, rfl, wc_X1_readNumber, wn_X1, wl_X1_40, cd_X1_readNumber, ⟨by decide, by decide⟩⟩, wi_X1_readNumber, ws_X1_readNumber, _, _, rfl⟩
theorem cs_X1_readMessages_70 : CV mX1_readMessages 70 mX5_queueMessage 1 5 := ⟨⟨cp_X5_queueMessage, rfl, wc_X5_queueMessage, wn_X5, wl_X1_70, cd_X5_queueMessage, ⟨by decide, by decide⟩⟩, wi_X5_queueMessage, ws_X5_queueMessage, _, _, rfl⟩
theorem cs_X1_readLetter_50 : CV mX1_readLetter 50 mX1_sign 0 1 := ⟨⟨cp_X1_sign, rfl, wc_X1_sign, wn_X1, wl_X1_50, cd_X1_sign, ⟨by decide, by decide⟩⟩, wi_X1_sign, ws_X1_sign, _, _, rfl⟩
theorem cs_X1_readQueue_50 : CV mX1_readQueue 50 mX1_sign 0 1 := ⟨⟨cp_X1_sign, rfl, wc_X1_sign, wn_X1, wl_X1_50, cd_X1_sign, ⟨by decide, by decide⟩⟩, wi_X1_sign, ws_X1_sign, _, _, rfl⟩
theorem cs_X1_readQueue_76 : CV mX1_readQueue 76 mX4_hasTenant 1 4 := ⟨⟨cp_X4_hasTenant, rfl, wc_X4_hasTenant, wn_X4, wl_X1_76, cd_X4_hasTenant, ⟨by decide, by decide⟩⟩, wi_X4_hasTenant, ws_X4_hasTenant, _, _, rfl⟩
theorem cs_X1_readQueue_80 : CV mX1_readQueue 80 mX5_isQueueFull 0 5 := ⟨⟨cp_X5_isQueueFull, rfl, wc_X5_isQueueFull, wn_X5, wl_X1_80, cd_X5_isQueueFull, ⟨by decide, by decide⟩⟩, wi_X5_isQueueFull, ws_X5_isQueueFull, _, _, rfl⟩
theorem cs_X1_readNumber_50 : CV mX1_readNumber 50 mX1_sign 0 1 := ⟨⟨cp_X1_sign, rfl, wc_X1_sign, wn_X1, wl_X1_50, cd_X1_sign, ⟨by decide, by decide⟩⟩, wi_X1_sign, ws_X1_sign, _, _, rfl⟩
theorem cs_X2_remember_21 : CI mX2_remember 21 mX4_init 0 := ⟨⟨cp_X4_init, rfl, wc_X4_init, wn_X4, wl_X2_21, cd_X4_init, ⟨by decide, by decide⟩⟩, rfl, rfl, wi_X4_init⟩
theorem cs_X2_remember_22 : CV mX2_remember 22 mX4_copyFrom 1 4 := ⟨⟨cp_X4_copyFrom, rfl, wc_X4_copyFrom, wn_X4, wl_X2_22, cd_X4_copyFrom, ⟨by decide, by decide⟩⟩, wi_X4_copyFrom, ws_X4_copyFrom, _, _, rfl⟩
theorem cs_X2_remember_29 : CS mX2_remember 29 mJ9_min_7cf53 2 := ⟨⟨cp_J9_min_7cf53, rfl, wc_J9_min_7cf53, wn_J9, wl_X2_29, cd_J9_min_7cf53, ⟨by decide, by decide⟩⟩, wt_J9_min_7cf53⟩
theorem cs_X2_takeBack_22 : CV mX2_takeBack 22 mX4_copyFrom 1 4 := ⟨⟨cp_X4_copyFrom, rfl, wc_X4_copyFrom, wn_X4, wl_X2_22, cd_X4_copyFrom, ⟨by decide, by decide⟩⟩, wi_X4_copyFrom, ws_X4_copyFrom, _, _, rfl⟩
theorem cs_X4_init_23 : CIN mX4_init 23 mX5_init 0 := ⟨⟨cp_X5_init, rfl, wc_X5_init, wn_X5, by decide +kernel, cd_X5_init, ⟨by decide, by decide⟩⟩, rfl, rfl, wi_X5_init⟩
theorem cs_X4_init_24 : CIN mX4_init 24 mX3_init 0 := ⟨⟨cp_X3_init, rfl, wc_X3_init, wn_X3, by decide +kernel, cd_X3_init, ⟨by decide, by decide⟩⟩, rfl, rfl, wi_X3_init⟩
theorem cs_X4_addTenant_56 : CV mX4_addTenant 56 mX5_begin 3 5 := ⟨⟨cp_X5_begin, rfl, wc_X5_begin, wn_X5, wl_X4_56, cd_X5_begin, ⟨by decide, by decide⟩⟩, wi_X5_begin, ws_X5_begin, _, _, rfl⟩
theorem cs_X4_copyFrom_60 : CV mX4_copyFrom 60 mX5_copyFrom 1 5 := ⟨⟨cp_X5_copyFrom, rfl, wc_X5_copyFrom, wn_X5, wl_X4_60, cd_X5_copyFrom, ⟨by decide, by decide⟩⟩, wi_X5_copyFrom, ws_X5_copyFrom, _, _, rfl⟩
theorem cs_X4_copyFrom_76 : CV mX4_copyFrom 76 mX3_begin 4 3 := ⟨⟨cp_X3_begin, rfl, wc_X3_begin, wn_X3, wl_X4_76, cd_X3_begin, ⟨by decide, by decide⟩⟩, wi_X3_begin, ws_X3_begin, _, _, rfl⟩
theorem cs_X4_areAllQueuesFull_82 : CV mX4_areAllQueuesFull 82 mX5_isQueueFull 0 5 := ⟨⟨cp_X5_isQueueFull, rfl, wc_X5_isQueueFull, wn_X5, wl_X4_82, cd_X5_isQueueFull, ⟨by decide, by decide⟩⟩, wi_X5_isQueueFull, ws_X5_isQueueFull, _, _, rfl⟩
theorem cs_X4_tenantNumber_101 : CV mX4_tenantNumber 101 mX4_quantityOf 2 4 := ⟨⟨cp_X4_quantityOf, rfl, wc_X4_quantityOf, wn_X4, wl_X4_101, cd_X4_quantityOf, ⟨by decide, by decide⟩⟩, wi_X4_quantityOf, ws_X4_quantityOf, _, _, rfl⟩
theorem cs_X4_tenantNumber_105 : CV mX4_tenantNumber 105 mX4_cashSetAside 1 4 := ⟨⟨cp_X4_cashSetAside, rfl, wc_X4_cashSetAside, wn_X4, wl_X4_105, cd_X4_cashSetAside, ⟨by decide, by decide⟩⟩, wi_X4_cashSetAside, ws_X4_cashSetAside, _, _, rfl⟩
theorem cs_X4_tenantNumber_109 : CV mX4_tenantNumber 109 mX5_owedInAll 0 5 := ⟨⟨cp_X5_owedInAll, rfl, wc_X5_owedInAll, wn_X5, wl_X4_109, cd_X5_owedInAll, ⟨by decide, by decide⟩⟩, wi_X5_owedInAll, ws_X5_owedInAll, _, _, rfl⟩
theorem cs_X4_tenantNumber_113 : CV mX4_tenantNumber 113 mX4_earliestDueTime 1 4 := ⟨⟨cp_X4_earliestDueTime, rfl, wc_X4_earliestDueTime, wn_X4, wl_X4_113, cd_X4_earliestDueTime, ⟨by decide, by decide⟩⟩, wi_X4_earliestDueTime, ws_X4_earliestDueTime, _, _, rfl⟩
theorem cs_X4_tenantNumber_123 : CV mX4_tenantNumber 123 mX4_isSuspended 1 4 := ⟨⟨cp_X4_isSuspended, rfl, wc_X4_isSuspended, wn_X4, wl_X4_123, cd_X4_isSuspended, ⟨by decide, by decide⟩⟩, wi_X4_isSuspended, ws_X4_isSuspended, _, _, rfl⟩
theorem cs_X4_earliestDueTime_127 : CV mX4_earliestDueTime 127 mX5_owedAt 1 5 := ⟨⟨cp_X5_owedAt, rfl, wc_X5_owedAt, wn_X5, wl_X4_127, cd_X5_owedAt, ⟨by decide, by decide⟩⟩, wi_X5_owedAt, ws_X5_owedAt, _, _, rfl⟩
theorem cs_X4_wealthOf_130 : CV mX4_wealthOf 130 mX5_credits 0 5 := ⟨⟨cp_X5_credits, rfl, wc_X5_credits, wn_X5, wl_X4_130, cd_X5_credits, ⟨by decide, by decide⟩⟩, wi_X5_credits, ws_X5_credits, _, _, rfl⟩
theorem cs_X4_wealthOf_101 : CV mX4_wealthOf 101 mX4_quantityOf 2 4 := ⟨⟨cp_X4_quantityOf, rfl, wc_X4_quantityOf, wn_X4, wl_X4_101, cd_X4_quantityOf, ⟨by decide, by decide⟩⟩, wi_X4_quantityOf, ws_X4_quantityOf, _, _, rfl⟩
theorem cs_X4_wealthOf_109 : CV mX4_wealthOf 109 mX5_owedInAll 0 5 := ⟨⟨cp_X5_owedInAll, rfl, wc_X5_owedInAll, wn_X5, wl_X4_109, cd_X5_owedInAll, ⟨by decide, by decide⟩⟩, wi_X5_owedInAll, ws_X5_owedInAll, _, _, rfl⟩
theorem cs_X4_wealthOf_105 : CV mX4_wealthOf 105 mX4_cashSetAside 1 4 := ⟨⟨cp_X4_cashSetAside, rfl, wc_X4_cashSetAside, wn_X4, wl_X4_105, cd_X4_cashSetAside, ⟨by decide, by decide⟩⟩, wi_X4_cashSetAside, ws_X4_cashSetAside, _, _, rfl⟩
theorem cs_X4_rankByWealth_133 : CV mX4_rankByWealth 133 mX4_wealthOf 1 4 := ⟨⟨cp_X4_wealthOf, rfl, wc_X4_wealthOf, wn_X4, wl_X4_133, cd_X4_wealthOf, ⟨by decide, by decide⟩⟩, wi_X4_wealthOf, ws_X4_wealthOf, _, _, rfl⟩
theorem cs_X4_canPlace_123 : CV mX4_canPlace 123 mX4_isSuspended 1 4 := ⟨⟨cp_X4_isSuspended, rfl, wc_X4_isSuspended, wn_X4, wl_X4_123, cd_X4_isSuspended, ⟨by decide, by decide⟩⟩, wi_X4_isSuspended, ws_X4_isSuspended, _, _, rfl⟩
theorem cs_X4_canPlace_130 : CV mX4_canPlace 130 mX5_credits 0 5 := ⟨⟨cp_X5_credits, rfl, wc_X5_credits, wn_X5, wl_X4_130, cd_X5_credits, ⟨by decide, by decide⟩⟩, wi_X5_credits, ws_X5_credits, _, _, rfl⟩
theorem cs_X4_canPlace_109 : CV mX4_canPlace 109 mX5_owedInAll 0 5 := ⟨⟨cp_X5_owedInAll, rfl, wc_X5_owedInAll, wn_X5, wl_X4_109, cd_X5_owedInAll, ⟨by decide, by decide⟩⟩, wi_X5_owedInAll, ws_X5_owedInAll, _, _, rfl⟩
theorem cs_X4_canPlace_101 : CV mX4_canPlace 101 mX4_quantityOf 2 4 := ⟨⟨cp_X4_quantityOf, rfl, wc_X4_quantityOf, wn_X4, wl_X4_101, cd_X4_quantityOf, ⟨by decide, by decide⟩⟩, wi_X4_quantityOf, ws_X4_quantityOf, _, _, rfl⟩
theorem cs_X4_place_136 : CV mX4_place 136 mX5_takeUpTo 1 5 := ⟨⟨cp_X5_takeUpTo, rfl, wc_X5_takeUpTo, wn_X5, wl_X4_136, cd_X5_takeUpTo, ⟨by decide, by decide⟩⟩, wi_X5_takeUpTo, ws_X5_takeUpTo, _, _, rfl⟩
theorem cs_X4_place_76 : CV mX4_place 76 mX3_begin 4 3 := ⟨⟨cp_X3_begin, rfl, wc_X3_begin, wn_X3, wl_X4_76, cd_X3_begin, ⟨by decide, by decide⟩⟩, wi_X3_begin, ws_X3_begin, _, _, rfl⟩
theorem cs_X4_tryPlace_139 : CV mX4_tryPlace 139 mX4_hasTenant 1 4 := ⟨⟨cp_X4_hasTenant, rfl, wc_X4_hasTenant, wn_X4, wl_X4_139, cd_X4_hasTenant, ⟨by decide, by decide⟩⟩, wi_X4_hasTenant, ws_X4_hasTenant, _, _, rfl⟩
theorem cs_X4_tryPlace_143 : CSN mX4_tryPlace 143 mX6_isTwoDigits 1 := ⟨⟨cp_X6_isTwoDigits, rfl, wc_X6_isTwoDigits, wn_X6, by decide +kernel, cd_X6_isTwoDigits, ⟨by decide, by decide⟩⟩, wt_X6_isTwoDigits⟩
theorem cs_X4_tryPlace_146 : CV mX4_tryPlace 146 mX4_canPlace 4 4 := ⟨⟨cp_X4_canPlace, rfl, wc_X4_canPlace, wn_X4, wl_X4_146, cd_X4_canPlace, ⟨by decide, by decide⟩⟩, wi_X4_canPlace, ws_X4_canPlace, _, _, rfl⟩
theorem cs_X4_tryPlace_150 : CV mX4_tryPlace 150 mX4_place 4 4 := ⟨⟨cp_X4_place, rfl, wc_X4_place, wn_X4, wl_X4_150, cd_X4_place, ⟨by decide, by decide⟩⟩, wi_X4_place, ws_X4_place, _, _, rfl⟩
theorem cs_X4_tryQueue_139 : CV mX4_tryQueue 139 mX4_hasTenant 1 4 := ⟨⟨cp_X4_hasTenant, rfl, wc_X4_hasTenant, wn_X4, wl_X4_139, cd_X4_hasTenant, ⟨by decide, by decide⟩⟩, wi_X4_hasTenant, ws_X4_hasTenant, _, _, rfl⟩
theorem cs_X4_tryQueue_143 : CSN mX4_tryQueue 143 mX6_isTwoDigits 1 := ⟨⟨cp_X6_isTwoDigits, rfl, wc_X6_isTwoDigits, wn_X6, by decide +kernel, cd_X6_isTwoDigits, ⟨by decide, by decide⟩⟩, wt_X6_isTwoDigits⟩
theorem cs_X4_tryQueue_82 : CV mX4_tryQueue 82 mX5_isQueueFull 0 5 := ⟨⟨cp_X5_isQueueFull, rfl, wc_X5_isQueueFull, wn_X5, wl_X4_82, cd_X5_isQueueFull, ⟨by decide, by decide⟩⟩, wi_X5_isQueueFull, ws_X5_isQueueFull, _, _, rfl⟩
theorem cs_X4_tryQueue_154 : CV mX4_tryQueue 154 mX5_queueMessage 1 5 := ⟨⟨cp_X5_queueMessage, rfl, wc_X5_queueMessage, wn_X5, wl_X4_154, cd_X5_queueMessage, ⟨by decide, by decide⟩⟩, wi_X5_queueMessage, ws_X5_queueMessage, _, _, rfl⟩
theorem cs_X4_withdrawOrder_157 : CV mX4_withdrawOrder 157 mX4_giveBack 1 4 := ⟨⟨cp_X4_giveBack, rfl, wc_X4_giveBack, wn_X4, wl_X4_157, cd_X4_giveBack, ⟨by decide, by decide⟩⟩, wi_X4_giveBack, ws_X4_giveBack, _, _, rfl⟩
theorem cs_X4_withdrawOrder_161 : CV mX4_withdrawOrder 161 mX4_removeEmptyOrders 0 4 := ⟨⟨cp_X4_removeEmptyOrders, rfl, wc_X4_removeEmptyOrders, wn_X4, wl_X4_161, cd_X4_removeEmptyOrders, ⟨by decide, by decide⟩⟩, wi_X4_removeEmptyOrders, ws_X4_removeEmptyOrders, _, _, rfl⟩
theorem cs_X4_withdrawAllOf_157 : CV mX4_withdrawAllOf 157 mX4_giveBack 1 4 := ⟨⟨cp_X4_giveBack, rfl, wc_X4_giveBack, wn_X4, wl_X4_157, cd_X4_giveBack, ⟨by decide, by decide⟩⟩, wi_X4_giveBack, ws_X4_giveBack, _, _, rfl⟩
theorem cs_X4_withdrawAllOf_161 : CV mX4_withdrawAllOf 161 mX4_removeEmptyOrders 0 4 := ⟨⟨cp_X4_removeEmptyOrders, rfl, wc_X4_removeEmptyOrders, wn_X4, wl_X4_161, cd_X4_removeEmptyOrders, ⟨by decide, by decide⟩⟩, wi_X4_removeEmptyOrders, ws_X4_removeEmptyOrders, _, _, rfl⟩
theorem cs_X4_advance_164 : CV mX4_advance 164 mX4_fillBuckets 0 4 := ⟨⟨cp_X4_fillBuckets, rfl, wc_X4_fillBuckets, wn_X4, wl_X4_164, cd_X4_fillBuckets, ⟨by decide, by decide⟩⟩, wi_X4_fillBuckets, ws_X4_fillBuckets, _, _, rfl⟩
theorem cs_X4_advance_167 : CV mX4_advance 167 mX4_sendMessages 0 4 := ⟨⟨cp_X4_sendMessages, rfl, wc_X4_sendMessages, wn_X4, wl_X4_167, cd_X4_sendMessages, ⟨by decide, by decide⟩⟩, wi_X4_sendMessages, ws_X4_sendMessages, _, _, rfl⟩
theorem cs_X4_advance_170 : CV mX4_advance 170 mX0_hold 1 0 := ⟨⟨cp_X0_hold, rfl, wc_X0_hold, wn_X0, wl_X4_170, cd_X0_hold, ⟨by decide, by decide⟩⟩, wi_X0_hold, ws_X0_hold, _, _, rfl⟩
theorem cs_X4_advance_176 : CV mX4_advance 176 mX4_settle 1 4 := ⟨⟨cp_X4_settle, rfl, wc_X4_settle, wn_X4, wl_X4_176, cd_X4_settle, ⟨by decide, by decide⟩⟩, wi_X4_settle, ws_X4_settle, _, _, rfl⟩
theorem cs_X4_advance_180 : CV mX4_advance 180 mX4_collectDebts 0 4 := ⟨⟨cp_X4_collectDebts, rfl, wc_X4_collectDebts, wn_X4, wl_X4_180, cd_X4_collectDebts, ⟨by decide, by decide⟩⟩, wi_X4_collectDebts, ws_X4_collectDebts, _, _, rfl⟩
theorem cs_X4_fillBuckets_123 : CV mX4_fillBuckets 123 mX4_isSuspended 1 4 := ⟨⟨cp_X4_isSuspended, rfl, wc_X4_isSuspended, wn_X4, wl_X4_123, cd_X4_isSuspended, ⟨by decide, by decide⟩⟩, wi_X4_isSuspended, ws_X4_isSuspended, _, _, rfl⟩
theorem cs_X4_fillBuckets_183 : CS mX4_fillBuckets 183 mJ9_min_7cf53 2 := ⟨⟨cp_J9_min_7cf53, rfl, wc_J9_min_7cf53, wn_J9, wl_X4_183, cd_J9_min_7cf53, ⟨by decide, by decide⟩⟩, wt_J9_min_7cf53⟩
theorem cs_X4_sendMessages_188 : CV mX4_sendMessages 188 mX4_sendRound 0 4 := ⟨⟨cp_X4_sendRound, rfl, wc_X4_sendRound, wn_X4, wl_X4_188, cd_X4_sendRound, ⟨by decide, by decide⟩⟩, wi_X4_sendRound, ws_X4_sendRound, _, _, rfl⟩
theorem cs_X4_sendRound_191 : CS mX4_sendRound 191 mJ9_floorMod_7cf53 2 := ⟨⟨cp_J9_floorMod_7cf53, rfl, wc_J9_floorMod_7cf53, wn_J9, wl_X4_191, cd_J9_floorMod_7cf53, ⟨by decide, by decide⟩⟩, wt_J9_floorMod_7cf53⟩
theorem cs_X4_sendRound_194 : CV mX4_sendRound 194 mX4_canSend 1 4 := ⟨⟨cp_X4_canSend, rfl, wc_X4_canSend, wn_X4, wl_X4_194, cd_X4_canSend, ⟨by decide, by decide⟩⟩, wi_X4_canSend, ws_X4_canSend, _, _, rfl⟩
theorem cs_X4_sendRound_197 : CV mX4_sendRound 197 mX5_sendFirst 0 5 := ⟨⟨cp_X5_sendFirst, rfl, wc_X5_sendFirst, wn_X5, wl_X4_197, cd_X5_sendFirst, ⟨by decide, by decide⟩⟩, wi_X5_sendFirst, ws_X5_sendFirst, _, _, rfl⟩
theorem cs_X4_canSend_123 : CV mX4_canSend 123 mX4_isSuspended 1 4 := ⟨⟨cp_X4_isSuspended, rfl, wc_X4_isSuspended, wn_X4, wl_X4_123, cd_X4_isSuspended, ⟨by decide, by decide⟩⟩, wi_X4_isSuspended, ws_X4_isSuspended, _, _, rfl⟩
theorem cs_X4_canSend_200 : CV mX4_canSend 200 mX5_sizeAt 1 5 := ⟨⟨cp_X5_sizeAt, rfl, wc_X5_sizeAt, wn_X5, wl_X4_200, cd_X5_sizeAt, ⟨by decide, by decide⟩⟩, wi_X5_sizeAt, ws_X5_sizeAt, _, _, rfl⟩
theorem cs_X4_canSend_130 : CV mX4_canSend 130 mX5_credits 0 5 := ⟨⟨cp_X5_credits, rfl, wc_X5_credits, wn_X5, wl_X4_130, cd_X5_credits, ⟨by decide, by decide⟩⟩, wi_X5_credits, ws_X5_credits, _, _, rfl⟩
theorem cs_X4_settle_207 : CV mX4_settle 207 mX0_fillOf 1 0 := ⟨⟨cp_X0_fillOf, rfl, wc_X0_fillOf, wn_X0, wl_X4_207, cd_X0_fillOf, ⟨by decide, by decide⟩⟩, wi_X0_fillOf, ws_X0_fillOf, _, _, rfl⟩
theorem cs_X4_settle_210 : CV mX4_settle 210 mX4_settleOrder 3 4 := ⟨⟨cp_X4_settleOrder, rfl, wc_X4_settleOrder, wn_X4, wl_X4_210, cd_X4_settleOrder, ⟨by decide, by decide⟩⟩, wi_X4_settleOrder, ws_X4_settleOrder, _, _, rfl⟩
theorem cs_X4_settle_161 : CV mX4_settle 161 mX4_removeEmptyOrders 0 4 := ⟨⟨cp_X4_removeEmptyOrders, rfl, wc_X4_removeEmptyOrders, wn_X4, wl_X4_161, cd_X4_removeEmptyOrders, ⟨by decide, by decide⟩⟩, wi_X4_removeEmptyOrders, ws_X4_removeEmptyOrders, _, _, rfl⟩
theorem cs_X4_settleOrder_214 : CV mX4_settleOrder 214 mX5_owe 2 5 := ⟨⟨cp_X5_owe, rfl, wc_X5_owe, wn_X5, wl_X4_214, cd_X5_owe, ⟨by decide, by decide⟩⟩, wi_X5_owe, ws_X5_owe, _, _, rfl⟩
theorem cs_X4_collectDebts_127 : CV mX4_collectDebts 127 mX5_owedAt 1 5 := ⟨⟨cp_X5_owedAt, rfl, wc_X5_owedAt, wn_X5, wl_X4_127, cd_X5_owedAt, ⟨by decide, by decide⟩⟩, wi_X5_owedAt, ws_X5_owedAt, _, _, rfl⟩
theorem cs_X4_collectDebts_214 : CV mX4_collectDebts 214 mX5_owe 2 5 := ⟨⟨cp_X5_owe, rfl, wc_X5_owe, wn_X5, wl_X4_214, cd_X5_owe, ⟨by decide, by decide⟩⟩, wi_X5_owe, ws_X5_owe, _, _, rfl⟩
theorem cs_X4_collectDebts_218 : CV mX4_collectDebts 218 mX4_collect 2 4 := ⟨⟨cp_X4_collect, rfl, wc_X4_collect, wn_X4, wl_X4_218, cd_X4_collect, ⟨by decide, by decide⟩⟩, wi_X4_collect, ws_X4_collect, _, _, rfl⟩
theorem cs_X4_collect_136 : CV mX4_collect 136 mX5_takeUpTo 1 5 := ⟨⟨cp_X5_takeUpTo, rfl, wc_X5_takeUpTo, wn_X5, wl_X4_136, cd_X5_takeUpTo, ⟨by decide, by decide⟩⟩, wi_X5_takeUpTo, ws_X5_takeUpTo, _, _, rfl⟩
theorem cs_X4_collect_221 : CV mX4_collect 221 mX4_withdrawAllOf 1 4 := ⟨⟨cp_X4_withdrawAllOf, rfl, wc_X4_withdrawAllOf, wn_X4, wl_X4_221, cd_X4_withdrawAllOf, ⟨by decide, by decide⟩⟩, wi_X4_withdrawAllOf, ws_X4_withdrawAllOf, _, _, rfl⟩
theorem cs_X5_takeUpTo_49 : CS mX5_takeUpTo 49 mJ9_min_7cf53 2 := ⟨⟨cp_J9_min_7cf53, rfl, wc_J9_min_7cf53, wn_J9, wl_X5_49, cd_J9_min_7cf53, ⟨by decide, by decide⟩⟩, wt_J9_min_7cf53⟩
theorem cs_X5_sendFirst_55 : CV mX5_sendFirst 55 mX5_takeUpTo 1 5 := ⟨⟨cp_X5_takeUpTo, rfl, wc_X5_takeUpTo, wn_X5, wl_X5_55, cd_X5_takeUpTo, ⟨by decide, by decide⟩⟩, wi_X5_takeUpTo, ws_X5_takeUpTo, _, _, rfl⟩
theorem cs_X5_owe_59 : CS mX5_owe 59 mJ9_floorMod_7cf53 2 := ⟨⟨cp_J9_floorMod_7cf53, rfl, wc_J9_floorMod_7cf53, wn_J9, wl_X5_59, cd_J9_floorMod_7cf53, ⟨by decide, by decide⟩⟩, wt_J9_floorMod_7cf53⟩
theorem cs_X5_owedAt_59 : CS mX5_owedAt 59 mJ9_floorMod_7cf53 2 := ⟨⟨cp_J9_floorMod_7cf53, rfl, wc_J9_floorMod_7cf53, wn_J9, wl_X5_59, cd_J9_floorMod_7cf53, ⟨by decide, by decide⟩⟩, wt_J9_floorMod_7cf53⟩
theorem cs_X6_init_11 : CI mX6_init 11 mX4_init 0 := ⟨⟨cp_X4_init, rfl, wc_X4_init, wn_X4, wl_X6_11, cd_X4_init, ⟨by decide, by decide⟩⟩, rfl, rfl, wi_X4_init⟩
theorem cs_X6_init_21 : CIN mX6_init 21 mX0_init 0 := ⟨⟨cp_X0_init, rfl, wc_X0_init, wn_X0, by decide +kernel, cd_X0_init, ⟨by decide, by decide⟩⟩, rfl, rfl, wi_X0_init⟩
theorem cs_X6_init_28 : CIN mX6_init 28 mX2_init 0 := ⟨⟨cp_X2_init, rfl, wc_X2_init, wn_X2, by decide +kernel, cd_X2_init, ⟨by decide, by decide⟩⟩, rfl, rfl, wi_X2_init⟩
theorem cs_X6_init_43 : CIN mX6_init 43 mX1_init 0 := ⟨⟨cp_X1_init, rfl, wc_X1_init, wn_X1, by decide +kernel, cd_X1_init, ⟨by decide, by decide⟩⟩, rfl, rfl, wi_X1_init⟩
theorem cs_X6_init_48 : CV mX6_init 48 mX4_begin 4 4 := ⟨⟨cp_X4_begin, rfl, wc_X4_begin, wn_X4, wl_X6_48, cd_X4_begin, ⟨by decide, by decide⟩⟩, wi_X4_begin, ws_X4_begin, _, _, rfl⟩
theorem cs_X6_init_52 : CV mX6_init 52 mX4_addTenant 3 4 := ⟨⟨cp_X4_addTenant, rfl, wc_X4_addTenant, wn_X4, wl_X6_52, cd_X4_addTenant, ⟨by decide, by decide⟩⟩, wi_X4_addTenant, ws_X4_addTenant, _, _, rfl⟩
theorem cs_X6_append_56 : CS mX6_append 56 mX6_isWithin 3 := ⟨⟨cp_X6_isWithin, rfl, wc_X6_isWithin, wn_X6, wl_X6_56, cd_X6_isWithin, ⟨by decide, by decide⟩⟩, wt_X6_isWithin⟩
theorem cs_X6_append_60 : CS mX6_append 60 mX6_requireArgument 1 := ⟨⟨cp_X6_requireArgument, rfl, wc_X6_requireArgument, wn_X6, wl_X6_60, cd_X6_requireArgument, ⟨by decide, by decide⟩⟩, wt_X6_requireArgument⟩
theorem cs_X6_append_64 : CV mX6_append 64 mX1_isFull 0 1 := ⟨⟨cp_X1_isFull, rfl, wc_X1_isFull, wn_X1, wl_X6_64, cd_X1_isFull, ⟨by decide, by decide⟩⟩, wi_X1_isFull, ws_X1_isFull, _, _, rfl⟩
theorem cs_X6_append_68 : CS mX6_append 68 mX6_requirePossible 1 := ⟨⟨cp_X6_requirePossible, rfl, wc_X6_requirePossible, wn_X6, wl_X6_68, cd_X6_requirePossible, ⟨by decide, by decide⟩⟩, wt_X6_requirePossible⟩
theorem cs_X6_append_71 : CV mX6_append 71 mX1_add 1 1 := ⟨⟨cp_X1_add, rfl, wc_X1_add, wn_X1, wl_X6_71, cd_X1_add, ⟨by decide, by decide⟩⟩, wi_X1_add, ws_X1_add, _, _, rfl⟩
theorem cs_X6_clearText_75 : CV mX6_clearText 75 mX1_empty 0 1 := ⟨⟨cp_X1_empty, rfl, wc_X1_empty, wn_X1, wl_X6_75, cd_X1_empty, ⟨by decide, by decide⟩⟩, wi_X1_empty, ws_X1_empty, _, _, rfl⟩
theorem cs_X6_errorPosition_79 : CV mX6_errorPosition 79 mX1_readInto 1 1 := ⟨⟨cp_X1_readInto, rfl, wc_X1_readInto, wn_X1, wl_X6_79, cd_X1_readInto, ⟨by decide, by decide⟩⟩, wi_X1_readInto, ws_X1_readInto, _, _, rfl⟩
theorem cs_X6_load_79 : CV mX6_load 79 mX1_readInto 1 1 := ⟨⟨cp_X1_readInto, rfl, wc_X1_readInto, wn_X1, wl_X6_79, cd_X1_readInto, ⟨by decide, by decide⟩⟩, wi_X1_readInto, ws_X1_readInto, _, _, rfl⟩
theorem cs_X6_load_68 : CS mX6_load 68 mX6_requirePossible 1 := ⟨⟨cp_X6_requirePossible, rfl, wc_X6_requirePossible, wn_X6, wl_X6_68, cd_X6_requirePossible, ⟨by decide, by decide⟩⟩, wt_X6_requirePossible⟩
theorem cs_X6_load_83 : CV mX6_load 83 mX4_copyFrom 1 4 := ⟨⟨cp_X4_copyFrom, rfl, wc_X4_copyFrom, wn_X4, wl_X6_83, cd_X4_copyFrom, ⟨by decide, by decide⟩⟩, wi_X4_copyFrom, ws_X4_copyFrom, _, _, rfl⟩
theorem cs_X6_load_87 : CV mX6_load 87 mX2_forget 0 2 := ⟨⟨cp_X2_forget, rfl, wc_X2_forget, wn_X2, wl_X6_87, cd_X2_forget, ⟨by decide, by decide⟩⟩, wi_X2_forget, ws_X2_forget, _, _, rfl⟩
theorem cs_X6_about_56 : CS mX6_about 56 mX6_isWithin 3 := ⟨⟨cp_X6_isWithin, rfl, wc_X6_isWithin, wn_X6, wl_X6_56, cd_X6_isWithin, ⟨by decide, by decide⟩⟩, wt_X6_isWithin⟩
theorem cs_X6_about_60 : CS mX6_about 60 mX6_requireArgument 1 := ⟨⟨cp_X6_requireArgument, rfl, wc_X6_requireArgument, wn_X6, wl_X6_60, cd_X6_requireArgument, ⟨by decide, by decide⟩⟩, wt_X6_requireArgument⟩
theorem cs_X6_about_94 : CV mX6_about 94 mX4_number 1 4 := ⟨⟨cp_X4_number, rfl, wc_X4_number, wn_X4, wl_X6_94, cd_X4_number, ⟨by decide, by decide⟩⟩, wi_X4_number, ws_X4_number, _, _, rfl⟩
theorem cs_X6_tenant_97 : CV mX6_tenant 97 mX4_hasTenant 1 4 := ⟨⟨cp_X4_hasTenant, rfl, wc_X4_hasTenant, wn_X4, wl_X6_97, cd_X4_hasTenant, ⟨by decide, by decide⟩⟩, wi_X4_hasTenant, ws_X4_hasTenant, _, _, rfl⟩
theorem cs_X6_tenant_101 : CS mX6_tenant 101 mX6_requireThere 1 := ⟨⟨cp_X6_requireThere, rfl, wc_X6_requireThere, wn_X6, wl_X6_101, cd_X6_requireThere, ⟨by decide, by decide⟩⟩, wt_X6_requireThere⟩
theorem cs_X6_tenant_56 : CS mX6_tenant 56 mX6_isWithin 3 := ⟨⟨cp_X6_isWithin, rfl, wc_X6_isWithin, wn_X6, wl_X6_56, cd_X6_isWithin, ⟨by decide, by decide⟩⟩, wt_X6_isWithin⟩
theorem cs_X6_tenant_60 : CS mX6_tenant 60 mX6_requireArgument 1 := ⟨⟨cp_X6_requireArgument, rfl, wc_X6_requireArgument, wn_X6, wl_X6_60, cd_X6_requireArgument, ⟨by decide, by decide⟩⟩, wt_X6_requireArgument⟩
theorem cs_X6_tenant_104 : CV mX6_tenant 104 mX4_tenantNumber 2 4 := ⟨⟨cp_X4_tenantNumber, rfl, wc_X4_tenantNumber, wn_X4, wl_X6_104, cd_X4_tenantNumber, ⟨by decide, by decide⟩⟩, wi_X4_tenantNumber, ws_X4_tenantNumber, _, _, rfl⟩
theorem cs_X6_message_97 : CV mX6_message 97 mX4_hasTenant 1 4 := ⟨⟨cp_X4_hasTenant, rfl, wc_X4_hasTenant, wn_X4, wl_X6_97, cd_X4_hasTenant, ⟨by decide, by decide⟩⟩, wi_X4_hasTenant, ws_X4_hasTenant, _, _, rfl⟩
theorem cs_X6_message_101 : CS mX6_message 101 mX6_requireThere 1 := ⟨⟨cp_X6_requireThere, rfl, wc_X6_requireThere, wn_X6, wl_X6_101, cd_X6_requireThere, ⟨by decide, by decide⟩⟩, wt_X6_requireThere⟩
theorem cs_X6_message_108 : CS mX6_message 108 mX6_isPlaceInQueue 1 := ⟨⟨cp_X6_isPlaceInQueue, rfl, wc_X6_isPlaceInQueue, wn_X6, wl_X6_108, cd_X6_isPlaceInQueue, ⟨by decide, by decide⟩⟩, wt_X6_isPlaceInQueue⟩
theorem cs_X6_message_60 : CS mX6_message 60 mX6_requireArgument 1 := ⟨⟨cp_X6_requireArgument, rfl, wc_X6_requireArgument, wn_X6, wl_X6_60, cd_X6_requireArgument, ⟨by decide, by decide⟩⟩, wt_X6_requireArgument⟩
theorem cs_X6_message_115 : CV mX6_message 115 mX5_sizeAt 1 5 := ⟨⟨cp_X5_sizeAt, rfl, wc_X5_sizeAt, wn_X5, wl_X6_115, cd_X5_sizeAt, ⟨by decide, by decide⟩⟩, wi_X5_sizeAt, ws_X5_sizeAt, _, _, rfl⟩
theorem cs_X6_order_120 : CV mX6_order 120 mX4_hasOrder 1 4 := ⟨⟨cp_X4_hasOrder, rfl, wc_X4_hasOrder, wn_X4, wl_X6_120, cd_X4_hasOrder, ⟨by decide, by decide⟩⟩, wi_X4_hasOrder, ws_X4_hasOrder, _, _, rfl⟩
theorem cs_X6_order_101 : CS mX6_order 101 mX6_requireThere 1 := ⟨⟨cp_X6_requireThere, rfl, wc_X6_requireThere, wn_X6, wl_X6_101, cd_X6_requireThere, ⟨by decide, by decide⟩⟩, wt_X6_requireThere⟩
theorem cs_X6_order_56 : CS mX6_order 56 mX6_isWithin 3 := ⟨⟨cp_X6_isWithin, rfl, wc_X6_isWithin, wn_X6, wl_X6_56, cd_X6_isWithin, ⟨by decide, by decide⟩⟩, wt_X6_isWithin⟩
theorem cs_X6_order_60 : CS mX6_order 60 mX6_requireArgument 1 := ⟨⟨cp_X6_requireArgument, rfl, wc_X6_requireArgument, wn_X6, wl_X6_60, cd_X6_requireArgument, ⟨by decide, by decide⟩⟩, wt_X6_requireArgument⟩
theorem cs_X6_order_141 : CV mX6_order 141 mX0_hold 1 0 := ⟨⟨cp_X0_hold, rfl, wc_X0_hold, wn_X0, wl_X6_141, cd_X0_hold, ⟨by decide, by decide⟩⟩, wi_X0_hold, ws_X0_hold, _, _, rfl⟩
theorem cs_X6_order_144 : CV mX6_order 144 mX0_fillOf 1 0 := ⟨⟨cp_X0_fillOf, rfl, wc_X0_fillOf, wn_X0, wl_X6_144, cd_X0_fillOf, ⟨by decide, by decide⟩⟩, wi_X0_fillOf, ws_X0_fillOf, _, _, rfl⟩
theorem cs_X6_bid_147 : CV mX6_bid 147 mX6_addOrder 4 6 := ⟨⟨cp_X6_addOrder, rfl, wc_X6_addOrder, wn_X6, wl_X6_147, cd_X6_addOrder, ⟨by decide, by decide⟩⟩, wi_X6_addOrder, ws_X6_addOrder, _, _, rfl⟩
theorem cs_X6_ask_147 : CV mX6_ask 147 mX6_addOrder 4 6 := ⟨⟨cp_X6_addOrder, rfl, wc_X6_addOrder, wn_X6, wl_X6_147, cd_X6_addOrder, ⟨by decide, by decide⟩⟩, wi_X6_addOrder, ws_X6_addOrder, _, _, rfl⟩
theorem cs_X6_askShort_147 : CV mX6_askShort 147 mX6_addOrder 4 6 := ⟨⟨cp_X6_addOrder, rfl, wc_X6_addOrder, wn_X6, wl_X6_147, cd_X6_addOrder, ⟨by decide, by decide⟩⟩, wi_X6_addOrder, ws_X6_addOrder, _, _, rfl⟩
theorem cs_X6_withdraw_120 : CV mX6_withdraw 120 mX4_hasOrder 1 4 := ⟨⟨cp_X4_hasOrder, rfl, wc_X4_hasOrder, wn_X4, wl_X6_120, cd_X4_hasOrder, ⟨by decide, by decide⟩⟩, wi_X4_hasOrder, ws_X4_hasOrder, _, _, rfl⟩
theorem cs_X6_withdraw_101 : CS mX6_withdraw 101 mX6_requireThere 1 := ⟨⟨cp_X6_requireThere, rfl, wc_X6_requireThere, wn_X6, wl_X6_101, cd_X6_requireThere, ⟨by decide, by decide⟩⟩, wt_X6_requireThere⟩
theorem cs_X6_withdraw_151 : CV mX6_withdraw 151 mX2_remember 1 2 := ⟨⟨cp_X2_remember, rfl, wc_X2_remember, wn_X2, wl_X6_151, cd_X2_remember, ⟨by decide, by decide⟩⟩, wi_X2_remember, ws_X2_remember, _, _, rfl⟩
theorem cs_X6_withdraw_154 : CV mX6_withdraw 154 mX4_withdrawOrder 1 4 := ⟨⟨cp_X4_withdrawOrder, rfl, wc_X4_withdrawOrder, wn_X4, wl_X6_154, cd_X4_withdrawOrder, ⟨by decide, by decide⟩⟩, wi_X4_withdrawOrder, ws_X4_withdrawOrder, _, _, rfl⟩
theorem cs_X6_push_97 : CV mX6_push 97 mX4_hasTenant 1 4 := ⟨⟨cp_X4_hasTenant, rfl, wc_X4_hasTenant, wn_X4, wl_X6_97, cd_X4_hasTenant, ⟨by decide, by decide⟩⟩, wi_X4_hasTenant, ws_X4_hasTenant, _, _, rfl⟩
theorem cs_X6_push_101 : CS mX6_push 101 mX6_requireThere 1 := ⟨⟨cp_X6_requireThere, rfl, wc_X6_requireThere, wn_X6, wl_X6_101, cd_X6_requireThere, ⟨by decide, by decide⟩⟩, wt_X6_requireThere⟩
theorem cs_X6_push_157 : CS mX6_push 157 mX6_isTwoDigits 1 := ⟨⟨cp_X6_isTwoDigits, rfl, wc_X6_isTwoDigits, wn_X6, wl_X6_157, cd_X6_isTwoDigits, ⟨by decide, by decide⟩⟩, wt_X6_isTwoDigits⟩
theorem cs_X6_push_60 : CS mX6_push 60 mX6_requireArgument 1 := ⟨⟨cp_X6_requireArgument, rfl, wc_X6_requireArgument, wn_X6, wl_X6_60, cd_X6_requireArgument, ⟨by decide, by decide⟩⟩, wt_X6_requireArgument⟩
theorem cs_X6_push_160 : CV mX6_push 160 mX5_isQueueFull 0 5 := ⟨⟨cp_X5_isQueueFull, rfl, wc_X5_isQueueFull, wn_X5, wl_X6_160, cd_X5_isQueueFull, ⟨by decide, by decide⟩⟩, wi_X5_isQueueFull, ws_X5_isQueueFull, _, _, rfl⟩
theorem cs_X6_push_68 : CS mX6_push 68 mX6_requirePossible 1 := ⟨⟨cp_X6_requirePossible, rfl, wc_X6_requirePossible, wn_X6, wl_X6_68, cd_X6_requirePossible, ⟨by decide, by decide⟩⟩, wt_X6_requirePossible⟩
theorem cs_X6_push_151 : CV mX6_push 151 mX2_remember 1 2 := ⟨⟨cp_X2_remember, rfl, wc_X2_remember, wn_X2, wl_X6_151, cd_X2_remember, ⟨by decide, by decide⟩⟩, wi_X2_remember, ws_X2_remember, _, _, rfl⟩
theorem cs_X6_push_163 : CV mX6_push 163 mX5_queueMessage 1 5 := ⟨⟨cp_X5_queueMessage, rfl, wc_X5_queueMessage, wn_X5, wl_X6_163, cd_X5_queueMessage, ⟨by decide, by decide⟩⟩, wi_X5_queueMessage, ws_X5_queueMessage, _, _, rfl⟩
theorem cs_X6_deposit_97 : CV mX6_deposit 97 mX4_hasTenant 1 4 := ⟨⟨cp_X4_hasTenant, rfl, wc_X4_hasTenant, wn_X4, wl_X6_97, cd_X4_hasTenant, ⟨by decide, by decide⟩⟩, wi_X4_hasTenant, ws_X4_hasTenant, _, _, rfl⟩
theorem cs_X6_deposit_101 : CS mX6_deposit 101 mX6_requireThere 1 := ⟨⟨cp_X6_requireThere, rfl, wc_X6_requireThere, wn_X6, wl_X6_101, cd_X6_requireThere, ⟨by decide, by decide⟩⟩, wt_X6_requireThere⟩
theorem cs_X6_deposit_56 : CS mX6_deposit 56 mX6_isWithin 3 := ⟨⟨cp_X6_isWithin, rfl, wc_X6_isWithin, wn_X6, wl_X6_56, cd_X6_isWithin, ⟨by decide, by decide⟩⟩, wt_X6_isWithin⟩
theorem cs_X6_deposit_60 : CS mX6_deposit 60 mX6_requireArgument 1 := ⟨⟨cp_X6_requireArgument, rfl, wc_X6_requireArgument, wn_X6, wl_X6_60, cd_X6_requireArgument, ⟨by decide, by decide⟩⟩, wt_X6_requireArgument⟩
theorem cs_X6_deposit_68 : CS mX6_deposit 68 mX6_requirePossible 1 := ⟨⟨cp_X6_requirePossible, rfl, wc_X6_requirePossible, wn_X6, wl_X6_68, cd_X6_requirePossible, ⟨by decide, by decide⟩⟩, wt_X6_requirePossible⟩
theorem cs_X6_deposit_151 : CV mX6_deposit 151 mX2_remember 1 2 := ⟨⟨cp_X2_remember, rfl, wc_X2_remember, wn_X2, wl_X6_151, cd_X2_remember, ⟨by decide, by decide⟩⟩, wi_X2_remember, ws_X2_remember, _, _, rfl⟩
theorem cs_X6_tick_56 : CS mX6_tick 56 mX6_isWithin 3 := ⟨⟨cp_X6_isWithin, rfl, wc_X6_isWithin, wn_X6, wl_X6_56, cd_X6_isWithin, ⟨by decide, by decide⟩⟩, wt_X6_isWithin⟩
theorem cs_X6_tick_60 : CS mX6_tick 60 mX6_requireArgument 1 := ⟨⟨cp_X6_requireArgument, rfl, wc_X6_requireArgument, wn_X6, wl_X6_60, cd_X6_requireArgument, ⟨by decide, by decide⟩⟩, wt_X6_requireArgument⟩
theorem cs_X6_tick_151 : CV mX6_tick 151 mX2_remember 1 2 := ⟨⟨cp_X2_remember, rfl, wc_X2_remember, wn_X2, wl_X6_151, cd_X2_remember, ⟨by decide, by decide⟩⟩, wi_X2_remember, ws_X2_remember, _, _, rfl⟩
theorem cs_X6_tick_170 : CV mX6_tick 170 mX4_advance 2 4 := ⟨⟨cp_X4_advance, rfl, wc_X4_advance, wn_X4, wl_X6_170, cd_X4_advance, ⟨by decide, by decide⟩⟩, wi_X4_advance, ws_X4_advance, _, _, rfl⟩
theorem cs_X6_setRate_97 : CV mX6_setRate 97 mX4_hasTenant 1 4 := ⟨⟨cp_X4_hasTenant, rfl, wc_X4_hasTenant, wn_X4, wl_X6_97, cd_X4_hasTenant, ⟨by decide, by decide⟩⟩, wi_X4_hasTenant, ws_X4_hasTenant, _, _, rfl⟩
theorem cs_X6_setRate_101 : CS mX6_setRate 101 mX6_requireThere 1 := ⟨⟨cp_X6_requireThere, rfl, wc_X6_requireThere, wn_X6, wl_X6_101, cd_X6_requireThere, ⟨by decide, by decide⟩⟩, wt_X6_requireThere⟩
theorem cs_X6_setRate_56 : CS mX6_setRate 56 mX6_isWithin 3 := ⟨⟨cp_X6_isWithin, rfl, wc_X6_isWithin, wn_X6, wl_X6_56, cd_X6_isWithin, ⟨by decide, by decide⟩⟩, wt_X6_isWithin⟩
theorem cs_X6_setRate_60 : CS mX6_setRate 60 mX6_requireArgument 1 := ⟨⟨cp_X6_requireArgument, rfl, wc_X6_requireArgument, wn_X6, wl_X6_60, cd_X6_requireArgument, ⟨by decide, by decide⟩⟩, wt_X6_requireArgument⟩
theorem cs_X6_setRate_151 : CV mX6_setRate 151 mX2_remember 1 2 := ⟨⟨cp_X2_remember, rfl, wc_X2_remember, wn_X2, wl_X6_151, cd_X2_remember, ⟨by decide, by decide⟩⟩, wi_X2_remember, ws_X2_remember, _, _, rfl⟩
theorem cs_X6_setWidth_56 : CS mX6_setWidth 56 mX6_isWithin 3 := ⟨⟨cp_X6_isWithin, rfl, wc_X6_isWithin, wn_X6, wl_X6_56, cd_X6_isWithin, ⟨by decide, by decide⟩⟩, wt_X6_isWithin⟩
theorem cs_X6_setWidth_60 : CS mX6_setWidth 60 mX6_requireArgument 1 := ⟨⟨cp_X6_requireArgument, rfl, wc_X6_requireArgument, wn_X6, wl_X6_60, cd_X6_requireArgument, ⟨by decide, by decide⟩⟩, wt_X6_requireArgument⟩
theorem cs_X6_setWidth_151 : CV mX6_setWidth 151 mX2_remember 1 2 := ⟨⟨cp_X2_remember, rfl, wc_X2_remember, wn_X2, wl_X6_151, cd_X2_remember, ⟨by decide, by decide⟩⟩, wi_X2_remember, ws_X2_remember, _, _, rfl⟩
theorem cs_X6_undo_68 : CS mX6_undo 68 mX6_requirePossible 1 := ⟨⟨cp_X6_requirePossible, rfl, wc_X6_requirePossible, wn_X6, wl_X6_68, cd_X6_requirePossible, ⟨by decide, by decide⟩⟩, wt_X6_requirePossible⟩
theorem cs_X6_undo_183 : CV mX6_undo 183 mX2_takeBack 1 2 := ⟨⟨cp_X2_takeBack, rfl, wc_X2_takeBack, wn_X2, wl_X6_183, cd_X2_takeBack, ⟨by decide, by decide⟩⟩, wi_X2_takeBack, ws_X2_takeBack, _, _, rfl⟩
theorem cs_X6_demand_157 : CS mX6_demand 157 mX6_isTwoDigits 1 := ⟨⟨cp_X6_isTwoDigits, rfl, wc_X6_isTwoDigits, wn_X6, wl_X6_157, cd_X6_isTwoDigits, ⟨by decide, by decide⟩⟩, wt_X6_isTwoDigits⟩
theorem cs_X6_demand_60 : CS mX6_demand 60 mX6_requireArgument 1 := ⟨⟨cp_X6_requireArgument, rfl, wc_X6_requireArgument, wn_X6, wl_X6_60, cd_X6_requireArgument, ⟨by decide, by decide⟩⟩, wt_X6_requireArgument⟩
theorem cs_X6_demand_186 : CV mX6_demand 186 mX4_wantedAt 1 4 := ⟨⟨cp_X4_wantedAt, rfl, wc_X4_wantedAt, wn_X4, wl_X6_186, cd_X4_wantedAt, ⟨by decide, by decide⟩⟩, wi_X4_wantedAt, ws_X4_wantedAt, _, _, rfl⟩
theorem cs_X6_supply_157 : CS mX6_supply 157 mX6_isTwoDigits 1 := ⟨⟨cp_X6_isTwoDigits, rfl, wc_X6_isTwoDigits, wn_X6, wl_X6_157, cd_X6_isTwoDigits, ⟨by decide, by decide⟩⟩, wt_X6_isTwoDigits⟩
theorem cs_X6_supply_60 : CS mX6_supply 60 mX6_requireArgument 1 := ⟨⟨cp_X6_requireArgument, rfl, wc_X6_requireArgument, wn_X6, wl_X6_60, cd_X6_requireArgument, ⟨by decide, by decide⟩⟩, wt_X6_requireArgument⟩
theorem cs_X6_supply_189 : CV mX6_supply 189 mX4_offeredAt 1 4 := ⟨⟨cp_X4_offeredAt, rfl, wc_X4_offeredAt, wn_X4, wl_X6_189, cd_X4_offeredAt, ⟨by decide, by decide⟩⟩, wi_X4_offeredAt, ws_X4_offeredAt, _, _, rfl⟩
theorem cs_X6_auction_56 : CS mX6_auction 56 mX6_isWithin 3 := ⟨⟨cp_X6_isWithin, rfl, wc_X6_isWithin, wn_X6, wl_X6_56, cd_X6_isWithin, ⟨by decide, by decide⟩⟩, wt_X6_isWithin⟩
theorem cs_X6_auction_60 : CS mX6_auction 60 mX6_requireArgument 1 := ⟨⟨cp_X6_requireArgument, rfl, wc_X6_requireArgument, wn_X6, wl_X6_60, cd_X6_requireArgument, ⟨by decide, by decide⟩⟩, wt_X6_requireArgument⟩
theorem cs_X6_auction_141 : CV mX6_auction 141 mX0_hold 1 0 := ⟨⟨cp_X0_hold, rfl, wc_X0_hold, wn_X0, wl_X6_141, cd_X0_hold, ⟨by decide, by decide⟩⟩, wi_X0_hold, ws_X0_hold, _, _, rfl⟩
theorem cs_X6_auction_199 : CV mX6_auction 199 mX0_countWhollyFilled 0 0 := ⟨⟨cp_X0_countWhollyFilled, rfl, wc_X0_countWhollyFilled, wn_X0, wl_X6_199, cd_X0_countWhollyFilled, ⟨by decide, by decide⟩⟩, wi_X0_countWhollyFilled, ws_X0_countWhollyFilled, _, _, rfl⟩
theorem cs_X6_volumeIf_97 : CV mX6_volumeIf 97 mX4_hasTenant 1 4 := ⟨⟨cp_X4_hasTenant, rfl, wc_X4_hasTenant, wn_X4, wl_X6_97, cd_X4_hasTenant, ⟨by decide, by decide⟩⟩, wi_X4_hasTenant, ws_X4_hasTenant, _, _, rfl⟩
theorem cs_X6_volumeIf_101 : CS mX6_volumeIf 101 mX6_requireThere 1 := ⟨⟨cp_X6_requireThere, rfl, wc_X6_requireThere, wn_X6, wl_X6_101, cd_X6_requireThere, ⟨by decide, by decide⟩⟩, wt_X6_requireThere⟩
theorem cs_X6_volumeIf_56 : CS mX6_volumeIf 56 mX6_isWithin 3 := ⟨⟨cp_X6_isWithin, rfl, wc_X6_isWithin, wn_X6, wl_X6_56, cd_X6_isWithin, ⟨by decide, by decide⟩⟩, wt_X6_isWithin⟩
theorem cs_X6_volumeIf_157 : CS mX6_volumeIf 157 mX6_isTwoDigits 1 := ⟨⟨cp_X6_isTwoDigits, rfl, wc_X6_isTwoDigits, wn_X6, wl_X6_157, cd_X6_isTwoDigits, ⟨by decide, by decide⟩⟩, wt_X6_isTwoDigits⟩
theorem cs_X6_volumeIf_60 : CS mX6_volumeIf 60 mX6_requireArgument 1 := ⟨⟨cp_X6_requireArgument, rfl, wc_X6_requireArgument, wn_X6, wl_X6_60, cd_X6_requireArgument, ⟨by decide, by decide⟩⟩, wt_X6_requireArgument⟩
theorem cs_X6_volumeIf_202 : CV mX6_volumeIf 202 mX0_gather 2 0 := ⟨⟨cp_X0_gather, rfl, wc_X0_gather, wn_X0, wl_X6_202, cd_X0_gather, ⟨by decide, by decide⟩⟩, wi_X0_gather, ws_X0_gather, _, _, rfl⟩
theorem cs_X6_volumeIf_206 : CV mX6_volumeIf 206 mX0_add 3 0 := ⟨⟨cp_X0_add, rfl, wc_X0_add, wn_X0, wl_X6_206, cd_X0_add, ⟨by decide, by decide⟩⟩, wi_X0_add, ws_X0_add, _, _, rfl⟩
theorem cs_X6_volumeIf_208 : CV mX6_volumeIf 208 mX0_match 0 0 := ⟨⟨cp_X0_match, rfl, wc_X0_match, wn_X0, wl_X6_208, cd_X0_match, ⟨by decide, by decide⟩⟩, wi_X0_match, ws_X0_match, _, _, rfl⟩
theorem cs_X6_priceFor_157 : CS mX6_priceFor 157 mX6_isTwoDigits 1 := ⟨⟨cp_X6_isTwoDigits, rfl, wc_X6_isTwoDigits, wn_X6, wl_X6_157, cd_X6_isTwoDigits, ⟨by decide, by decide⟩⟩, wt_X6_isTwoDigits⟩
theorem cs_X6_priceFor_60 : CS mX6_priceFor 60 mX6_requireArgument 1 := ⟨⟨cp_X6_requireArgument, rfl, wc_X6_requireArgument, wn_X6, wl_X6_60, cd_X6_requireArgument, ⟨by decide, by decide⟩⟩, wt_X6_requireArgument⟩
theorem cs_X6_priceFor_189 : CV mX6_priceFor 189 mX4_offeredAt 1 4 := ⟨⟨cp_X4_offeredAt, rfl, wc_X4_offeredAt, wn_X4, wl_X6_189, cd_X4_offeredAt, ⟨by decide, by decide⟩⟩, wi_X4_offeredAt, ws_X4_offeredAt, _, _, rfl⟩
theorem cs_X6_priceFor_186 : CV mX6_priceFor 186 mX4_wantedAt 1 4 := ⟨⟨cp_X4_wantedAt, rfl, wc_X4_wantedAt, wn_X4, wl_X6_186, cd_X4_wantedAt, ⟨by decide, by decide⟩⟩, wi_X4_wantedAt, ws_X4_wantedAt, _, _, rfl⟩
theorem cs_X6_share_97 : CV mX6_share 97 mX4_hasTenant 1 4 := ⟨⟨cp_X4_hasTenant, rfl, wc_X4_hasTenant, wn_X4, wl_X6_97, cd_X4_hasTenant, ⟨by decide, by decide⟩⟩, wi_X4_hasTenant, ws_X4_hasTenant, _, _, rfl⟩
theorem cs_X6_share_101 : CS mX6_share 101 mX6_requireThere 1 := ⟨⟨cp_X6_requireThere, rfl, wc_X6_requireThere, wn_X6, wl_X6_101, cd_X6_requireThere, ⟨by decide, by decide⟩⟩, wt_X6_requireThere⟩
theorem cs_X6_share_211 : CS mX6_share 211 mJ6_bitCount_0f7a4 1 := ⟨⟨cp_J6_bitCount_0f7a4, rfl, wc_J6_bitCount_0f7a4, wn_J6, wl_X6_211, cd_J6_bitCount_0f7a4, ⟨by decide, by decide⟩⟩, wt_J6_bitCount_0f7a4⟩
theorem cs_X6_share_216 : CV mX6_share 216 mX6_surplusOf 1 6 := ⟨⟨cp_X6_surplusOf, rfl, wc_X6_surplusOf, wn_X6, wl_X6_216, cd_X6_surplusOf, ⟨by decide, by decide⟩⟩, wi_X6_surplusOf, ws_X6_surplusOf, _, _, rfl⟩
theorem cs_X6_share_219 : CS mX6_share 219 mX6_factorial 1 := ⟨⟨cp_X6_factorial, rfl, wc_X6_factorial, wn_X6, wl_X6_219, cd_X6_factorial, ⟨by decide, by decide⟩⟩, wt_X6_factorial⟩
theorem cs_X6_share_222 : CS mX6_share 222 mX6_inLowestTerms 3 := ⟨⟨cp_X6_inLowestTerms, rfl, wc_X6_inLowestTerms, wn_X6, wl_X6_222, cd_X6_inLowestTerms, ⟨by decide, by decide⟩⟩, wt_X6_inLowestTerms⟩
theorem cs_X6_ahead_97 : CV mX6_ahead 97 mX4_hasTenant 1 4 := ⟨⟨cp_X4_hasTenant, rfl, wc_X4_hasTenant, wn_X4, wl_X6_97, cd_X4_hasTenant, ⟨by decide, by decide⟩⟩, wi_X4_hasTenant, ws_X4_hasTenant, _, _, rfl⟩
theorem cs_X6_ahead_101 : CS mX6_ahead 101 mX6_requireThere 1 := ⟨⟨cp_X6_requireThere, rfl, wc_X6_requireThere, wn_X6, wl_X6_101, cd_X6_requireThere, ⟨by decide, by decide⟩⟩, wt_X6_requireThere⟩
theorem cs_X6_ahead_56 : CS mX6_ahead 56 mX6_isWithin 3 := ⟨⟨cp_X6_isWithin, rfl, wc_X6_isWithin, wn_X6, wl_X6_56, cd_X6_isWithin, ⟨by decide, by decide⟩⟩, wt_X6_isWithin⟩
theorem cs_X6_ahead_60 : CS mX6_ahead 60 mX6_requireArgument 1 := ⟨⟨cp_X6_requireArgument, rfl, wc_X6_requireArgument, wn_X6, wl_X6_60, cd_X6_requireArgument, ⟨by decide, by decide⟩⟩, wt_X6_requireArgument⟩
theorem cs_X6_ahead_83 : CV mX6_ahead 83 mX4_copyFrom 1 4 := ⟨⟨cp_X4_copyFrom, rfl, wc_X4_copyFrom, wn_X4, wl_X6_83, cd_X4_copyFrom, ⟨by decide, by decide⟩⟩, wi_X4_copyFrom, ws_X4_copyFrom, _, _, rfl⟩
theorem cs_X6_ahead_170 : CV mX6_ahead 170 mX4_advance 2 4 := ⟨⟨cp_X4_advance, rfl, wc_X4_advance, wn_X4, wl_X6_170, cd_X4_advance, ⟨by decide, by decide⟩⟩, wi_X4_advance, ws_X4_advance, _, _, rfl⟩
theorem cs_X6_ahead_104 : CV mX6_ahead 104 mX4_tenantNumber 2 4 := ⟨⟨cp_X4_tenantNumber, rfl, wc_X4_tenantNumber, wn_X4, wl_X6_104, cd_X4_tenantNumber, ⟨by decide, by decide⟩⟩, wi_X4_tenantNumber, ws_X4_tenantNumber, _, _, rfl⟩
theorem cs_X6_sentAfter_97 : CV mX6_sentAfter 97 mX4_hasTenant 1 4 := ⟨⟨cp_X4_hasTenant, rfl, wc_X4_hasTenant, wn_X4, wl_X6_97, cd_X4_hasTenant, ⟨by decide, by decide⟩⟩, wi_X4_hasTenant, ws_X4_hasTenant, _, _, rfl⟩
theorem cs_X6_sentAfter_101 : CS mX6_sentAfter 101 mX6_requireThere 1 := ⟨⟨cp_X6_requireThere, rfl, wc_X6_requireThere, wn_X6, wl_X6_101, cd_X6_requireThere, ⟨by decide, by decide⟩⟩, wt_X6_requireThere⟩
theorem cs_X6_sentAfter_108 : CS mX6_sentAfter 108 mX6_isPlaceInQueue 1 := ⟨⟨cp_X6_isPlaceInQueue, rfl, wc_X6_isPlaceInQueue, wn_X6, wl_X6_108, cd_X6_isPlaceInQueue, ⟨by decide, by decide⟩⟩, wt_X6_isPlaceInQueue⟩
theorem cs_X6_sentAfter_60 : CS mX6_sentAfter 60 mX6_requireArgument 1 := ⟨⟨cp_X6_requireArgument, rfl, wc_X6_requireArgument, wn_X6, wl_X6_60, cd_X6_requireArgument, ⟨by decide, by decide⟩⟩, wt_X6_requireArgument⟩
theorem cs_X6_sentAfter_83 : CV mX6_sentAfter 83 mX4_copyFrom 1 4 := ⟨⟨cp_X4_copyFrom, rfl, wc_X4_copyFrom, wn_X4, wl_X6_83, cd_X4_copyFrom, ⟨by decide, by decide⟩⟩, wi_X4_copyFrom, ws_X4_copyFrom, _, _, rfl⟩
theorem cs_X6_sentAfter_170 : CV mX6_sentAfter 170 mX4_advance 2 4 := ⟨⟨cp_X4_advance, rfl, wc_X4_advance, wn_X4, wl_X6_170, cd_X4_advance, ⟨by decide, by decide⟩⟩, wi_X4_advance, ws_X4_advance, _, _, rfl⟩
theorem cs_X6_unused_56 : CS mX6_unused 56 mX6_isWithin 3 := ⟨⟨cp_X6_isWithin, rfl, wc_X6_isWithin, wn_X6, wl_X6_56, cd_X6_isWithin, ⟨by decide, by decide⟩⟩, wt_X6_isWithin⟩
theorem cs_X6_unused_60 : CS mX6_unused 60 mX6_requireArgument 1 := ⟨⟨cp_X6_requireArgument, rfl, wc_X6_requireArgument, wn_X6, wl_X6_60, cd_X6_requireArgument, ⟨by decide, by decide⟩⟩, wt_X6_requireArgument⟩
theorem cs_X6_unused_83 : CV mX6_unused 83 mX4_copyFrom 1 4 := ⟨⟨cp_X4_copyFrom, rfl, wc_X4_copyFrom, wn_X4, wl_X6_83, cd_X4_copyFrom, ⟨by decide, by decide⟩⟩, wi_X4_copyFrom, ws_X4_copyFrom, _, _, rfl⟩
theorem cs_X6_unused_170 : CV mX6_unused 170 mX4_advance 2 4 := ⟨⟨cp_X4_advance, rfl, wc_X4_advance, wn_X4, wl_X6_170, cd_X4_advance, ⟨by decide, by decide⟩⟩, wi_X4_advance, ws_X4_advance, _, _, rfl⟩
theorem cs_X6_fairness_222 : CS mX6_fairness 222 mX6_inLowestTerms 3 := ⟨⟨cp_X6_inLowestTerms, rfl, wc_X6_inLowestTerms, wn_X6, wl_X6_222, cd_X6_inLowestTerms, ⟨by decide, by decide⟩⟩, wt_X6_inLowestTerms⟩
theorem cs_X6_wealthiest_97 : CV mX6_wealthiest 97 mX4_hasTenant 1 4 := ⟨⟨cp_X4_hasTenant, rfl, wc_X4_hasTenant, wn_X4, wl_X6_97, cd_X4_hasTenant, ⟨by decide, by decide⟩⟩, wi_X4_hasTenant, ws_X4_hasTenant, _, _, rfl⟩
theorem cs_X6_wealthiest_101 : CS mX6_wealthiest 101 mX6_requireThere 1 := ⟨⟨cp_X6_requireThere, rfl, wc_X6_requireThere, wn_X6, wl_X6_101, cd_X6_requireThere, ⟨by decide, by decide⟩⟩, wt_X6_requireThere⟩
theorem cs_X6_wealthiest_232 : CV mX6_wealthiest 232 mX4_rankByWealth 1 4 := ⟨⟨cp_X4_rankByWealth, rfl, wc_X4_rankByWealth, wn_X4, wl_X6_232, cd_X4_rankByWealth, ⟨by decide, by decide⟩⟩, wi_X4_rankByWealth, ws_X4_rankByWealth, _, _, rfl⟩
theorem cs_X6_runScript_56 : CS mX6_runScript 56 mX6_isWithin 3 := ⟨⟨cp_X6_isWithin, rfl, wc_X6_isWithin, wn_X6, wl_X6_56, cd_X6_isWithin, ⟨by decide, by decide⟩⟩, wt_X6_isWithin⟩
theorem cs_X6_runScript_60 : CS mX6_runScript 60 mX6_requireArgument 1 := ⟨⟨cp_X6_requireArgument, rfl, wc_X6_requireArgument, wn_X6, wl_X6_60, cd_X6_requireArgument, ⟨by decide, by decide⟩⟩, wt_X6_requireArgument⟩
theorem cs_X6_runScript_235 : CS mX6_runScript 235 mX6_unitOfGroup 1 := ⟨⟨cp_X6_unitOfGroup, rfl, wc_X6_unitOfGroup, wn_X6, wl_X6_235, cd_X6_unitOfGroup, ⟨by decide, by decide⟩⟩, wt_X6_unitOfGroup⟩
theorem cs_X6_runScript_83 : CV mX6_runScript 83 mX4_copyFrom 1 4 := ⟨⟨cp_X4_copyFrom, rfl, wc_X4_copyFrom, wn_X4, wl_X6_83, cd_X4_copyFrom, ⟨by decide, by decide⟩⟩, wi_X4_copyFrom, ws_X4_copyFrom, _, _, rfl⟩
theorem cs_X6_runScript_241 : CV mX6_runScript 241 mX6_succeeds 1 6 := ⟨⟨cp_X6_succeeds, rfl, wc_X6_succeeds, wn_X6, wl_X6_241, cd_X6_succeeds, ⟨by decide, by decide⟩⟩, wi_X6_succeeds, ws_X6_succeeds, _, _, rfl⟩
theorem cs_X6_simulate_56 : CS mX6_simulate 56 mX6_isWithin 3 := ⟨⟨cp_X6_isWithin, rfl, wc_X6_isWithin, wn_X6, wl_X6_56, cd_X6_isWithin, ⟨by decide, by decide⟩⟩, wt_X6_isWithin⟩
theorem cs_X6_simulate_60 : CS mX6_simulate 60 mX6_requireArgument 1 := ⟨⟨cp_X6_requireArgument, rfl, wc_X6_requireArgument, wn_X6, wl_X6_60, cd_X6_requireArgument, ⟨by decide, by decide⟩⟩, wt_X6_requireArgument⟩
theorem cs_X6_simulate_83 : CV mX6_simulate 83 mX4_copyFrom 1 4 := ⟨⟨cp_X4_copyFrom, rfl, wc_X4_copyFrom, wn_X4, wl_X6_83, cd_X4_copyFrom, ⟨by decide, by decide⟩⟩, wi_X4_copyFrom, ws_X4_copyFrom, _, _, rfl⟩
theorem cs_X6_simulate_248 : CV mX6_simulate 248 mX6_tryRandomAction 1 6 := ⟨⟨cp_X6_tryRandomAction, rfl, wc_X6_tryRandomAction, wn_X6, wl_X6_248, cd_X6_tryRandomAction, ⟨by decide, by decide⟩⟩, wi_X6_tryRandomAction, ws_X6_tryRandomAction, _, _, rfl⟩
theorem cs_X6_simulate_170 : CV mX6_simulate 170 mX4_advance 2 4 := ⟨⟨cp_X4_advance, rfl, wc_X4_advance, wn_X4, wl_X6_170, cd_X4_advance, ⟨by decide, by decide⟩⟩, wi_X4_advance, ws_X4_advance, _, _, rfl⟩
theorem cs_X6_save_252 : CS mX6_save 252 mX6_isSlot 1 := ⟨⟨cp_X6_isSlot, rfl, wc_X6_isSlot, wn_X6, wl_X6_252, cd_X6_isSlot, ⟨by decide, by decide⟩⟩, wt_X6_isSlot⟩
theorem cs_X6_save_101 : CS mX6_save 101 mX6_requireThere 1 := ⟨⟨cp_X6_requireThere, rfl, wc_X6_requireThere, wn_X6, wl_X6_101, cd_X6_requireThere, ⟨by decide, by decide⟩⟩, wt_X6_requireThere⟩
theorem cs_X6_save_11 : CI mX6_save 11 mX4_init 0 := ⟨⟨cp_X4_init, rfl, wc_X4_init, wn_X4, wl_X6_11, cd_X4_init, ⟨by decide, by decide⟩⟩, rfl, rfl, wi_X4_init⟩
theorem cs_X6_save_83 : CV mX6_save 83 mX4_copyFrom 1 4 := ⟨⟨cp_X4_copyFrom, rfl, wc_X4_copyFrom, wn_X4, wl_X6_83, cd_X4_copyFrom, ⟨by decide, by decide⟩⟩, wi_X4_copyFrom, ws_X4_copyFrom, _, _, rfl⟩
theorem cs_X6_restore_252 : CS mX6_restore 252 mX6_isSlot 1 := ⟨⟨cp_X6_isSlot, rfl, wc_X6_isSlot, wn_X6, wl_X6_252, cd_X6_isSlot, ⟨by decide, by decide⟩⟩, wt_X6_isSlot⟩
theorem cs_X6_restore_101 : CS mX6_restore 101 mX6_requireThere 1 := ⟨⟨cp_X6_requireThere, rfl, wc_X6_requireThere, wn_X6, wl_X6_101, cd_X6_requireThere, ⟨by decide, by decide⟩⟩, wt_X6_requireThere⟩
theorem cs_X6_restore_83 : CV mX6_restore 83 mX4_copyFrom 1 4 := ⟨⟨cp_X4_copyFrom, rfl, wc_X4_copyFrom, wn_X4, wl_X6_83, cd_X4_copyFrom, ⟨by decide, by decide⟩⟩, wi_X4_copyFrom, ws_X4_copyFrom, _, _, rfl⟩
theorem cs_X6_restore_87 : CV mX6_restore 87 mX2_forget 0 2 := ⟨⟨cp_X2_forget, rfl, wc_X2_forget, wn_X2, wl_X6_87, cd_X2_forget, ⟨by decide, by decide⟩⟩, wi_X2_forget, ws_X2_forget, _, _, rfl⟩
theorem cs_X6_isTwoDigits_56 : CS mX6_isTwoDigits 56 mX6_isWithin 3 := ⟨⟨cp_X6_isWithin, rfl, wc_X6_isWithin, wn_X6, wl_X6_56, cd_X6_isWithin, ⟨by decide, by decide⟩⟩, wt_X6_isWithin⟩
theorem cs_X6_isPlaceInQueue_56 : CS mX6_isPlaceInQueue 56 mX6_isWithin 3 := ⟨⟨cp_X6_isWithin, rfl, wc_X6_isWithin, wn_X6, wl_X6_56, cd_X6_isWithin, ⟨by decide, by decide⟩⟩, wt_X6_isWithin⟩
theorem cs_X6_isSlot_56 : CS mX6_isSlot 56 mX6_isWithin 3 := ⟨⟨cp_X6_isWithin, rfl, wc_X6_isWithin, wn_X6, wl_X6_56, cd_X6_isWithin, ⟨by decide, by decide⟩⟩, wt_X6_isWithin⟩
theorem cs_X6_addOrder_97 : CV mX6_addOrder 97 mX4_hasTenant 1 4 := ⟨⟨cp_X4_hasTenant, rfl, wc_X4_hasTenant, wn_X4, wl_X6_97, cd_X4_hasTenant, ⟨by decide, by decide⟩⟩, wi_X4_hasTenant, ws_X4_hasTenant, _, _, rfl⟩
theorem cs_X6_addOrder_101 : CS mX6_addOrder 101 mX6_requireThere 1 := ⟨⟨cp_X6_requireThere, rfl, wc_X6_requireThere, wn_X6, wl_X6_101, cd_X6_requireThere, ⟨by decide, by decide⟩⟩, wt_X6_requireThere⟩
theorem cs_X6_addOrder_157 : CS mX6_addOrder 157 mX6_isTwoDigits 1 := ⟨⟨cp_X6_isTwoDigits, rfl, wc_X6_isTwoDigits, wn_X6, wl_X6_157, cd_X6_isTwoDigits, ⟨by decide, by decide⟩⟩, wt_X6_isTwoDigits⟩
theorem cs_X6_addOrder_60 : CS mX6_addOrder 60 mX6_requireArgument 1 := ⟨⟨cp_X6_requireArgument, rfl, wc_X6_requireArgument, wn_X6, wl_X6_60, cd_X6_requireArgument, ⟨by decide, by decide⟩⟩, wt_X6_requireArgument⟩
theorem cs_X6_addOrder_277 : CV mX6_addOrder 277 mX4_canPlace 4 4 := ⟨⟨cp_X4_canPlace, rfl, wc_X4_canPlace, wn_X4, wl_X6_277, cd_X4_canPlace, ⟨by decide, by decide⟩⟩, wi_X4_canPlace, ws_X4_canPlace, _, _, rfl⟩
theorem cs_X6_addOrder_68 : CS mX6_addOrder 68 mX6_requirePossible 1 := ⟨⟨cp_X6_requirePossible, rfl, wc_X6_requirePossible, wn_X6, wl_X6_68, cd_X6_requirePossible, ⟨by decide, by decide⟩⟩, wt_X6_requirePossible⟩
theorem cs_X6_addOrder_151 : CV mX6_addOrder 151 mX2_remember 1 2 := ⟨⟨cp_X2_remember, rfl, wc_X2_remember, wn_X2, wl_X6_151, cd_X2_remember, ⟨by decide, by decide⟩⟩, wi_X2_remember, ws_X2_remember, _, _, rfl⟩
theorem cs_X6_addOrder_281 : CV mX6_addOrder 281 mX4_place 4 4 := ⟨⟨cp_X4_place, rfl, wc_X4_place, wn_X4, wl_X6_281, cd_X4_place, ⟨by decide, by decide⟩⟩, wi_X4_place, ws_X4_place, _, _, rfl⟩
theorem cs_X6_surplusOf_202 : CV mX6_surplusOf 202 mX0_gather 2 0 := ⟨⟨cp_X0_gather, rfl, wc_X0_gather, wn_X0, wl_X6_202, cd_X0_gather, ⟨by decide, by decide⟩⟩, wi_X0_gather, ws_X0_gather, _, _, rfl⟩
theorem cs_X6_surplusOf_208 : CV mX6_surplusOf 208 mX0_match 0 0 := ⟨⟨cp_X0_match, rfl, wc_X0_match, wn_X0, wl_X6_208, cd_X0_match, ⟨by decide, by decide⟩⟩, wi_X0_match, ws_X0_match, _, _, rfl⟩
theorem cs_X6_inLowestTerms_288 : CS mX6_inLowestTerms 288 mJ9_abs_067f4 1 := ⟨⟨cp_J9_abs_067f4, rfl, wc_J9_abs_067f4, wn_J9, wl_X6_288, cd_J9_abs_067f4, ⟨by decide, by decide⟩⟩, wt_J9_abs_067f4⟩
theorem cs_X6_inLowestTerms_294 : CS mX6_inLowestTerms 294 mJ9_max_f86c9 2 := ⟨⟨cp_J9_max_f86c9, rfl, wc_J9_max_f86c9, wn_J9, wl_X6_294, cd_J9_max_f86c9, ⟨by decide, by decide⟩⟩, wt_J9_max_f86c9⟩
theorem cs_X6_succeeds_299 : CV mX6_succeeds 299 mX4_tryPlace 4 4 := ⟨⟨cp_X4_tryPlace, rfl, wc_X4_tryPlace, wn_X4, wl_X6_299, cd_X4_tryPlace, ⟨by decide, by decide⟩⟩, wi_X4_tryPlace, ws_X4_tryPlace, _, _, rfl⟩
theorem cs_X6_succeeds_56 : CS mX6_succeeds 56 mX6_isWithin 3 := ⟨⟨cp_X6_isWithin, rfl, wc_X6_isWithin, wn_X6, wl_X6_56, cd_X6_isWithin, ⟨by decide, by decide⟩⟩, wt_X6_isWithin⟩
theorem cs_X6_succeeds_170 : CV mX6_succeeds 170 mX4_advance 2 4 := ⟨⟨cp_X4_advance, rfl, wc_X4_advance, wn_X4, wl_X6_170, cd_X4_advance, ⟨by decide, by decide⟩⟩, wi_X4_advance, ws_X4_advance, _, _, rfl⟩
theorem cs_X6_succeeds_302 : CV mX6_succeeds 302 mX4_tryQueue 2 4 := ⟨⟨cp_X4_tryQueue, rfl, wc_X4_tryQueue, wn_X4, wl_X6_302, cd_X4_tryQueue, ⟨by decide, by decide⟩⟩, wi_X4_tryQueue, ws_X4_tryQueue, _, _, rfl⟩
theorem cs_X6_succeeds_97 : CV mX6_succeeds 97 mX4_hasTenant 1 4 := ⟨⟨cp_X4_hasTenant, rfl, wc_X4_hasTenant, wn_X4, wl_X6_97, cd_X4_hasTenant, ⟨by decide, by decide⟩⟩, wi_X4_hasTenant, ws_X4_hasTenant, _, _, rfl⟩
theorem cs_X6_succeeds_306 : CV mX6_succeeds 306 mX5_credits 0 5 := ⟨⟨cp_X5_credits, rfl, wc_X5_credits, wn_X5, wl_X6_306, cd_X5_credits, ⟨by decide, by decide⟩⟩, wi_X5_credits, ws_X5_credits, _, _, rfl⟩
theorem cs_X6_tryRandomAction_302 : CV mX6_tryRandomAction 302 mX4_tryQueue 2 4 := ⟨⟨cp_X4_tryQueue, rfl, wc_X4_tryQueue, wn_X4, wl_X6_302, cd_X4_tryQueue, ⟨by decide, by decide⟩⟩, wi_X4_tryQueue, ws_X4_tryQueue, _, _, rfl⟩
theorem cs_X6_tryRandomAction_299 : CV mX6_tryRandomAction 299 mX4_tryPlace 4 4 := ⟨⟨cp_X4_tryPlace, rfl, wc_X4_tryPlace, wn_X4, wl_X6_299, cd_X4_tryPlace, ⟨by decide, by decide⟩⟩, wi_X4_tryPlace, ws_X4_tryPlace, _, _, rfl⟩
theorem cs_X7_init_47 : CS mX7_init 47 mX7_clear 1 := ⟨⟨cp_X7_clear, rfl, wc_X7_clear, wn_X7, wl_X7_47, cd_X7_clear, ⟨by decide, by decide⟩⟩, wt_X7_clear⟩
theorem cs_X7_note_58 : CS mX7_note 58 mX7_copy 4 := ⟨⟨cp_X7_copy, rfl, wc_X7_copy, wn_X7, wl_X7_58, cd_X7_copy, ⟨by decide, by decide⟩⟩, wt_X7_copy⟩
theorem cs_X7_isTenant_65 : CS mX7_isTenant 65 mX7_in 3 := ⟨⟨cp_X7_in, rfl, wc_X7_in, wn_X7, wl_X7_65, cd_X7_in, ⟨by decide, by decide⟩⟩, wt_X7_in⟩
theorem cs_X7_isOrder_65 : CS mX7_isOrder 65 mX7_in 3 := ⟨⟨cp_X7_in, rfl, wc_X7_in, wn_X7, wl_X7_65, cd_X7_in, ⟨by decide, by decide⟩⟩, wt_X7_in⟩
theorem cs_X7_append_65 : CS mX7_append 65 mX7_in 3 := ⟨⟨cp_X7_in, rfl, wc_X7_in, wn_X7, wl_X7_65, cd_X7_in, ⟨by decide, by decide⟩⟩, wt_X7_in⟩
theorem cs_X7_append_74 : CV mX7_append 74 mX7_refused 1 7 := ⟨⟨cp_X7_refused, rfl, wc_X7_refused, wn_X7, wl_X7_74, cd_X7_refused, ⟨by decide, by decide⟩⟩, wi_X7_refused, ws_X7_refused, _, _, rfl⟩
theorem cs_X7_number_65 : CS mX7_number 65 mX7_in 3 := ⟨⟨cp_X7_in, rfl, wc_X7_in, wn_X7, wl_X7_65, cd_X7_in, ⟨by decide, by decide⟩⟩, wt_X7_in⟩
theorem cs_X7_readHead_83 : CV mX7_readHead 83 mX7_passes 1 7 := ⟨⟨cp_X7_passes, rfl, wc_X7_passes, wn_X7, wl_X7_83, cd_X7_passes, ⟨by decide, by decide⟩⟩, wi_X7_passes, ws_X7_passes, _, _, rfl⟩
theorem cs_X7_readHead_86 : CV mX7_readHead 86 mX7_number 3 7 := ⟨⟨cp_X7_number, rfl, wc_X7_number, wn_X7, wl_X7_86, cd_X7_number, ⟨by decide, by decide⟩⟩, wi_X7_number, ws_X7_number, _, _, rfl⟩
theorem cs_X7_readTenant_90 : CS mX7_readTenant 90 mX7_at 1 := ⟨⟨cp_X7_at, rfl, wc_X7_at, wn_X7, wl_X7_90, cd_X7_at, ⟨by decide, by decide⟩⟩, wt_X7_at⟩
theorem cs_X7_readTenant_86 : CV mX7_readTenant 86 mX7_number 3 7 := ⟨⟨cp_X7_number, rfl, wc_X7_number, wn_X7, wl_X7_86, cd_X7_number, ⟨by decide, by decide⟩⟩, wi_X7_number, ws_X7_number, _, _, rfl⟩
theorem cs_X7_isRoomLeft_90 : CS mX7_isRoomLeft 90 mX7_at 1 := ⟨⟨cp_X7_at, rfl, wc_X7_at, wn_X7, wl_X7_90, cd_X7_at, ⟨by decide, by decide⟩⟩, wt_X7_at⟩
theorem cs_X7_readMessage_94 : CS mX7_readMessage 94 mX7_isTenant 2 := ⟨⟨cp_X7_isTenant, rfl, wc_X7_isTenant, wn_X7, wl_X7_94, cd_X7_isTenant, ⟨by decide, by decide⟩⟩, wt_X7_isTenant⟩
theorem cs_X7_readMessage_90 : CS mX7_readMessage 90 mX7_at 1 := ⟨⟨cp_X7_at, rfl, wc_X7_at, wn_X7, wl_X7_90, cd_X7_at, ⟨by decide, by decide⟩⟩, wt_X7_at⟩
theorem cs_X7_readMessage_86 : CV mX7_readMessage 86 mX7_number 3 7 := ⟨⟨cp_X7_number, rfl, wc_X7_number, wn_X7, wl_X7_86, cd_X7_number, ⟨by decide, by decide⟩⟩, wi_X7_number, ws_X7_number, _, _, rfl⟩
theorem cs_X7_readText_47 : CS mX7_readText 47 mX7_clear 1 := ⟨⟨cp_X7_clear, rfl, wc_X7_clear, wn_X7, wl_X7_47, cd_X7_clear, ⟨by decide, by decide⟩⟩, wt_X7_clear⟩
theorem cs_X7_readText_98 : CV mX7_readText 98 mX7_readHead 0 7 := ⟨⟨cp_X7_readHead, rfl, wc_X7_readHead, wn_X7, wl_X7_98, cd_X7_readHead, ⟨by decide, by decide⟩⟩, wi_X7_readHead, ws_X7_readHead, _, _, rfl⟩
theorem cs_X7_readText_83 : CV mX7_readText 83 mX7_passes 1 7 := ⟨⟨cp_X7_passes, rfl, wc_X7_passes, wn_X7, wl_X7_83, cd_X7_passes, ⟨by decide, by decide⟩⟩, wi_X7_passes, ws_X7_passes, _, _, rfl⟩
theorem cs_X7_readText_102 : CV mX7_readText 102 mX7_readTenant 0 7 := ⟨⟨cp_X7_readTenant, rfl, wc_X7_readTenant, wn_X7, wl_X7_102, cd_X7_readTenant, ⟨by decide, by decide⟩⟩, wi_X7_readTenant, ws_X7_readTenant, _, _, rfl⟩
theorem cs_X7_readText_105 : CV mX7_readText 105 mX7_isRoomLeft 0 7 := ⟨⟨cp_X7_isRoomLeft, rfl, wc_X7_isRoomLeft, wn_X7, wl_X7_105, cd_X7_isRoomLeft, ⟨by decide, by decide⟩⟩, wi_X7_isRoomLeft, ws_X7_isRoomLeft, _, _, rfl⟩
theorem cs_X7_readText_108 : CV mX7_readText 108 mX7_readMessage 0 7 := ⟨⟨cp_X7_readMessage, rfl, wc_X7_readMessage, wn_X7, wl_X7_108, cd_X7_readMessage, ⟨by decide, by decide⟩⟩, wi_X7_readMessage, ws_X7_readMessage, _, _, rfl⟩
theorem cs_X7_errorPosition_111 : CV mX7_errorPosition 111 mX7_readText 0 7 := ⟨⟨cp_X7_readText, rfl, wc_X7_readText, wn_X7, wl_X7_111, cd_X7_readText, ⟨by decide, by decide⟩⟩, wi_X7_readText, ws_X7_readText, _, _, rfl⟩
theorem cs_X7_load_111 : CV mX7_load 111 mX7_readText 0 7 := ⟨⟨cp_X7_readText, rfl, wc_X7_readText, wn_X7, wl_X7_111, cd_X7_readText, ⟨by decide, by decide⟩⟩, wi_X7_readText, ws_X7_readText, _, _, rfl⟩
theorem cs_X7_load_74 : CV mX7_load 74 mX7_refused 1 7 := ⟨⟨cp_X7_refused, rfl, wc_X7_refused, wn_X7, wl_X7_74, cd_X7_refused, ⟨by decide, by decide⟩⟩, wi_X7_refused, ws_X7_refused, _, _, rfl⟩
theorem cs_X7_load_58 : CS mX7_load 58 mX7_copy 4 := ⟨⟨cp_X7_copy, rfl, wc_X7_copy, wn_X7, wl_X7_58, cd_X7_copy, ⟨by decide, by decide⟩⟩, wt_X7_copy⟩
theorem cs_X7_credits_90 : CS mX7_credits 90 mX7_at 1 := ⟨⟨cp_X7_at, rfl, wc_X7_at, wn_X7, wl_X7_90, cd_X7_at, ⟨by decide, by decide⟩⟩, wt_X7_at⟩
theorem cs_X7_takeCredits_90 : CS mX7_takeCredits 90 mX7_at 1 := ⟨⟨cp_X7_at, rfl, wc_X7_at, wn_X7, wl_X7_90, cd_X7_at, ⟨by decide, by decide⟩⟩, wt_X7_at⟩
theorem cs_X7_takeCredits_115 : CS mX7_takeCredits 115 mX7_lesser 2 := ⟨⟨cp_X7_lesser, rfl, wc_X7_lesser, wn_X7, wl_X7_115, cd_X7_lesser, ⟨by decide, by decide⟩⟩, wt_X7_lesser⟩
theorem cs_X7_isSuspended_90 : CS mX7_isSuspended 90 mX7_at 1 := ⟨⟨cp_X7_at, rfl, wc_X7_at, wn_X7, wl_X7_90, cd_X7_at, ⟨by decide, by decide⟩⟩, wt_X7_at⟩
theorem cs_X7_debts_90 : CS mX7_debts 90 mX7_at 1 := ⟨⟨cp_X7_at, rfl, wc_X7_at, wn_X7, wl_X7_90, cd_X7_at, ⟨by decide, by decide⟩⟩, wt_X7_at⟩
theorem cs_X7_inBook_119 : CS mX7_inBook 119 mX7_orderAt 1 := ⟨⟨cp_X7_orderAt, rfl, wc_X7_orderAt, wn_X7, wl_X7_119, cd_X7_orderAt, ⟨by decide, by decide⟩⟩, wt_X7_orderAt⟩
theorem cs_X7_tell_90 : CS mX7_tell 90 mX7_at 1 := ⟨⟨cp_X7_at, rfl, wc_X7_at, wn_X7, wl_X7_90, cd_X7_at, ⟨by decide, by decide⟩⟩, wt_X7_at⟩
theorem cs_X7_tell_122 : CS mX7_tell 122 mX7_inBook 4 := ⟨⟨cp_X7_inBook, rfl, wc_X7_inBook, wn_X7, wl_X7_122, cd_X7_inBook, ⟨by decide, by decide⟩⟩, wt_X7_inBook⟩
theorem cs_X7_tell_126 : CS mX7_tell 126 mX7_debts 2 := ⟨⟨cp_X7_debts, rfl, wc_X7_debts, wn_X7, wl_X7_126, cd_X7_debts, ⟨by decide, by decide⟩⟩, wt_X7_debts⟩
theorem cs_X7_tell_130 : CS mX7_tell 130 mX7_isSuspended 2 := ⟨⟨cp_X7_isSuspended, rfl, wc_X7_isSuspended, wn_X7, wl_X7_130, cd_X7_isSuspended, ⟨by decide, by decide⟩⟩, wt_X7_isSuspended⟩
theorem cs_X7_about_65 : CS mX7_about 65 mX7_in 3 := ⟨⟨cp_X7_in, rfl, wc_X7_in, wn_X7, wl_X7_65, cd_X7_in, ⟨by decide, by decide⟩⟩, wt_X7_in⟩
theorem cs_X7_about_74 : CV mX7_about 74 mX7_refused 1 7 := ⟨⟨cp_X7_refused, rfl, wc_X7_refused, wn_X7, wl_X7_74, cd_X7_refused, ⟨by decide, by decide⟩⟩, wi_X7_refused, ws_X7_refused, _, _, rfl⟩
theorem cs_X7_tenant_94 : CS mX7_tenant 94 mX7_isTenant 2 := ⟨⟨cp_X7_isTenant, rfl, wc_X7_isTenant, wn_X7, wl_X7_94, cd_X7_isTenant, ⟨by decide, by decide⟩⟩, wt_X7_isTenant⟩
theorem cs_X7_tenant_65 : CS mX7_tenant 65 mX7_in 3 := ⟨⟨cp_X7_in, rfl, wc_X7_in, wn_X7, wl_X7_65, cd_X7_in, ⟨by decide, by decide⟩⟩, wt_X7_in⟩
theorem cs_X7_tenant_74 : CV mX7_tenant 74 mX7_refused 1 7 := ⟨⟨cp_X7_refused, rfl, wc_X7_refused, wn_X7, wl_X7_74, cd_X7_refused, ⟨by decide, by decide⟩⟩, wi_X7_refused, ws_X7_refused, _, _, rfl⟩
theorem cs_X7_tenant_135 : CS mX7_tenant 135 mX7_tell 3 := ⟨⟨cp_X7_tell, rfl, wc_X7_tell, wn_X7, wl_X7_135, cd_X7_tell, ⟨by decide, by decide⟩⟩, wt_X7_tell⟩
theorem cs_X7_message_94 : CS mX7_message 94 mX7_isTenant 2 := ⟨⟨cp_X7_isTenant, rfl, wc_X7_isTenant, wn_X7, wl_X7_94, cd_X7_isTenant, ⟨by decide, by decide⟩⟩, wt_X7_isTenant⟩
theorem cs_X7_message_65 : CS mX7_message 65 mX7_in 3 := ⟨⟨cp_X7_in, rfl, wc_X7_in, wn_X7, wl_X7_65, cd_X7_in, ⟨by decide, by decide⟩⟩, wt_X7_in⟩
theorem cs_X7_message_74 : CV mX7_message 74 mX7_refused 1 7 := ⟨⟨cp_X7_refused, rfl, wc_X7_refused, wn_X7, wl_X7_74, cd_X7_refused, ⟨by decide, by decide⟩⟩, wi_X7_refused, ws_X7_refused, _, _, rfl⟩
theorem cs_X7_message_90 : CS mX7_message 90 mX7_at 1 := ⟨⟨cp_X7_at, rfl, wc_X7_at, wn_X7, wl_X7_90, cd_X7_at, ⟨by decide, by decide⟩⟩, wt_X7_at⟩
theorem cs_X7_order_141 : CV mX7_order 141 mX7_isOrder 1 7 := ⟨⟨cp_X7_isOrder, rfl, wc_X7_isOrder, wn_X7, wl_X7_141, cd_X7_isOrder, ⟨by decide, by decide⟩⟩, wi_X7_isOrder, ws_X7_isOrder, _, _, rfl⟩
theorem cs_X7_order_65 : CS mX7_order 65 mX7_in 3 := ⟨⟨cp_X7_in, rfl, wc_X7_in, wn_X7, wl_X7_65, cd_X7_in, ⟨by decide, by decide⟩⟩, wt_X7_in⟩
theorem cs_X7_order_74 : CV mX7_order 74 mX7_refused 1 7 := ⟨⟨cp_X7_refused, rfl, wc_X7_refused, wn_X7, wl_X7_74, cd_X7_refused, ⟨by decide, by decide⟩⟩, wi_X7_refused, ws_X7_refused, _, _, rfl⟩
theorem cs_X7_order_119 : CS mX7_order 119 mX7_orderAt 1 := ⟨⟨cp_X7_orderAt, rfl, wc_X7_orderAt, wn_X7, wl_X7_119, cd_X7_orderAt, ⟨by decide, by decide⟩⟩, wt_X7_orderAt⟩
theorem cs_X7_order_146 : CV mX7_order 146 mX7_layBench 2 7 := ⟨⟨cp_X7_layBench, rfl, wc_X7_layBench, wn_X7, wl_X7_146, cd_X7_layBench, ⟨by decide, by decide⟩⟩, wi_X7_layBench, ws_X7_layBench, _, _, rfl⟩
theorem cs_X7_order_150 : CV mX7_order 150 mX7_match 0 7 := ⟨⟨cp_X7_match, rfl, wc_X7_match, wn_X7, wl_X7_150, cd_X7_match, ⟨by decide, by decide⟩⟩, wi_X7_match, ws_X7_match, _, _, rfl⟩
theorem cs_X7_layBench_119 : CS mX7_layBench 119 mX7_orderAt 1 := ⟨⟨cp_X7_orderAt, rfl, wc_X7_orderAt, wn_X7, wl_X7_119, cd_X7_orderAt, ⟨by decide, by decide⟩⟩, wt_X7_orderAt⟩
theorem cs_X7_laySide_156 : CV mX7_laySide 156 mX7_isBefore 2 7 := ⟨⟨cp_X7_isBefore, rfl, wc_X7_isBefore, wn_X7, wl_X7_156, cd_X7_isBefore, ⟨by decide, by decide⟩⟩, wi_X7_isBefore, ws_X7_isBefore, _, _, rfl⟩
theorem cs_X7_match_160 : CV mX7_match 160 mX7_laySide 2 7 := ⟨⟨cp_X7_laySide, rfl, wc_X7_laySide, wn_X7, wl_X7_160, cd_X7_laySide, ⟨by decide, by decide⟩⟩, wi_X7_laySide, ws_X7_laySide, _, _, rfl⟩
theorem cs_X7_match_115 : CS mX7_match 115 mX7_lesser 2 := ⟨⟨cp_X7_lesser, rfl, wc_X7_lesser, wn_X7, wl_X7_115, cd_X7_lesser, ⟨by decide, by decide⟩⟩, wt_X7_lesser⟩
theorem cs_X7_removeOrder_119 : CS mX7_removeOrder 119 mX7_orderAt 1 := ⟨⟨cp_X7_orderAt, rfl, wc_X7_orderAt, wn_X7, wl_X7_119, cd_X7_orderAt, ⟨by decide, by decide⟩⟩, wt_X7_orderAt⟩
theorem cs_X7_withdrawFrom_119 : CS mX7_withdrawFrom 119 mX7_orderAt 1 := ⟨⟨cp_X7_orderAt, rfl, wc_X7_orderAt, wn_X7, wl_X7_119, cd_X7_orderAt, ⟨by decide, by decide⟩⟩, wt_X7_orderAt⟩
theorem cs_X7_withdrawFrom_90 : CS mX7_withdrawFrom 90 mX7_at 1 := ⟨⟨cp_X7_at, rfl, wc_X7_at, wn_X7, wl_X7_90, cd_X7_at, ⟨by decide, by decide⟩⟩, wt_X7_at⟩
theorem cs_X7_withdrawFrom_173 : CS mX7_withdrawFrom 173 mX7_removeOrder 2 := ⟨⟨cp_X7_removeOrder, rfl, wc_X7_removeOrder, wn_X7, wl_X7_173, cd_X7_removeOrder, ⟨by decide, by decide⟩⟩, wt_X7_removeOrder⟩
theorem cs_X7_settle_119 : CS mX7_settle 119 mX7_orderAt 1 := ⟨⟨cp_X7_orderAt, rfl, wc_X7_orderAt, wn_X7, wl_X7_119, cd_X7_orderAt, ⟨by decide, by decide⟩⟩, wt_X7_orderAt⟩
theorem cs_X7_settle_90 : CS mX7_settle 90 mX7_at 1 := ⟨⟨cp_X7_at, rfl, wc_X7_at, wn_X7, wl_X7_90, cd_X7_at, ⟨by decide, by decide⟩⟩, wt_X7_at⟩
theorem cs_X7_auctionOn_146 : CV mX7_auctionOn 146 mX7_layBench 2 7 := ⟨⟨cp_X7_layBench, rfl, wc_X7_layBench, wn_X7, wl_X7_146, cd_X7_layBench, ⟨by decide, by decide⟩⟩, wi_X7_layBench, ws_X7_layBench, _, _, rfl⟩
theorem cs_X7_auctionOn_150 : CV mX7_auctionOn 150 mX7_match 0 7 := ⟨⟨cp_X7_match, rfl, wc_X7_match, wn_X7, wl_X7_150, cd_X7_match, ⟨by decide, by decide⟩⟩, wi_X7_match, ws_X7_match, _, _, rfl⟩
theorem cs_X7_auctionOn_176 : CV mX7_auctionOn 176 mX7_settle 2 7 := ⟨⟨cp_X7_settle, rfl, wc_X7_settle, wn_X7, wl_X7_176, cd_X7_settle, ⟨by decide, by decide⟩⟩, wi_X7_settle, ws_X7_settle, _, _, rfl⟩
theorem cs_X7_auctionOn_119 : CS mX7_auctionOn 119 mX7_orderAt 1 := ⟨⟨cp_X7_orderAt, rfl, wc_X7_orderAt, wn_X7, wl_X7_119, cd_X7_orderAt, ⟨by decide, by decide⟩⟩, wt_X7_orderAt⟩
theorem cs_X7_auctionOn_173 : CS mX7_auctionOn 173 mX7_removeOrder 2 := ⟨⟨cp_X7_removeOrder, rfl, wc_X7_removeOrder, wn_X7, wl_X7_173, cd_X7_removeOrder, ⟨by decide, by decide⟩⟩, wt_X7_removeOrder⟩
theorem cs_X7_sends_90 : CS mX7_sends 90 mX7_at 1 := ⟨⟨cp_X7_at, rfl, wc_X7_at, wn_X7, wl_X7_90, cd_X7_at, ⟨by decide, by decide⟩⟩, wt_X7_at⟩
theorem cs_X7_sends_130 : CS mX7_sends 130 mX7_isSuspended 2 := ⟨⟨cp_X7_isSuspended, rfl, wc_X7_isSuspended, wn_X7, wl_X7_130, cd_X7_isSuspended, ⟨by decide, by decide⟩⟩, wt_X7_isSuspended⟩
theorem cs_X7_sends_179 : CS mX7_sends 179 mX7_credits 2 := ⟨⟨cp_X7_credits, rfl, wc_X7_credits, wn_X7, wl_X7_179, cd_X7_credits, ⟨by decide, by decide⟩⟩, wt_X7_credits⟩
theorem cs_X7_sends_182 : CS mX7_sends 182 mX7_takeCredits 3 := ⟨⟨cp_X7_takeCredits, rfl, wc_X7_takeCredits, wn_X7, wl_X7_182, cd_X7_takeCredits, ⟨by decide, by decide⟩⟩, wt_X7_takeCredits⟩
theorem cs_X7_sendAll_185 : CS mX7_sendAll 185 mX7_sends 2 := ⟨⟨cp_X7_sends, rfl, wc_X7_sends, wn_X7, wl_X7_185, cd_X7_sends, ⟨by decide, by decide⟩⟩, wt_X7_sends⟩
theorem cs_X7_withdrawAll_119 : CS mX7_withdrawAll 119 mX7_orderAt 1 := ⟨⟨cp_X7_orderAt, rfl, wc_X7_orderAt, wn_X7, wl_X7_119, cd_X7_orderAt, ⟨by decide, by decide⟩⟩, wt_X7_orderAt⟩
theorem cs_X7_withdrawAll_188 : CS mX7_withdrawAll 188 mX7_withdrawFrom 2 := ⟨⟨cp_X7_withdrawFrom, rfl, wc_X7_withdrawFrom, wn_X7, wl_X7_188, cd_X7_withdrawFrom, ⟨by decide, by decide⟩⟩, wt_X7_withdrawFrom⟩
theorem cs_X7_collect_90 : CS mX7_collect 90 mX7_at 1 := ⟨⟨cp_X7_at, rfl, wc_X7_at, wn_X7, wl_X7_90, cd_X7_at, ⟨by decide, by decide⟩⟩, wt_X7_at⟩
theorem cs_X7_collect_182 : CS mX7_collect 182 mX7_takeCredits 3 := ⟨⟨cp_X7_takeCredits, rfl, wc_X7_takeCredits, wn_X7, wl_X7_182, cd_X7_takeCredits, ⟨by decide, by decide⟩⟩, wt_X7_takeCredits⟩
theorem cs_X7_collect_191 : CS mX7_collect 191 mX7_withdrawAll 2 := ⟨⟨cp_X7_withdrawAll, rfl, wc_X7_withdrawAll, wn_X7, wl_X7_191, cd_X7_withdrawAll, ⟨by decide, by decide⟩⟩, wt_X7_withdrawAll⟩
theorem cs_X7_tickOn_90 : CS mX7_tickOn 90 mX7_at 1 := ⟨⟨cp_X7_at, rfl, wc_X7_at, wn_X7, wl_X7_90, cd_X7_at, ⟨by decide, by decide⟩⟩, wt_X7_at⟩
theorem cs_X7_tickOn_130 : CS mX7_tickOn 130 mX7_isSuspended 2 := ⟨⟨cp_X7_isSuspended, rfl, wc_X7_isSuspended, wn_X7, wl_X7_130, cd_X7_isSuspended, ⟨by decide, by decide⟩⟩, wt_X7_isSuspended⟩
theorem cs_X7_tickOn_115 : CS mX7_tickOn 115 mX7_lesser 2 := ⟨⟨cp_X7_lesser, rfl, wc_X7_lesser, wn_X7, wl_X7_115, cd_X7_lesser, ⟨by decide, by decide⟩⟩, wt_X7_lesser⟩
theorem cs_X7_tickOn_194 : CS mX7_tickOn 194 mX7_sendAll 1 := ⟨⟨cp_X7_sendAll, rfl, wc_X7_sendAll, wn_X7, wl_X7_194, cd_X7_sendAll, ⟨by decide, by decide⟩⟩, wt_X7_sendAll⟩
theorem cs_X7_tickOn_197 : CV mX7_tickOn 197 mX7_auctionOn 1 7 := ⟨⟨cp_X7_auctionOn, rfl, wc_X7_auctionOn, wn_X7, wl_X7_197, cd_X7_auctionOn, ⟨by decide, by decide⟩⟩, wi_X7_auctionOn, ws_X7_auctionOn, _, _, rfl⟩
theorem cs_X7_tickOn_200 : CS mX7_tickOn 200 mX7_collect 2 := ⟨⟨cp_X7_collect, rfl, wc_X7_collect, wn_X7, wl_X7_200, cd_X7_collect, ⟨by decide, by decide⟩⟩, wt_X7_collect⟩
theorem cs_X7_ticksOn_203 : CV mX7_ticksOn 203 mX7_tickOn 1 7 := ⟨⟨cp_X7_tickOn, rfl, wc_X7_tickOn, wn_X7, wl_X7_203, cd_X7_tickOn, ⟨by decide, by decide⟩⟩, wi_X7_tickOn, ws_X7_tickOn, _, _, rfl⟩
theorem cs_X7_whyNot_94 : CS mX7_whyNot 94 mX7_isTenant 2 := ⟨⟨cp_X7_isTenant, rfl, wc_X7_isTenant, wn_X7, wl_X7_94, cd_X7_isTenant, ⟨by decide, by decide⟩⟩, wt_X7_isTenant⟩
theorem cs_X7_whyNot_65 : CS mX7_whyNot 65 mX7_in 3 := ⟨⟨cp_X7_in, rfl, wc_X7_in, wn_X7, wl_X7_65, cd_X7_in, ⟨by decide, by decide⟩⟩, wt_X7_in⟩
theorem cs_X7_whyNot_130 : CS mX7_whyNot 130 mX7_isSuspended 2 := ⟨⟨cp_X7_isSuspended, rfl, wc_X7_isSuspended, wn_X7, wl_X7_130, cd_X7_isSuspended, ⟨by decide, by decide⟩⟩, wt_X7_isSuspended⟩
theorem cs_X7_whyNot_90 : CS mX7_whyNot 90 mX7_at 1 := ⟨⟨cp_X7_at, rfl, wc_X7_at, wn_X7, wl_X7_90, cd_X7_at, ⟨by decide, by decide⟩⟩, wt_X7_at⟩
theorem cs_X7_whyNot_179 : CS mX7_whyNot 179 mX7_credits 2 := ⟨⟨cp_X7_credits, rfl, wc_X7_credits, wn_X7, wl_X7_179, cd_X7_credits, ⟨by decide, by decide⟩⟩, wt_X7_credits⟩
theorem cs_X7_whyNot_126 : CS mX7_whyNot 126 mX7_debts 2 := ⟨⟨cp_X7_debts, rfl, wc_X7_debts, wn_X7, wl_X7_126, cd_X7_debts, ⟨by decide, by decide⟩⟩, wt_X7_debts⟩
theorem cs_X7_whyNot_122 : CS mX7_whyNot 122 mX7_inBook 4 := ⟨⟨cp_X7_inBook, rfl, wc_X7_inBook, wn_X7, wl_X7_122, cd_X7_inBook, ⟨by decide, by decide⟩⟩, wt_X7_inBook⟩
theorem cs_X7_addOrder_119 : CS mX7_addOrder 119 mX7_orderAt 1 := ⟨⟨cp_X7_orderAt, rfl, wc_X7_orderAt, wn_X7, wl_X7_119, cd_X7_orderAt, ⟨by decide, by decide⟩⟩, wt_X7_orderAt⟩
theorem cs_X7_addOrder_90 : CS mX7_addOrder 90 mX7_at 1 := ⟨⟨cp_X7_at, rfl, wc_X7_at, wn_X7, wl_X7_90, cd_X7_at, ⟨by decide, by decide⟩⟩, wt_X7_at⟩
theorem cs_X7_addOrder_182 : CS mX7_addOrder 182 mX7_takeCredits 3 := ⟨⟨cp_X7_takeCredits, rfl, wc_X7_takeCredits, wn_X7, wl_X7_182, cd_X7_takeCredits, ⟨by decide, by decide⟩⟩, wt_X7_takeCredits⟩
theorem cs_X7_orderBy_208 : CS mX7_orderBy 208 mX7_whyNot 5 := ⟨⟨cp_X7_whyNot, rfl, wc_X7_whyNot, wn_X7, wl_X7_208, cd_X7_whyNot, ⟨by decide, by decide⟩⟩, wt_X7_whyNot⟩
theorem cs_X7_orderBy_74 : CV mX7_orderBy 74 mX7_refused 1 7 := ⟨⟨cp_X7_refused, rfl, wc_X7_refused, wn_X7, wl_X7_74, cd_X7_refused, ⟨by decide, by decide⟩⟩, wi_X7_refused, ws_X7_refused, _, _, rfl⟩
theorem cs_X7_orderBy_212 : CV mX7_orderBy 212 mX7_note 0 7 := ⟨⟨cp_X7_note, rfl, wc_X7_note, wn_X7, wl_X7_212, cd_X7_note, ⟨by decide, by decide⟩⟩, wi_X7_note, ws_X7_note, _, _, rfl⟩
theorem cs_X7_orderBy_215 : CS mX7_orderBy 215 mX7_addOrder 5 := ⟨⟨cp_X7_addOrder, rfl, wc_X7_addOrder, wn_X7, wl_X7_215, cd_X7_addOrder, ⟨by decide, by decide⟩⟩, wt_X7_addOrder⟩
theorem cs_X7_bid_218 : CV mX7_bid 218 mX7_orderBy 4 7 := ⟨⟨cp_X7_orderBy, rfl, wc_X7_orderBy, wn_X7, wl_X7_218, cd_X7_orderBy, ⟨by decide, by decide⟩⟩, wi_X7_orderBy, ws_X7_orderBy, _, _, rfl⟩
theorem cs_X7_ask_218 : CV mX7_ask 218 mX7_orderBy 4 7 := ⟨⟨cp_X7_orderBy, rfl, wc_X7_orderBy, wn_X7, wl_X7_218, cd_X7_orderBy, ⟨by decide, by decide⟩⟩, wi_X7_orderBy, ws_X7_orderBy, _, _, rfl⟩
theorem cs_X7_askShort_218 : CV mX7_askShort 218 mX7_orderBy 4 7 := ⟨⟨cp_X7_orderBy, rfl, wc_X7_orderBy, wn_X7, wl_X7_218, cd_X7_orderBy, ⟨by decide, by decide⟩⟩, wi_X7_orderBy, ws_X7_orderBy, _, _, rfl⟩
theorem cs_X7_withdraw_141 : CV mX7_withdraw 141 mX7_isOrder 1 7 := ⟨⟨cp_X7_isOrder, rfl, wc_X7_isOrder, wn_X7, wl_X7_141, cd_X7_isOrder, ⟨by decide, by decide⟩⟩, wi_X7_isOrder, ws_X7_isOrder, _, _, rfl⟩
theorem cs_X7_withdraw_74 : CV mX7_withdraw 74 mX7_refused 1 7 := ⟨⟨cp_X7_refused, rfl, wc_X7_refused, wn_X7, wl_X7_74, cd_X7_refused, ⟨by decide, by decide⟩⟩, wi_X7_refused, ws_X7_refused, _, _, rfl⟩
theorem cs_X7_withdraw_212 : CV mX7_withdraw 212 mX7_note 0 7 := ⟨⟨cp_X7_note, rfl, wc_X7_note, wn_X7, wl_X7_212, cd_X7_note, ⟨by decide, by decide⟩⟩, wi_X7_note, ws_X7_note, _, _, rfl⟩
theorem cs_X7_withdraw_119 : CS mX7_withdraw 119 mX7_orderAt 1 := ⟨⟨cp_X7_orderAt, rfl, wc_X7_orderAt, wn_X7, wl_X7_119, cd_X7_orderAt, ⟨by decide, by decide⟩⟩, wt_X7_orderAt⟩
theorem cs_X7_withdraw_188 : CS mX7_withdraw 188 mX7_withdrawFrom 2 := ⟨⟨cp_X7_withdrawFrom, rfl, wc_X7_withdrawFrom, wn_X7, wl_X7_188, cd_X7_withdrawFrom, ⟨by decide, by decide⟩⟩, wt_X7_withdrawFrom⟩
theorem cs_X7_whyNotPushed_94 : CS mX7_whyNotPushed 94 mX7_isTenant 2 := ⟨⟨cp_X7_isTenant, rfl, wc_X7_isTenant, wn_X7, wl_X7_94, cd_X7_isTenant, ⟨by decide, by decide⟩⟩, wt_X7_isTenant⟩
theorem cs_X7_whyNotPushed_65 : CS mX7_whyNotPushed 65 mX7_in 3 := ⟨⟨cp_X7_in, rfl, wc_X7_in, wn_X7, wl_X7_65, cd_X7_in, ⟨by decide, by decide⟩⟩, wt_X7_in⟩
theorem cs_X7_whyNotPushed_90 : CS mX7_whyNotPushed 90 mX7_at 1 := ⟨⟨cp_X7_at, rfl, wc_X7_at, wn_X7, wl_X7_90, cd_X7_at, ⟨by decide, by decide⟩⟩, wt_X7_at⟩
theorem cs_X7_pushOn_90 : CS mX7_pushOn 90 mX7_at 1 := ⟨⟨cp_X7_at, rfl, wc_X7_at, wn_X7, wl_X7_90, cd_X7_at, ⟨by decide, by decide⟩⟩, wt_X7_at⟩
theorem cs_X7_push_222 : CS mX7_push 222 mX7_whyNotPushed 3 := ⟨⟨cp_X7_whyNotPushed, rfl, wc_X7_whyNotPushed, wn_X7, wl_X7_222, cd_X7_whyNotPushed, ⟨by decide, by decide⟩⟩, wt_X7_whyNotPushed⟩
theorem cs_X7_push_74 : CV mX7_push 74 mX7_refused 1 7 := ⟨⟨cp_X7_refused, rfl, wc_X7_refused, wn_X7, wl_X7_74, cd_X7_refused, ⟨by decide, by decide⟩⟩, wi_X7_refused, ws_X7_refused, _, _, rfl⟩
theorem cs_X7_push_212 : CV mX7_push 212 mX7_note 0 7 := ⟨⟨cp_X7_note, rfl, wc_X7_note, wn_X7, wl_X7_212, cd_X7_note, ⟨by decide, by decide⟩⟩, wi_X7_note, ws_X7_note, _, _, rfl⟩
theorem cs_X7_push_225 : CS mX7_push 225 mX7_pushOn 3 := ⟨⟨cp_X7_pushOn, rfl, wc_X7_pushOn, wn_X7, wl_X7_225, cd_X7_pushOn, ⟨by decide, by decide⟩⟩, wt_X7_pushOn⟩
theorem cs_X7_deposit_94 : CS mX7_deposit 94 mX7_isTenant 2 := ⟨⟨cp_X7_isTenant, rfl, wc_X7_isTenant, wn_X7, wl_X7_94, cd_X7_isTenant, ⟨by decide, by decide⟩⟩, wt_X7_isTenant⟩
theorem cs_X7_deposit_65 : CS mX7_deposit 65 mX7_in 3 := ⟨⟨cp_X7_in, rfl, wc_X7_in, wn_X7, wl_X7_65, cd_X7_in, ⟨by decide, by decide⟩⟩, wt_X7_in⟩
theorem cs_X7_deposit_90 : CS mX7_deposit 90 mX7_at 1 := ⟨⟨cp_X7_at, rfl, wc_X7_at, wn_X7, wl_X7_90, cd_X7_at, ⟨by decide, by decide⟩⟩, wt_X7_at⟩
theorem cs_X7_deposit_74 : CV mX7_deposit 74 mX7_refused 1 7 := ⟨⟨cp_X7_refused, rfl, wc_X7_refused, wn_X7, wl_X7_74, cd_X7_refused, ⟨by decide, by decide⟩⟩, wi_X7_refused, ws_X7_refused, _, _, rfl⟩
theorem cs_X7_deposit_212 : CV mX7_deposit 212 mX7_note 0 7 := ⟨⟨cp_X7_note, rfl, wc_X7_note, wn_X7, wl_X7_212, cd_X7_note, ⟨by decide, by decide⟩⟩, wi_X7_note, ws_X7_note, _, _, rfl⟩
theorem cs_X7_tick_65 : CS mX7_tick 65 mX7_in 3 := ⟨⟨cp_X7_in, rfl, wc_X7_in, wn_X7, wl_X7_65, cd_X7_in, ⟨by decide, by decide⟩⟩, wt_X7_in⟩
theorem cs_X7_tick_74 : CV mX7_tick 74 mX7_refused 1 7 := ⟨⟨cp_X7_refused, rfl, wc_X7_refused, wn_X7, wl_X7_74, cd_X7_refused, ⟨by decide, by decide⟩⟩, wi_X7_refused, ws_X7_refused, _, _, rfl⟩
theorem cs_X7_tick_212 : CV mX7_tick 212 mX7_note 0 7 := ⟨⟨cp_X7_note, rfl, wc_X7_note, wn_X7, wl_X7_212, cd_X7_note, ⟨by decide, by decide⟩⟩, wi_X7_note, ws_X7_note, _, _, rfl⟩
theorem cs_X7_tick_233 : CV mX7_tick 233 mX7_ticksOn 2 7 := ⟨⟨cp_X7_ticksOn, rfl, wc_X7_ticksOn, wn_X7, wl_X7_233, cd_X7_ticksOn, ⟨by decide, by decide⟩⟩, wi_X7_ticksOn, ws_X7_ticksOn, _, _, rfl⟩
theorem cs_X7_setRate_94 : CS mX7_setRate 94 mX7_isTenant 2 := ⟨⟨cp_X7_isTenant, rfl, wc_X7_isTenant, wn_X7, wl_X7_94, cd_X7_isTenant, ⟨by decide, by decide⟩⟩, wt_X7_isTenant⟩
theorem cs_X7_setRate_65 : CS mX7_setRate 65 mX7_in 3 := ⟨⟨cp_X7_in, rfl, wc_X7_in, wn_X7, wl_X7_65, cd_X7_in, ⟨by decide, by decide⟩⟩, wt_X7_in⟩
theorem cs_X7_setRate_74 : CV mX7_setRate 74 mX7_refused 1 7 := ⟨⟨cp_X7_refused, rfl, wc_X7_refused, wn_X7, wl_X7_74, cd_X7_refused, ⟨by decide, by decide⟩⟩, wi_X7_refused, ws_X7_refused, _, _, rfl⟩
theorem cs_X7_setRate_212 : CV mX7_setRate 212 mX7_note 0 7 := ⟨⟨cp_X7_note, rfl, wc_X7_note, wn_X7, wl_X7_212, cd_X7_note, ⟨by decide, by decide⟩⟩, wi_X7_note, ws_X7_note, _, _, rfl⟩
theorem cs_X7_setRate_90 : CS mX7_setRate 90 mX7_at 1 := ⟨⟨cp_X7_at, rfl, wc_X7_at, wn_X7, wl_X7_90, cd_X7_at, ⟨by decide, by decide⟩⟩, wt_X7_at⟩
theorem cs_X7_setWidth_65 : CS mX7_setWidth 65 mX7_in 3 := ⟨⟨cp_X7_in, rfl, wc_X7_in, wn_X7, wl_X7_65, cd_X7_in, ⟨by decide, by decide⟩⟩, wt_X7_in⟩
theorem cs_X7_setWidth_74 : CV mX7_setWidth 74 mX7_refused 1 7 := ⟨⟨cp_X7_refused, rfl, wc_X7_refused, wn_X7, wl_X7_74, cd_X7_refused, ⟨by decide, by decide⟩⟩, wi_X7_refused, ws_X7_refused, _, _, rfl⟩
theorem cs_X7_setWidth_212 : CV mX7_setWidth 212 mX7_note 0 7 := ⟨⟨cp_X7_note, rfl, wc_X7_note, wn_X7, wl_X7_212, cd_X7_note, ⟨by decide, by decide⟩⟩, wi_X7_note, ws_X7_note, _, _, rfl⟩
theorem cs_X7_undo_74 : CV mX7_undo 74 mX7_refused 1 7 := ⟨⟨cp_X7_refused, rfl, wc_X7_refused, wn_X7, wl_X7_74, cd_X7_refused, ⟨by decide, by decide⟩⟩, wi_X7_refused, ws_X7_refused, _, _, rfl⟩
theorem cs_X7_undo_58 : CS mX7_undo 58 mX7_copy 4 := ⟨⟨cp_X7_copy, rfl, wc_X7_copy, wn_X7, wl_X7_58, cd_X7_copy, ⟨by decide, by decide⟩⟩, wt_X7_copy⟩
theorem cs_X7_atLeast_119 : CS mX7_atLeast 119 mX7_orderAt 1 := ⟨⟨cp_X7_orderAt, rfl, wc_X7_orderAt, wn_X7, wl_X7_119, cd_X7_orderAt, ⟨by decide, by decide⟩⟩, wt_X7_orderAt⟩
theorem cs_X7_demand_65 : CS mX7_demand 65 mX7_in 3 := ⟨⟨cp_X7_in, rfl, wc_X7_in, wn_X7, wl_X7_65, cd_X7_in, ⟨by decide, by decide⟩⟩, wt_X7_in⟩
theorem cs_X7_demand_74 : CV mX7_demand 74 mX7_refused 1 7 := ⟨⟨cp_X7_refused, rfl, wc_X7_refused, wn_X7, wl_X7_74, cd_X7_refused, ⟨by decide, by decide⟩⟩, wi_X7_refused, ws_X7_refused, _, _, rfl⟩
theorem cs_X7_demand_238 : CV mX7_demand 238 mX7_atLeast 2 7 := ⟨⟨cp_X7_atLeast, rfl, wc_X7_atLeast, wn_X7, wl_X7_238, cd_X7_atLeast, ⟨by decide, by decide⟩⟩, wi_X7_atLeast, ws_X7_atLeast, _, _, rfl⟩
theorem cs_X7_supply_65 : CS mX7_supply 65 mX7_in 3 := ⟨⟨cp_X7_in, rfl, wc_X7_in, wn_X7, wl_X7_65, cd_X7_in, ⟨by decide, by decide⟩⟩, wt_X7_in⟩
theorem cs_X7_supply_74 : CV mX7_supply 74 mX7_refused 1 7 := ⟨⟨cp_X7_refused, rfl, wc_X7_refused, wn_X7, wl_X7_74, cd_X7_refused, ⟨by decide, by decide⟩⟩, wi_X7_refused, ws_X7_refused, _, _, rfl⟩
theorem cs_X7_supply_238 : CV mX7_supply 238 mX7_atLeast 2 7 := ⟨⟨cp_X7_atLeast, rfl, wc_X7_atLeast, wn_X7, wl_X7_238, cd_X7_atLeast, ⟨by decide, by decide⟩⟩, wi_X7_atLeast, ws_X7_atLeast, _, _, rfl⟩
theorem cs_X7_auction_65 : CS mX7_auction 65 mX7_in 3 := ⟨⟨cp_X7_in, rfl, wc_X7_in, wn_X7, wl_X7_65, cd_X7_in, ⟨by decide, by decide⟩⟩, wt_X7_in⟩
theorem cs_X7_auction_74 : CV mX7_auction 74 mX7_refused 1 7 := ⟨⟨cp_X7_refused, rfl, wc_X7_refused, wn_X7, wl_X7_74, cd_X7_refused, ⟨by decide, by decide⟩⟩, wi_X7_refused, ws_X7_refused, _, _, rfl⟩
theorem cs_X7_auction_146 : CV mX7_auction 146 mX7_layBench 2 7 := ⟨⟨cp_X7_layBench, rfl, wc_X7_layBench, wn_X7, wl_X7_146, cd_X7_layBench, ⟨by decide, by decide⟩⟩, wi_X7_layBench, ws_X7_layBench, _, _, rfl⟩
theorem cs_X7_auction_150 : CV mX7_auction 150 mX7_match 0 7 := ⟨⟨cp_X7_match, rfl, wc_X7_match, wn_X7, wl_X7_150, cd_X7_match, ⟨by decide, by decide⟩⟩, wi_X7_match, ws_X7_match, _, _, rfl⟩
theorem cs_X7_auction_244 : CV mX7_auction 244 mX7_goneBy 0 7 := ⟨⟨cp_X7_goneBy, rfl, wc_X7_goneBy, wn_X7, wl_X7_244, cd_X7_goneBy, ⟨by decide, by decide⟩⟩, wi_X7_goneBy, ws_X7_goneBy, _, _, rfl⟩
theorem cs_X7_volumeIf_65 : CS mX7_volumeIf 65 mX7_in 3 := ⟨⟨cp_X7_in, rfl, wc_X7_in, wn_X7, wl_X7_65, cd_X7_in, ⟨by decide, by decide⟩⟩, wt_X7_in⟩
theorem cs_X7_volumeIf_94 : CS mX7_volumeIf 94 mX7_isTenant 2 := ⟨⟨cp_X7_isTenant, rfl, wc_X7_isTenant, wn_X7, wl_X7_94, cd_X7_isTenant, ⟨by decide, by decide⟩⟩, wt_X7_isTenant⟩
theorem cs_X7_volumeIf_74 : CV mX7_volumeIf 74 mX7_refused 1 7 := ⟨⟨cp_X7_refused, rfl, wc_X7_refused, wn_X7, wl_X7_74, cd_X7_refused, ⟨by decide, by decide⟩⟩, wi_X7_refused, ws_X7_refused, _, _, rfl⟩
theorem cs_X7_volumeIf_146 : CV mX7_volumeIf 146 mX7_layBench 2 7 := ⟨⟨cp_X7_layBench, rfl, wc_X7_layBench, wn_X7, wl_X7_146, cd_X7_layBench, ⟨by decide, by decide⟩⟩, wi_X7_layBench, ws_X7_layBench, _, _, rfl⟩
theorem cs_X7_volumeIf_249 : CV mX7_volumeIf 249 mX7_benchMore 4 7 := ⟨⟨cp_X7_benchMore, rfl, wc_X7_benchMore, wn_X7, wl_X7_249, cd_X7_benchMore, ⟨by decide, by decide⟩⟩, wi_X7_benchMore, ws_X7_benchMore, _, _, rfl⟩
theorem cs_X7_volumeIf_150 : CV mX7_volumeIf 150 mX7_match 0 7 := ⟨⟨cp_X7_match, rfl, wc_X7_match, wn_X7, wl_X7_150, cd_X7_match, ⟨by decide, by decide⟩⟩, wi_X7_match, ws_X7_match, _, _, rfl⟩
theorem cs_X7_priceFor_65 : CS mX7_priceFor 65 mX7_in 3 := ⟨⟨cp_X7_in, rfl, wc_X7_in, wn_X7, wl_X7_65, cd_X7_in, ⟨by decide, by decide⟩⟩, wt_X7_in⟩
theorem cs_X7_priceFor_74 : CV mX7_priceFor 74 mX7_refused 1 7 := ⟨⟨cp_X7_refused, rfl, wc_X7_refused, wn_X7, wl_X7_74, cd_X7_refused, ⟨by decide, by decide⟩⟩, wi_X7_refused, ws_X7_refused, _, _, rfl⟩
theorem cs_X7_priceFor_146 : CV mX7_priceFor 146 mX7_layBench 2 7 := ⟨⟨cp_X7_layBench, rfl, wc_X7_layBench, wn_X7, wl_X7_146, cd_X7_layBench, ⟨by decide, by decide⟩⟩, wi_X7_layBench, ws_X7_layBench, _, _, rfl⟩
theorem cs_X7_priceFor_249 : CV mX7_priceFor 249 mX7_benchMore 4 7 := ⟨⟨cp_X7_benchMore, rfl, wc_X7_benchMore, wn_X7, wl_X7_249, cd_X7_benchMore, ⟨by decide, by decide⟩⟩, wi_X7_benchMore, ws_X7_benchMore, _, _, rfl⟩
theorem cs_X7_priceFor_150 : CV mX7_priceFor 150 mX7_match 0 7 := ⟨⟨cp_X7_match, rfl, wc_X7_match, wn_X7, wl_X7_150, cd_X7_match, ⟨by decide, by decide⟩⟩, wi_X7_match, ws_X7_match, _, _, rfl⟩
theorem cs_X7_share_94 : CS mX7_share 94 mX7_isTenant 2 := ⟨⟨cp_X7_isTenant, rfl, wc_X7_isTenant, wn_X7, wl_X7_94, cd_X7_isTenant, ⟨by decide, by decide⟩⟩, wt_X7_isTenant⟩
theorem cs_X7_share_74 : CV mX7_share 74 mX7_refused 1 7 := ⟨⟨cp_X7_refused, rfl, wc_X7_refused, wn_X7, wl_X7_74, cd_X7_refused, ⟨by decide, by decide⟩⟩, wi_X7_refused, ws_X7_refused, _, _, rfl⟩
theorem cs_X7_share_146 : CV mX7_share 146 mX7_layBench 2 7 := ⟨⟨cp_X7_layBench, rfl, wc_X7_layBench, wn_X7, wl_X7_146, cd_X7_layBench, ⟨by decide, by decide⟩⟩, wi_X7_layBench, ws_X7_layBench, _, _, rfl⟩
theorem cs_X7_share_150 : CV mX7_share 150 mX7_match 0 7 := ⟨⟨cp_X7_match, rfl, wc_X7_match, wn_X7, wl_X7_150, cd_X7_match, ⟨by decide, by decide⟩⟩, wi_X7_match, ws_X7_match, _, _, rfl⟩
theorem cs_X7_share_253 : CS mX7_share 253 mX7_ones 1 := ⟨⟨cp_X7_ones, rfl, wc_X7_ones, wn_X7, wl_X7_253, cd_X7_ones, ⟨by decide, by decide⟩⟩, wt_X7_ones⟩
theorem cs_X7_share_256 : CS mX7_share 256 mX7_factorial 1 := ⟨⟨cp_X7_factorial, rfl, wc_X7_factorial, wn_X7, wl_X7_256, cd_X7_factorial, ⟨by decide, by decide⟩⟩, wt_X7_factorial⟩
theorem cs_X7_share_259 : CS mX7_share 259 mX7_divisor 2 := ⟨⟨cp_X7_divisor, rfl, wc_X7_divisor, wn_X7, wl_X7_259, cd_X7_divisor, ⟨by decide, by decide⟩⟩, wt_X7_divisor⟩
theorem cs_X7_ahead_94 : CS mX7_ahead 94 mX7_isTenant 2 := ⟨⟨cp_X7_isTenant, rfl, wc_X7_isTenant, wn_X7, wl_X7_94, cd_X7_isTenant, ⟨by decide, by decide⟩⟩, wt_X7_isTenant⟩
theorem cs_X7_ahead_65 : CS mX7_ahead 65 mX7_in 3 := ⟨⟨cp_X7_in, rfl, wc_X7_in, wn_X7, wl_X7_65, cd_X7_in, ⟨by decide, by decide⟩⟩, wt_X7_in⟩
theorem cs_X7_ahead_74 : CV mX7_ahead 74 mX7_refused 1 7 := ⟨⟨cp_X7_refused, rfl, wc_X7_refused, wn_X7, wl_X7_74, cd_X7_refused, ⟨by decide, by decide⟩⟩, wi_X7_refused, ws_X7_refused, _, _, rfl⟩
theorem cs_X7_ahead_58 : CS mX7_ahead 58 mX7_copy 4 := ⟨⟨cp_X7_copy, rfl, wc_X7_copy, wn_X7, wl_X7_58, cd_X7_copy, ⟨by decide, by decide⟩⟩, wt_X7_copy⟩
theorem cs_X7_ahead_233 : CV mX7_ahead 233 mX7_ticksOn 2 7 := ⟨⟨cp_X7_ticksOn, rfl, wc_X7_ticksOn, wn_X7, wl_X7_233, cd_X7_ticksOn, ⟨by decide, by decide⟩⟩, wi_X7_ticksOn, ws_X7_ticksOn, _, _, rfl⟩
theorem cs_X7_ahead_135 : CS mX7_ahead 135 mX7_tell 3 := ⟨⟨cp_X7_tell, rfl, wc_X7_tell, wn_X7, wl_X7_135, cd_X7_tell, ⟨by decide, by decide⟩⟩, wt_X7_tell⟩
theorem cs_X7_sentAfter_94 : CS mX7_sentAfter 94 mX7_isTenant 2 := ⟨⟨cp_X7_isTenant, rfl, wc_X7_isTenant, wn_X7, wl_X7_94, cd_X7_isTenant, ⟨by decide, by decide⟩⟩, wt_X7_isTenant⟩
theorem cs_X7_sentAfter_65 : CS mX7_sentAfter 65 mX7_in 3 := ⟨⟨cp_X7_in, rfl, wc_X7_in, wn_X7, wl_X7_65, cd_X7_in, ⟨by decide, by decide⟩⟩, wt_X7_in⟩
theorem cs_X7_sentAfter_74 : CV mX7_sentAfter 74 mX7_refused 1 7 := ⟨⟨cp_X7_refused, rfl, wc_X7_refused, wn_X7, wl_X7_74, cd_X7_refused, ⟨by decide, by decide⟩⟩, wi_X7_refused, ws_X7_refused, _, _, rfl⟩
theorem cs_X7_sentAfter_90 : CS mX7_sentAfter 90 mX7_at 1 := ⟨⟨cp_X7_at, rfl, wc_X7_at, wn_X7, wl_X7_90, cd_X7_at, ⟨by decide, by decide⟩⟩, wt_X7_at⟩
theorem cs_X7_sentAfter_58 : CS mX7_sentAfter 58 mX7_copy 4 := ⟨⟨cp_X7_copy, rfl, wc_X7_copy, wn_X7, wl_X7_58, cd_X7_copy, ⟨by decide, by decide⟩⟩, wt_X7_copy⟩
theorem cs_X7_sentAfter_203 : CV mX7_sentAfter 203 mX7_tickOn 1 7 := ⟨⟨cp_X7_tickOn, rfl, wc_X7_tickOn, wn_X7, wl_X7_203, cd_X7_tickOn, ⟨by decide, by decide⟩⟩, wi_X7_tickOn, ws_X7_tickOn, _, _, rfl⟩
theorem cs_X7_unused_65 : CS mX7_unused 65 mX7_in 3 := ⟨⟨cp_X7_in, rfl, wc_X7_in, wn_X7, wl_X7_65, cd_X7_in, ⟨by decide, by decide⟩⟩, wt_X7_in⟩
theorem cs_X7_unused_74 : CV mX7_unused 74 mX7_refused 1 7 := ⟨⟨cp_X7_refused, rfl, wc_X7_refused, wn_X7, wl_X7_74, cd_X7_refused, ⟨by decide, by decide⟩⟩, wi_X7_refused, ws_X7_refused, _, _, rfl⟩
theorem cs_X7_unused_58 : CS mX7_unused 58 mX7_copy 4 := ⟨⟨cp_X7_copy, rfl, wc_X7_copy, wn_X7, wl_X7_58, cd_X7_copy, ⟨by decide, by decide⟩⟩, wt_X7_copy⟩
theorem cs_X7_unused_233 : CV mX7_unused 233 mX7_ticksOn 2 7 := ⟨⟨cp_X7_ticksOn, rfl, wc_X7_ticksOn, wn_X7, wl_X7_233, cd_X7_ticksOn, ⟨by decide, by decide⟩⟩, wi_X7_ticksOn, ws_X7_ticksOn, _, _, rfl⟩
theorem cs_X7_fairness_90 : CS mX7_fairness 90 mX7_at 1 := ⟨⟨cp_X7_at, rfl, wc_X7_at, wn_X7, wl_X7_90, cd_X7_at, ⟨by decide, by decide⟩⟩, wt_X7_at⟩
theorem cs_X7_fairness_259 : CS mX7_fairness 259 mX7_divisor 2 := ⟨⟨cp_X7_divisor, rfl, wc_X7_divisor, wn_X7, wl_X7_259, cd_X7_divisor, ⟨by decide, by decide⟩⟩, wt_X7_divisor⟩
theorem cs_X7_wealth_90 : CS mX7_wealth 90 mX7_at 1 := ⟨⟨cp_X7_at, rfl, wc_X7_at, wn_X7, wl_X7_90, cd_X7_at, ⟨by decide, by decide⟩⟩, wt_X7_at⟩
theorem cs_X7_wealth_122 : CS mX7_wealth 122 mX7_inBook 4 := ⟨⟨cp_X7_inBook, rfl, wc_X7_inBook, wn_X7, wl_X7_122, cd_X7_inBook, ⟨by decide, by decide⟩⟩, wt_X7_inBook⟩
theorem cs_X7_wealth_179 : CS mX7_wealth 179 mX7_credits 2 := ⟨⟨cp_X7_credits, rfl, wc_X7_credits, wn_X7, wl_X7_179, cd_X7_credits, ⟨by decide, by decide⟩⟩, wt_X7_credits⟩
theorem cs_X7_wealth_126 : CS mX7_wealth 126 mX7_debts 2 := ⟨⟨cp_X7_debts, rfl, wc_X7_debts, wn_X7, wl_X7_126, cd_X7_debts, ⟨by decide, by decide⟩⟩, wt_X7_debts⟩
theorem cs_X7_wealthiest_94 : CS mX7_wealthiest 94 mX7_isTenant 2 := ⟨⟨cp_X7_isTenant, rfl, wc_X7_isTenant, wn_X7, wl_X7_94, cd_X7_isTenant, ⟨by decide, by decide⟩⟩, wt_X7_isTenant⟩
theorem cs_X7_wealthiest_74 : CV mX7_wealthiest 74 mX7_refused 1 7 := ⟨⟨cp_X7_refused, rfl, wc_X7_refused, wn_X7, wl_X7_74, cd_X7_refused, ⟨by decide, by decide⟩⟩, wi_X7_refused, ws_X7_refused, _, _, rfl⟩
theorem cs_X7_wealthiest_263 : CV mX7_wealthiest 263 mX7_wealth 1 7 := ⟨⟨cp_X7_wealth, rfl, wc_X7_wealth, wn_X7, wl_X7_263, cd_X7_wealth, ⟨by decide, by decide⟩⟩, wi_X7_wealth, ws_X7_wealth, _, _, rfl⟩
theorem cs_X7_orders_208 : CS mX7_orders 208 mX7_whyNot 5 := ⟨⟨cp_X7_whyNot, rfl, wc_X7_whyNot, wn_X7, wl_X7_208, cd_X7_whyNot, ⟨by decide, by decide⟩⟩, wt_X7_whyNot⟩
theorem cs_X7_orders_215 : CS mX7_orders 215 mX7_addOrder 5 := ⟨⟨cp_X7_addOrder, rfl, wc_X7_addOrder, wn_X7, wl_X7_215, cd_X7_addOrder, ⟨by decide, by decide⟩⟩, wt_X7_addOrder⟩
theorem cs_X7_pushes_222 : CS mX7_pushes 222 mX7_whyNotPushed 3 := ⟨⟨cp_X7_whyNotPushed, rfl, wc_X7_whyNotPushed, wn_X7, wl_X7_222, cd_X7_whyNotPushed, ⟨by decide, by decide⟩⟩, wt_X7_whyNotPushed⟩
theorem cs_X7_pushes_225 : CS mX7_pushes 225 mX7_pushOn 3 := ⟨⟨cp_X7_pushOn, rfl, wc_X7_pushOn, wn_X7, wl_X7_225, cd_X7_pushOn, ⟨by decide, by decide⟩⟩, wt_X7_pushOn⟩
theorem cs_X7_command_268 : CS mX7_command 268 mX7_orders 5 := ⟨⟨cp_X7_orders, rfl, wc_X7_orders, wn_X7, wl_X7_268, cd_X7_orders, ⟨by decide, by decide⟩⟩, wt_X7_orders⟩
theorem cs_X7_command_65 : CS mX7_command 65 mX7_in 3 := ⟨⟨cp_X7_in, rfl, wc_X7_in, wn_X7, wl_X7_65, cd_X7_in, ⟨by decide, by decide⟩⟩, wt_X7_in⟩
theorem cs_X7_command_233 : CV mX7_command 233 mX7_ticksOn 2 7 := ⟨⟨cp_X7_ticksOn, rfl, wc_X7_ticksOn, wn_X7, wl_X7_233, cd_X7_ticksOn, ⟨by decide, by decide⟩⟩, wi_X7_ticksOn, ws_X7_ticksOn, _, _, rfl⟩
theorem cs_X7_command_272 : CS mX7_command 272 mX7_pushes 3 := ⟨⟨cp_X7_pushes, rfl, wc_X7_pushes, wn_X7, wl_X7_272, cd_X7_pushes, ⟨by decide, by decide⟩⟩, wt_X7_pushes⟩
theorem cs_X7_command_94 : CS mX7_command 94 mX7_isTenant 2 := ⟨⟨cp_X7_isTenant, rfl, wc_X7_isTenant, wn_X7, wl_X7_94, cd_X7_isTenant, ⟨by decide, by decide⟩⟩, wt_X7_isTenant⟩
theorem cs_X7_command_90 : CS mX7_command 90 mX7_at 1 := ⟨⟨cp_X7_at, rfl, wc_X7_at, wn_X7, wl_X7_90, cd_X7_at, ⟨by decide, by decide⟩⟩, wt_X7_at⟩
theorem cs_X7_command_179 : CS mX7_command 179 mX7_credits 2 := ⟨⟨cp_X7_credits, rfl, wc_X7_credits, wn_X7, wl_X7_179, cd_X7_credits, ⟨by decide, by decide⟩⟩, wt_X7_credits⟩
theorem cs_X7_runScript_65 : CS mX7_runScript 65 mX7_in 3 := ⟨⟨cp_X7_in, rfl, wc_X7_in, wn_X7, wl_X7_65, cd_X7_in, ⟨by decide, by decide⟩⟩, wt_X7_in⟩
theorem cs_X7_runScript_278 : CS mX7_runScript 278 mX7_million 1 := ⟨⟨cp_X7_million, rfl, wc_X7_million, wn_X7, wl_X7_278, cd_X7_million, ⟨by decide, by decide⟩⟩, wt_X7_million⟩
theorem cs_X7_runScript_74 : CV mX7_runScript 74 mX7_refused 1 7 := ⟨⟨cp_X7_refused, rfl, wc_X7_refused, wn_X7, wl_X7_74, cd_X7_refused, ⟨by decide, by decide⟩⟩, wi_X7_refused, ws_X7_refused, _, _, rfl⟩
theorem cs_X7_runScript_58 : CS mX7_runScript 58 mX7_copy 4 := ⟨⟨cp_X7_copy, rfl, wc_X7_copy, wn_X7, wl_X7_58, cd_X7_copy, ⟨by decide, by decide⟩⟩, wt_X7_copy⟩
theorem cs_X7_runScript_281 : CV mX7_runScript 281 mX7_command 1 7 := ⟨⟨cp_X7_command, rfl, wc_X7_command, wn_X7, wl_X7_281, cd_X7_command, ⟨by decide, by decide⟩⟩, wi_X7_command, ws_X7_command, _, _, rfl⟩
theorem cs_X7_simulate_65 : CS mX7_simulate 65 mX7_in 3 := ⟨⟨cp_X7_in, rfl, wc_X7_in, wn_X7, wl_X7_65, cd_X7_in, ⟨by decide, by decide⟩⟩, wt_X7_in⟩
theorem cs_X7_simulate_74 : CV mX7_simulate 74 mX7_refused 1 7 := ⟨⟨cp_X7_refused, rfl, wc_X7_refused, wn_X7, wl_X7_74, cd_X7_refused, ⟨by decide, by decide⟩⟩, wi_X7_refused, ws_X7_refused, _, _, rfl⟩
theorem cs_X7_simulate_58 : CS mX7_simulate 58 mX7_copy 4 := ⟨⟨cp_X7_copy, rfl, wc_X7_copy, wn_X7, wl_X7_58, cd_X7_copy, ⟨by decide, by decide⟩⟩, wt_X7_copy⟩
theorem cs_X7_simulate_272 : CS mX7_simulate 272 mX7_pushes 3 := ⟨⟨cp_X7_pushes, rfl, wc_X7_pushes, wn_X7, wl_X7_272, cd_X7_pushes, ⟨by decide, by decide⟩⟩, wt_X7_pushes⟩
theorem cs_X7_simulate_268 : CS mX7_simulate 268 mX7_orders 5 := ⟨⟨cp_X7_orders, rfl, wc_X7_orders, wn_X7, wl_X7_268, cd_X7_orders, ⟨by decide, by decide⟩⟩, wt_X7_orders⟩
theorem cs_X7_simulate_233 : CV mX7_simulate 233 mX7_ticksOn 2 7 := ⟨⟨cp_X7_ticksOn, rfl, wc_X7_ticksOn, wn_X7, wl_X7_233, cd_X7_ticksOn, ⟨by decide, by decide⟩⟩, wi_X7_ticksOn, ws_X7_ticksOn, _, _, rfl⟩
theorem cs_X7_save_65 : CS mX7_save 65 mX7_in 3 := ⟨⟨cp_X7_in, rfl, wc_X7_in, wn_X7, wl_X7_65, cd_X7_in, ⟨by decide, by decide⟩⟩, wt_X7_in⟩
theorem cs_X7_save_74 : CV mX7_save 74 mX7_refused 1 7 := ⟨⟨cp_X7_refused, rfl, wc_X7_refused, wn_X7, wl_X7_74, cd_X7_refused, ⟨by decide, by decide⟩⟩, wi_X7_refused, ws_X7_refused, _, _, rfl⟩
theorem cs_X7_save_58 : CS mX7_save 58 mX7_copy 4 := ⟨⟨cp_X7_copy, rfl, wc_X7_copy, wn_X7, wl_X7_58, cd_X7_copy, ⟨by decide, by decide⟩⟩, wt_X7_copy⟩
theorem cs_X7_restore_65 : CS mX7_restore 65 mX7_in 3 := ⟨⟨cp_X7_in, rfl, wc_X7_in, wn_X7, wl_X7_65, cd_X7_in, ⟨by decide, by decide⟩⟩, wt_X7_in⟩
theorem cs_X7_restore_74 : CV mX7_restore 74 mX7_refused 1 7 := ⟨⟨cp_X7_refused, rfl, wc_X7_refused, wn_X7, wl_X7_74, cd_X7_refused, ⟨by decide, by decide⟩⟩, wi_X7_refused, ws_X7_refused, _, _, rfl⟩
theorem cs_X7_restore_58 : CS mX7_restore 58 mX7_copy 4 := ⟨⟨cp_X7_copy, rfl, wc_X7_copy, wn_X7, wl_X7_58, cd_X7_copy, ⟨by decide, by decide⟩⟩, wt_X7_copy⟩
theorem cs_L_append_7 : CV mL_append 7 mX6_append 1 6 := ⟨⟨cp_X6_append, rfl, wc_X6_append, wn_X6, wl_L_7, cd_X6_append, ⟨by decide, by decide⟩⟩, wi_X6_append, ws_X6_append, _, _, rfl⟩
theorem cs_L_load_17 : CV mL_load 17 mX6_load 0 6 := ⟨⟨cp_X6_load, rfl, wc_X6_load, wn_X6, wl_L_17, cd_X6_load, ⟨by decide, by decide⟩⟩, wi_X6_load, ws_X6_load, _, _, rfl⟩
theorem cs_L_about_21 : CV mL_about 21 mX6_about 1 6 := ⟨⟨cp_X6_about, rfl, wc_X6_about, wn_X6, wl_L_21, cd_X6_about, ⟨by decide, by decide⟩⟩, wi_X6_about, ws_X6_about, _, _, rfl⟩
theorem cs_L_tenant_24 : CV mL_tenant 24 mX6_tenant 2 6 := ⟨⟨cp_X6_tenant, rfl, wc_X6_tenant, wn_X6, wl_L_24, cd_X6_tenant, ⟨by decide, by decide⟩⟩, wi_X6_tenant, ws_X6_tenant, _, _, rfl⟩
theorem cs_L_message_30 : CV mL_message 30 mX6_message 2 6 := ⟨⟨cp_X6_message, rfl, wc_X6_message, wn_X6, wl_L_30, cd_X6_message, ⟨by decide, by decide⟩⟩, wi_X6_message, ws_X6_message, _, _, rfl⟩
theorem cs_L_order_33 : CV mL_order 33 mX6_order 2 6 := ⟨⟨cp_X6_order, rfl, wc_X6_order, wn_X6, wl_L_33, cd_X6_order, ⟨by decide, by decide⟩⟩, wi_X6_order, ws_X6_order, _, _, rfl⟩
theorem cs_L_bid_36 : CV mL_bid 36 mX6_bid 3 6 := ⟨⟨cp_X6_bid, rfl, wc_X6_bid, wn_X6, wl_L_36, cd_X6_bid, ⟨by decide, by decide⟩⟩, wi_X6_bid, ws_X6_bid, _, _, rfl⟩
theorem cs_L_ask_40 : CV mL_ask 40 mX6_ask 3 6 := ⟨⟨cp_X6_ask, rfl, wc_X6_ask, wn_X6, wl_L_40, cd_X6_ask, ⟨by decide, by decide⟩⟩, wi_X6_ask, ws_X6_ask, _, _, rfl⟩
theorem cs_L_askShort_43 : CV mL_askShort 43 mX6_askShort 3 6 := ⟨⟨cp_X6_askShort, rfl, wc_X6_askShort, wn_X6, wl_L_43, cd_X6_askShort, ⟨by decide, by decide⟩⟩, wi_X6_askShort, ws_X6_askShort, _, _, rfl⟩
theorem cs_L_withdraw_46 : CV mL_withdraw 46 mX6_withdraw 1 6 := ⟨⟨cp_X6_withdraw, rfl, wc_X6_withdraw, wn_X6, wl_L_46, cd_X6_withdraw, ⟨by decide, by decide⟩⟩, wi_X6_withdraw, ws_X6_withdraw, _, _, rfl⟩
theorem cs_L_push_49 : CV mL_push 49 mX6_push 2 6 := ⟨⟨cp_X6_push, rfl, wc_X6_push, wn_X6, wl_L_49, cd_X6_push, ⟨by decide, by decide⟩⟩, wi_X6_push, ws_X6_push, _, _, rfl⟩
theorem cs_L_deposit_52 : CV mL_deposit 52 mX6_deposit 2 6 := ⟨⟨cp_X6_deposit, rfl, wc_X6_deposit, wn_X6, wl_L_52, cd_X6_deposit, ⟨by decide, by decide⟩⟩, wi_X6_deposit, ws_X6_deposit, _, _, rfl⟩
theorem cs_L_tick_55 : CV mL_tick 55 mX6_tick 1 6 := ⟨⟨cp_X6_tick, rfl, wc_X6_tick, wn_X6, wl_L_55, cd_X6_tick, ⟨by decide, by decide⟩⟩, wi_X6_tick, ws_X6_tick, _, _, rfl⟩
theorem cs_L_setRate_58 : CV mL_setRate 58 mX6_setRate 2 6 := ⟨⟨cp_X6_setRate, rfl, wc_X6_setRate, wn_X6, wl_L_58, cd_X6_setRate, ⟨by decide, by decide⟩⟩, wi_X6_setRate, ws_X6_setRate, _, _, rfl⟩
theorem cs_L_setWidth_61 : CV mL_setWidth 61 mX6_setWidth 1 6 := ⟨⟨cp_X6_setWidth, rfl, wc_X6_setWidth, wn_X6, wl_L_61, cd_X6_setWidth, ⟨by decide, by decide⟩⟩, wi_X6_setWidth, ws_X6_setWidth, _, _, rfl⟩
theorem cs_L_undo_64 : CV mL_undo 64 mX6_undo 0 6 := ⟨⟨cp_X6_undo, rfl, wc_X6_undo, wn_X6, wl_L_64, cd_X6_undo, ⟨by decide, by decide⟩⟩, wi_X6_undo, ws_X6_undo, _, _, rfl⟩
theorem cs_L_demand_67 : CV mL_demand 67 mX6_demand 1 6 := ⟨⟨cp_X6_demand, rfl, wc_X6_demand, wn_X6, wl_L_67, cd_X6_demand, ⟨by decide, by decide⟩⟩, wi_X6_demand, ws_X6_demand, _, _, rfl⟩
theorem cs_L_supply_70 : CV mL_supply 70 mX6_supply 1 6 := ⟨⟨cp_X6_supply, rfl, wc_X6_supply, wn_X6, wl_L_70, cd_X6_supply, ⟨by decide, by decide⟩⟩, wi_X6_supply, ws_X6_supply, _, _, rfl⟩
theorem cs_L_auction_73 : CV mL_auction 73 mX6_auction 1 6 := ⟨⟨cp_X6_auction, rfl, wc_X6_auction, wn_X6, wl_L_73, cd_X6_auction, ⟨by decide, by decide⟩⟩, wi_X6_auction, ws_X6_auction, _, _, rfl⟩
theorem cs_L_volumeIf_76 : CV mL_volumeIf 76 mX6_volumeIf 4 6 := ⟨⟨cp_X6_volumeIf, rfl, wc_X6_volumeIf, wn_X6, wl_L_76, cd_X6_volumeIf, ⟨by decide, by decide⟩⟩, wi_X6_volumeIf, ws_X6_volumeIf, _, _, rfl⟩
theorem cs_L_priceFor_80 : CV mL_priceFor 80 mX6_priceFor 1 6 := ⟨⟨cp_X6_priceFor, rfl, wc_X6_priceFor, wn_X6, wl_L_80, cd_X6_priceFor, ⟨by decide, by decide⟩⟩, wi_X6_priceFor, ws_X6_priceFor, _, _, rfl⟩
theorem cs_L_share_83 : CV mL_share 83 mX6_share 2 6 := ⟨⟨cp_X6_share, rfl, wc_X6_share, wn_X6, wl_L_83, cd_X6_share, ⟨by decide, by decide⟩⟩, wi_X6_share, ws_X6_share, _, _, rfl⟩
theorem cs_L_ahead_87 : CV mL_ahead 87 mX6_ahead 3 6 := ⟨⟨cp_X6_ahead, rfl, wc_X6_ahead, wn_X6, wl_L_87, cd_X6_ahead, ⟨by decide, by decide⟩⟩, wi_X6_ahead, ws_X6_ahead, _, _, rfl⟩
theorem cs_L_sentAfter_90 : CV mL_sentAfter 90 mX6_sentAfter 2 6 := ⟨⟨cp_X6_sentAfter, rfl, wc_X6_sentAfter, wn_X6, wl_L_90, cd_X6_sentAfter, ⟨by decide, by decide⟩⟩, wi_X6_sentAfter, ws_X6_sentAfter, _, _, rfl⟩
theorem cs_L_unused_93 : CV mL_unused 93 mX6_unused 1 6 := ⟨⟨cp_X6_unused, rfl, wc_X6_unused, wn_X6, wl_L_93, cd_X6_unused, ⟨by decide, by decide⟩⟩, wi_X6_unused, ws_X6_unused, _, _, rfl⟩
theorem cs_L_wealthiest_96 : CV mL_wealthiest 96 mX6_wealthiest 1 6 := ⟨⟨cp_X6_wealthiest, rfl, wc_X6_wealthiest, wn_X6, wl_L_96, cd_X6_wealthiest, ⟨by decide, by decide⟩⟩, wi_X6_wealthiest, ws_X6_wealthiest, _, _, rfl⟩
theorem cs_L_runScript_99 : CV mL_runScript 99 mX6_runScript 2 6 := ⟨⟨cp_X6_runScript, rfl, wc_X6_runScript, wn_X6, wl_L_99, cd_X6_runScript, ⟨by decide, by decide⟩⟩, wi_X6_runScript, ws_X6_runScript, _, _, rfl⟩
theorem cs_L_simulate_103 : CV mL_simulate 103 mX6_simulate 2 6 := ⟨⟨cp_X6_simulate, rfl, wc_X6_simulate, wn_X6, wl_L_103, cd_X6_simulate, ⟨by decide, by decide⟩⟩, wi_X6_simulate, ws_X6_simulate, _, _, rfl⟩
theorem cs_L_save_107 : CV mL_save 107 mX6_save 1 6 := ⟨⟨cp_X6_save, rfl, wc_X6_save, wn_X6, wl_L_107, cd_X6_save, ⟨by decide, by decide⟩⟩, wi_X6_save, ws_X6_save, _, _, rfl⟩
theorem cs_L_restore_110 : CV mL_restore 110 mX6_restore 1 6 := ⟨⟨cp_X6_restore, rfl, wc_X6_restore, wn_X6, wl_L_110, cd_X6_restore, ⟨by decide, by decide⟩⟩, wi_X6_restore, ws_X6_restore, _, _, rfl⟩
theorem cs_L_law_113 : CI mL_law 113 mX6_init 0 := ⟨⟨cp_X6_init, rfl, wc_X6_init, wn_X6, wl_L_113, cd_X6_init, ⟨by decide, by decide⟩⟩, rfl, rfl, wi_X6_init⟩
theorem cs_L_law_116 : CI mL_law 116 mX7_init 0 := ⟨⟨cp_X7_init, rfl, wc_X7_init, wn_X7, wl_L_116, cd_X7_init, ⟨by decide, by decide⟩⟩, rfl, rfl, wi_X7_init⟩
theorem cs_L_law_117 : CSW mL_law 117 mL_append 3 := ⟨cq_L_append, wc_L_append, wn_L, wl_L_117, cd_L_append, ⟨by decide, by decide⟩, wt_L_append⟩
theorem cs_L_law_122 : CV mL_law 122 mX7_append 1 7 := ⟨⟨cp_X7_append, rfl, wc_X7_append, wn_X7, wl_L_122, cd_X7_append, ⟨by decide, by decide⟩⟩, wi_X7_append, ws_X7_append, _, _, rfl⟩
theorem cs_L_law_123 : CV mL_law 123 mX7_thrown 0 7 := ⟨⟨cp_X7_thrown, rfl, wc_X7_thrown, wn_X7, wl_L_123, cd_X7_thrown, ⟨by decide, by decide⟩⟩, wi_X7_thrown, ws_X7_thrown, _, _, rfl⟩
theorem cs_L_law_126 : CV mL_law 126 mX6_clearText 0 6 := ⟨⟨cp_X6_clearText, rfl, wc_X6_clearText, wn_X6, wl_L_126, cd_X6_clearText, ⟨by decide, by decide⟩⟩, wi_X6_clearText, ws_X6_clearText, _, _, rfl⟩
theorem cs_L_law_129 : CV mL_law 129 mX7_clearText 0 7 := ⟨⟨cp_X7_clearText, rfl, wc_X7_clearText, wn_X7, wl_L_129, cd_X7_clearText, ⟨by decide, by decide⟩⟩, wi_X7_clearText, ws_X7_clearText, _, _, rfl⟩
theorem cs_L_law_130 : CV mL_law 130 mX6_errorPosition 0 6 := ⟨⟨cp_X6_errorPosition, rfl, wc_X6_errorPosition, wn_X6, wl_L_130, cd_X6_errorPosition, ⟨by decide, by decide⟩⟩, wi_X6_errorPosition, ws_X6_errorPosition, _, _, rfl⟩
theorem cs_L_law_133 : CV mL_law 133 mX7_errorPosition 0 7 := ⟨⟨cp_X7_errorPosition, rfl, wc_X7_errorPosition, wn_X7, wl_L_133, cd_X7_errorPosition, ⟨by decide, by decide⟩⟩, wi_X7_errorPosition, ws_X7_errorPosition, _, _, rfl⟩
theorem cs_L_law_134 : CSW mL_law 134 mL_load 2 := ⟨cq_L_load, wc_L_load, wn_L, wl_L_134, cd_L_load, ⟨by decide, by decide⟩, wt_L_load⟩
theorem cs_L_law_137 : CV mL_law 137 mX7_load 0 7 := ⟨⟨cp_X7_load, rfl, wc_X7_load, wn_X7, wl_L_137, cd_X7_load, ⟨by decide, by decide⟩⟩, wi_X7_load, ws_X7_load, _, _, rfl⟩
theorem cs_L_law_138 : CSW mL_law 138 mL_about 3 := ⟨cq_L_about, wc_L_about, wn_L, wl_L_138, cd_L_about, ⟨by decide, by decide⟩, wt_L_about⟩
theorem cs_L_law_140 : CV mL_law 140 mX7_about 1 7 := ⟨⟨cp_X7_about, rfl, wc_X7_about, wn_X7, wl_L_140, cd_X7_about, ⟨by decide, by decide⟩⟩, wi_X7_about, ws_X7_about, _, _, rfl⟩
theorem cs_L_law_141 : CSW mL_law 141 mL_tenant 4 := ⟨cq_L_tenant, wc_L_tenant, wn_L, wl_L_141, cd_L_tenant, ⟨by decide, by decide⟩, wt_L_tenant⟩
theorem cs_L_law_144 : CV mL_law 144 mX7_tenant 2 7 := ⟨⟨cp_X7_tenant, rfl, wc_X7_tenant, wn_X7, wl_L_144, cd_X7_tenant, ⟨by decide, by decide⟩⟩, wi_X7_tenant, ws_X7_tenant, _, _, rfl⟩
theorem cs_L_law_145 : CSW mL_law 145 mL_message 4 := ⟨cq_L_message, wc_L_message, wn_L, wl_L_145, cd_L_message, ⟨by decide, by decide⟩, wt_L_message⟩
theorem cs_L_law_147 : CV mL_law 147 mX7_message 2 7 := ⟨⟨cp_X7_message, rfl, wc_X7_message, wn_X7, wl_L_147, cd_X7_message, ⟨by decide, by decide⟩⟩, wi_X7_message, ws_X7_message, _, _, rfl⟩
theorem cs_L_law_148 : CSW mL_law 148 mL_order 4 := ⟨cq_L_order, wc_L_order, wn_L, wl_L_148, cd_L_order, ⟨by decide, by decide⟩, wt_L_order⟩
theorem cs_L_law_150 : CV mL_law 150 mX7_order 2 7 := ⟨⟨cp_X7_order, rfl, wc_X7_order, wn_X7, wl_L_150, cd_X7_order, ⟨by decide, by decide⟩⟩, wi_X7_order, ws_X7_order, _, _, rfl⟩
theorem cs_L_law_151 : CSW mL_law 151 mL_bid 5 := ⟨cq_L_bid, wc_L_bid, wn_L, wl_L_151, cd_L_bid, ⟨by decide, by decide⟩, wt_L_bid⟩
theorem cs_L_law_154 : CV mL_law 154 mX7_bid 3 7 := ⟨⟨cp_X7_bid, rfl, wc_X7_bid, wn_X7, wl_L_154, cd_X7_bid, ⟨by decide, by decide⟩⟩, wi_X7_bid, ws_X7_bid, _, _, rfl⟩
theorem cs_L_law_155 : CSW mL_law 155 mL_ask 5 := ⟨cq_L_ask, wc_L_ask, wn_L, wl_L_155, cd_L_ask, ⟨by decide, by decide⟩, wt_L_ask⟩
theorem cs_L_law_157 : CV mL_law 157 mX7_ask 3 7 := ⟨⟨cp_X7_ask, rfl, wc_X7_ask, wn_X7, wl_L_157, cd_X7_ask, ⟨by decide, by decide⟩⟩, wi_X7_ask, ws_X7_ask, _, _, rfl⟩
theorem cs_L_law_158 : CSW mL_law 158 mL_askShort 5 := ⟨cq_L_askShort, wc_L_askShort, wn_L, wl_L_158, cd_L_askShort, ⟨by decide, by decide⟩, wt_L_askShort⟩
theorem cs_L_law_160 : CV mL_law 160 mX7_askShort 3 7 := ⟨⟨cp_X7_askShort, rfl, wc_X7_askShort, wn_X7, wl_L_160, cd_X7_askShort, ⟨by decide, by decide⟩⟩, wi_X7_askShort, ws_X7_askShort, _, _, rfl⟩
theorem cs_L_law_161 : CSW mL_law 161 mL_withdraw 3 := ⟨cq_L_withdraw, wc_L_withdraw, wn_L, wl_L_161, cd_L_withdraw, ⟨by decide, by decide⟩, wt_L_withdraw⟩
theorem cs_L_law_163 : CV mL_law 163 mX7_withdraw 1 7 := ⟨⟨cp_X7_withdraw, rfl, wc_X7_withdraw, wn_X7, wl_L_163, cd_X7_withdraw, ⟨by decide, by decide⟩⟩, wi_X7_withdraw, ws_X7_withdraw, _, _, rfl⟩
theorem cs_L_law_164 : CSW mL_law 164 mL_push 4 := ⟨cq_L_push, wc_L_push, wn_L, wl_L_164, cd_L_push, ⟨by decide, by decide⟩, wt_L_push⟩
theorem cs_L_law_166 : CV mL_law 166 mX7_push 2 7 := ⟨⟨cp_X7_push, rfl, wc_X7_push, wn_X7, wl_L_166, cd_X7_push, ⟨by decide, by decide⟩⟩, wi_X7_push, ws_X7_push, _, _, rfl⟩
theorem cs_L_law_167 : CSW mL_law 167 mL_deposit 4 := ⟨cq_L_deposit, wc_L_deposit, wn_L, wl_L_167, cd_L_deposit, ⟨by decide, by decide⟩, wt_L_deposit⟩
theorem cs_L_law_169 : CV mL_law 169 mX7_deposit 2 7 := ⟨⟨cp_X7_deposit, rfl, wc_X7_deposit, wn_X7, wl_L_169, cd_X7_deposit, ⟨by decide, by decide⟩⟩, wi_X7_deposit, ws_X7_deposit, _, _, rfl⟩
theorem cs_L_law_170 : CSW mL_law 170 mL_tick 3 := ⟨cq_L_tick, wc_L_tick, wn_L, wl_L_170, cd_L_tick, ⟨by decide, by decide⟩, wt_L_tick⟩
theorem cs_L_law_172 : CV mL_law 172 mX7_tick 1 7 := ⟨⟨cp_X7_tick, rfl, wc_X7_tick, wn_X7, wl_L_172, cd_X7_tick, ⟨by decide, by decide⟩⟩, wi_X7_tick, ws_X7_tick, _, _, rfl⟩
theorem cs_L_law_173 : CSW mL_law 173 mL_setRate 4 := ⟨cq_L_setRate, wc_L_setRate, wn_L, wl_L_173, cd_L_setRate, ⟨by decide, by decide⟩, wt_L_setRate⟩
theorem cs_L_law_175 : CV mL_law 175 mX7_setRate 2 7 := ⟨⟨cp_X7_setRate, rfl, wc_X7_setRate, wn_X7, wl_L_175, cd_X7_setRate, ⟨by decide, by decide⟩⟩, wi_X7_setRate, ws_X7_setRate, _, _, rfl⟩
theorem cs_L_law_176 : CSW mL_law 176 mL_setWidth 3 := ⟨cq_L_setWidth, wc_L_setWidth, wn_L, wl_L_176, cd_L_setWidth, ⟨by decide, by decide⟩, wt_L_setWidth⟩
theorem cs_L_law_178 : CV mL_law 178 mX7_setWidth 1 7 := ⟨⟨cp_X7_setWidth, rfl, wc_X7_setWidth, wn_X7, wl_L_178, cd_X7_setWidth, ⟨by decide, by decide⟩⟩, wi_X7_setWidth, ws_X7_setWidth, _, _, rfl⟩
theorem cs_L_law_179 : CSW mL_law 179 mL_undo 2 := ⟨cq_L_undo, wc_L_undo, wn_L, wl_L_179, cd_L_undo, ⟨by decide, by decide⟩, wt_L_undo⟩
theorem cs_L_law_181 : CV mL_law 181 mX7_undo 0 7 := ⟨⟨cp_X7_undo, rfl, wc_X7_undo, wn_X7, wl_L_181, cd_X7_undo, ⟨by decide, by decide⟩⟩, wi_X7_undo, ws_X7_undo, _, _, rfl⟩
theorem cs_L_law_182 : CSW mL_law 182 mL_demand 3 := ⟨cq_L_demand, wc_L_demand, wn_L, wl_L_182, cd_L_demand, ⟨by decide, by decide⟩, wt_L_demand⟩
theorem cs_L_law_184 : CV mL_law 184 mX7_demand 1 7 := ⟨⟨cp_X7_demand, rfl, wc_X7_demand, wn_X7, wl_L_184, cd_X7_demand, ⟨by decide, by decide⟩⟩, wi_X7_demand, ws_X7_demand, _, _, rfl⟩
theorem cs_L_law_185 : CSW mL_law 185 mL_supply 3 := ⟨cq_L_supply, wc_L_supply, wn_L, wl_L_185, cd_L_supply, ⟨by decide, by decide⟩, wt_L_supply⟩
theorem cs_L_law_187 : CV mL_law 187 mX7_supply 1 7 := ⟨⟨cp_X7_supply, rfl, wc_X7_supply, wn_X7, wl_L_187, cd_X7_supply, ⟨by decide, by decide⟩⟩, wi_X7_supply, ws_X7_supply, _, _, rfl⟩
theorem cs_L_law_188 : CSW mL_law 188 mL_auction 3 := ⟨cq_L_auction, wc_L_auction, wn_L, wl_L_188, cd_L_auction, ⟨by decide, by decide⟩, wt_L_auction⟩
theorem cs_L_law_190 : CV mL_law 190 mX7_auction 1 7 := ⟨⟨cp_X7_auction, rfl, wc_X7_auction, wn_X7, wl_L_190, cd_X7_auction, ⟨by decide, by decide⟩⟩, wi_X7_auction, ws_X7_auction, _, _, rfl⟩
theorem cs_L_law_191 : CSW mL_law 191 mL_volumeIf 6 := ⟨cq_L_volumeIf, wc_L_volumeIf, wn_L, wl_L_191, cd_L_volumeIf, ⟨by decide, by decide⟩, wt_L_volumeIf⟩
theorem cs_L_law_194 : CV mL_law 194 mX7_volumeIf 4 7 := ⟨⟨cp_X7_volumeIf, rfl, wc_X7_volumeIf, wn_X7, wl_L_194, cd_X7_volumeIf, ⟨by decide, by decide⟩⟩, wi_X7_volumeIf, ws_X7_volumeIf, _, _, rfl⟩
theorem cs_L_law_195 : CSW mL_law 195 mL_priceFor 3 := ⟨cq_L_priceFor, wc_L_priceFor, wn_L, wl_L_195, cd_L_priceFor, ⟨by decide, by decide⟩, wt_L_priceFor⟩
theorem cs_L_law_197 : CV mL_law 197 mX7_priceFor 1 7 := ⟨⟨cp_X7_priceFor, rfl, wc_X7_priceFor, wn_X7, wl_L_197, cd_X7_priceFor, ⟨by decide, by decide⟩⟩, wi_X7_priceFor, ws_X7_priceFor, _, _, rfl⟩
theorem cs_L_law_198 : CSW mL_law 198 mL_share 4 := ⟨cq_L_share, wc_L_share, wn_L, wl_L_198, cd_L_share, ⟨by decide, by decide⟩, wt_L_share⟩
theorem cs_L_law_201 : CV mL_law 201 mX7_share 2 7 := ⟨⟨cp_X7_share, rfl, wc_X7_share, wn_X7, wl_L_201, cd_X7_share, ⟨by decide, by decide⟩⟩, wi_X7_share, ws_X7_share, _, _, rfl⟩
theorem cs_L_law_202 : CSW mL_law 202 mL_ahead 5 := ⟨cq_L_ahead, wc_L_ahead, wn_L, wl_L_202, cd_L_ahead, ⟨by decide, by decide⟩, wt_L_ahead⟩
theorem cs_L_law_204 : CV mL_law 204 mX7_ahead 3 7 := ⟨⟨cp_X7_ahead, rfl, wc_X7_ahead, wn_X7, wl_L_204, cd_X7_ahead, ⟨by decide, by decide⟩⟩, wi_X7_ahead, ws_X7_ahead, _, _, rfl⟩
theorem cs_L_law_205 : CSW mL_law 205 mL_sentAfter 4 := ⟨cq_L_sentAfter, wc_L_sentAfter, wn_L, wl_L_205, cd_L_sentAfter, ⟨by decide, by decide⟩, wt_L_sentAfter⟩
theorem cs_L_law_207 : CV mL_law 207 mX7_sentAfter 2 7 := ⟨⟨cp_X7_sentAfter, rfl, wc_X7_sentAfter, wn_X7, wl_L_207, cd_X7_sentAfter, ⟨by decide, by decide⟩⟩, wi_X7_sentAfter, ws_X7_sentAfter, _, _, rfl⟩
theorem cs_L_law_208 : CSW mL_law 208 mL_unused 3 := ⟨cq_L_unused, wc_L_unused, wn_L, wl_L_208, cd_L_unused, ⟨by decide, by decide⟩, wt_L_unused⟩
theorem cs_L_law_210 : CV mL_law 210 mX7_unused 1 7 := ⟨⟨cp_X7_unused, rfl, wc_X7_unused, wn_X7, wl_L_210, cd_X7_unused, ⟨by decide, by decide⟩⟩, wi_X7_unused, ws_X7_unused, _, _, rfl⟩
theorem cs_L_law_211 : CV mL_law 211 mX6_fairness 1 6 := ⟨⟨cp_X6_fairness, rfl, wc_X6_fairness, wn_X6, wl_L_211, cd_X6_fairness, ⟨by decide, by decide⟩⟩, wi_X6_fairness, ws_X6_fairness, _, _, rfl⟩
theorem cs_L_law_215 : CV mL_law 215 mX7_fairness 1 7 := ⟨⟨cp_X7_fairness, rfl, wc_X7_fairness, wn_X7, wl_L_215, cd_X7_fairness, ⟨by decide, by decide⟩⟩, wi_X7_fairness, ws_X7_fairness, _, _, rfl⟩
theorem cs_L_law_216 : CSW mL_law 216 mL_wealthiest 3 := ⟨cq_L_wealthiest, wc_L_wealthiest, wn_L, wl_L_216, cd_L_wealthiest, ⟨by decide, by decide⟩, wt_L_wealthiest⟩
theorem cs_L_law_218 : CV mL_law 218 mX7_wealthiest 1 7 := ⟨⟨cp_X7_wealthiest, rfl, wc_X7_wealthiest, wn_X7, wl_L_218, cd_X7_wealthiest, ⟨by decide, by decide⟩⟩, wi_X7_wealthiest, ws_X7_wealthiest, _, _, rfl⟩
theorem cs_L_law_221 : CSW mL_law 221 mL_runScript 4 := ⟨cq_L_runScript, wc_L_runScript, wn_L, wl_L_221, cd_L_runScript, ⟨by decide, by decide⟩, wt_L_runScript⟩
theorem cs_L_law_224 : CV mL_law 224 mX7_runScript 2 7 := ⟨⟨cp_X7_runScript, rfl, wc_X7_runScript, wn_X7, wl_L_224, cd_X7_runScript, ⟨by decide, by decide⟩⟩, wi_X7_runScript, ws_X7_runScript, _, _, rfl⟩
theorem cs_L_law_225 : CSW mL_law 225 mL_simulate 4 := ⟨cq_L_simulate, wc_L_simulate, wn_L, wl_L_225, cd_L_simulate, ⟨by decide, by decide⟩, wt_L_simulate⟩
theorem cs_L_law_228 : CV mL_law 228 mX7_simulate 2 7 := ⟨⟨cp_X7_simulate, rfl, wc_X7_simulate, wn_X7, wl_L_228, cd_X7_simulate, ⟨by decide, by decide⟩⟩, wi_X7_simulate, ws_X7_simulate, _, _, rfl⟩
theorem cs_L_law_229 : CSW mL_law 229 mL_save 3 := ⟨cq_L_save, wc_L_save, wn_L, wl_L_229, cd_L_save, ⟨by decide, by decide⟩, wt_L_save⟩
theorem cs_L_law_231 : CV mL_law 231 mX7_save 1 7 := ⟨⟨cp_X7_save, rfl, wc_X7_save, wn_X7, wl_L_231, cd_X7_save, ⟨by decide, by decide⟩⟩, wi_X7_save, ws_X7_save, _, _, rfl⟩
theorem cs_L_law_232 : CSW mL_law 232 mL_restore 3 := ⟨cq_L_restore, wc_L_restore, wn_L, wl_L_232, cd_L_restore, ⟨by decide, by decide⟩, wt_L_restore⟩
theorem cs_L_law_234 : CV mL_law 234 mX7_restore 1 7 := ⟨⟨cp_X7_restore, rfl, wc_X7_restore, wn_X7, wl_L_234, cd_X7_restore, ⟨by decide, by decide⟩⟩, wi_X7_restore, ws_X7_restore, _, _, rfl⟩
