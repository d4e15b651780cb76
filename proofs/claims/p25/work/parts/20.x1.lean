theorem hdX0_clearAll : yX0_clearAll.cls = RX0 ∧ yX0_clearAll.cls ≠ "java/lang/invoke/MethodHandle" ∧ yX0_clearAll.cls ≠ "java/lang/invoke/VarHandle" ∧ (parseMethodDescriptor yX0_clearAll.desc).map (fun d => d.parameters.length) = some 0 := by decide +kernel
theorem hdX0_put : yX0_put.cls = RX0 ∧ yX0_put.cls ≠ "java/lang/invoke/MethodHandle" ∧ yX0_put.cls ≠ "java/lang/invoke/VarHandle" ∧ (parseMethodDescriptor yX0_put.desc).map (fun d => d.parameters.length) = some 2 := by decide +kernel
theorem hdX1_takes : yX1_takes.cls ≠ "java/lang/invoke/MethodHandle" ∧ yX1_takes.cls ≠ "java/lang/invoke/VarHandle" ∧ (parseMethodDescriptor yX1_takes.desc).map (fun d => d.parameters.length) = some 2 := by decide +kernel
theorem hdX1_renew : yX1_renew.cls = RX1 ∧ yX1_renew.cls ≠ "java/lang/invoke/MethodHandle" ∧ yX1_renew.cls ≠ "java/lang/invoke/VarHandle" ∧ (parseMethodDescriptor yX1_renew.desc).map (fun d => d.parameters.length) = some 3 := by decide +kernel
theorem hdX1_number : yX1_number.cls = RX1 ∧ yX1_number.cls ≠ "java/lang/invoke/MethodHandle" ∧ yX1_number.cls ≠ "java/lang/invoke/VarHandle" ∧ (parseMethodDescriptor yX1_number.desc).map (fun d => d.parameters.length) = some 1 := by decide +kernel
theorem hdX1_putNumber : yX1_putNumber.cls = RX1 ∧ yX1_putNumber.cls ≠ "java/lang/invoke/MethodHandle" ∧ yX1_putNumber.cls ≠ "java/lang/invoke/VarHandle" ∧ (parseMethodDescriptor yX1_putNumber.desc).map (fun d => d.parameters.length) = some 2 := by decide +kernel
theorem hdX1_ownAmps : yX1_ownAmps.cls = RX1 ∧ yX1_ownAmps.cls ≠ "java/lang/invoke/MethodHandle" ∧ yX1_ownAmps.cls ≠ "java/lang/invoke/VarHandle" ∧ (parseMethodDescriptor yX1_ownAmps.desc).map (fun d => d.parameters.length) = some 1 := by decide +kernel
theorem hdX1_coldAmps : yX1_coldAmps.cls = RX1 ∧ yX1_coldAmps.cls ≠ "java/lang/invoke/MethodHandle" ∧ yX1_coldAmps.cls ≠ "java/lang/invoke/VarHandle" ∧ (parseMethodDescriptor yX1_coldAmps.desc).map (fun d => d.parameters.length) = some 1 := by decide +kernel
theorem hdX1_snapsOpenAt : yX1_snapsOpenAt.cls = RX1 ∧ yX1_snapsOpenAt.cls ≠ "java/lang/invoke/MethodHandle" ∧ yX1_snapsOpenAt.cls ≠ "java/lang/invoke/VarHandle" ∧ (parseMethodDescriptor yX1_snapsOpenAt.desc).map (fun d => d.parameters.length) = some 1 := by decide +kernel
theorem hdX1_shutBelow : yX1_shutBelow.cls = RX1 ∧ yX1_shutBelow.cls ≠ "java/lang/invoke/MethodHandle" ∧ yX1_shutBelow.cls ≠ "java/lang/invoke/VarHandle" ∧ (parseMethodDescriptor yX1_shutBelow.desc).map (fun d => d.parameters.length) = some 1 := by decide +kernel
theorem hdX1_warm : yX1_warm.cls = RX1 ∧ yX1_warm.cls ≠ "java/lang/invoke/MethodHandle" ∧ yX1_warm.cls ≠ "java/lang/invoke/VarHandle" ∧ (parseMethodDescriptor yX1_warm.desc).map (fun d => d.parameters.length) = some 3 := by decide +kernel
theorem hdX1_cool : yX1_cool.cls = RX1 ∧ yX1_cool.cls ≠ "java/lang/invoke/MethodHandle" ∧ yX1_cool.cls ≠ "java/lang/invoke/VarHandle" ∧ (parseMethodDescriptor yX1_cool.desc).map (fun d => d.parameters.length) = some 1 := by decide +kernel
theorem hdX2_has : yX2_has.cls = RX2 ∧ yX2_has.cls ≠ "java/lang/invoke/MethodHandle" ∧ yX2_has.cls ≠ "java/lang/invoke/VarHandle" ∧ (parseMethodDescriptor yX2_has.desc).map (fun d => d.parameters.length) = some 1 := by decide +kernel
theorem hdX2_room : yX2_room.cls = RX2 ∧ yX2_room.cls ≠ "java/lang/invoke/MethodHandle" ∧ yX2_room.cls ≠ "java/lang/invoke/VarHandle" ∧ (parseMethodDescriptor yX2_room.desc).map (fun d => d.parameters.length) = some 0 := by decide +kernel
theorem hdX2_add : yX2_add.cls = RX2 ∧ yX2_add.cls ≠ "java/lang/invoke/MethodHandle" ∧ yX2_add.cls ≠ "java/lang/invoke/VarHandle" ∧ (parseMethodDescriptor yX2_add.desc).map (fun d => d.parameters.length) = some 4 := by decide +kernel
theorem hdX2_withRule : yX2_withRule.cls = RX2 ∧ yX2_withRule.cls ≠ "java/lang/invoke/MethodHandle" ∧ yX2_withRule.cls ≠ "java/lang/invoke/VarHandle" ∧ (parseMethodDescriptor yX2_withRule.desc).map (fun d => d.parameters.length) = some 1 := by decide +kernel
theorem hdX2_kneePoint : yX2_kneePoint.cls = RX2 ∧ yX2_kneePoint.cls ≠ "java/lang/invoke/MethodHandle" ∧ yX2_kneePoint.cls ≠ "java/lang/invoke/VarHandle" ∧ (parseMethodDescriptor yX2_kneePoint.desc).map (fun d => d.parameters.length) = some 2 := by decide +kernel
theorem hdX2_lineFitted : yX2_lineFitted.cls = RX2 ∧ yX2_lineFitted.cls ≠ "java/lang/invoke/MethodHandle" ∧ yX2_lineFitted.cls ≠ "java/lang/invoke/VarHandle" ∧ (parseMethodDescriptor yX2_lineFitted.desc).map (fun d => d.parameters.length) = some 3 := by decide +kernel
theorem hdX2_sum : yX2_sum.cls ≠ "java/lang/invoke/MethodHandle" ∧ yX2_sum.cls ≠ "java/lang/invoke/VarHandle" ∧ (parseMethodDescriptor yX2_sum.desc).map (fun d => d.parameters.length) = some 3 := by decide +kernel
theorem hdX2_sumOfProducts : yX2_sumOfProducts.cls ≠ "java/lang/invoke/MethodHandle" ∧ yX2_sumOfProducts.cls ≠ "java/lang/invoke/VarHandle" ∧ (parseMethodDescriptor yX2_sumOfProducts.desc).map (fun d => d.parameters.length) = some 4 := by decide +kernel
theorem hdX2_ofFraction : yX2_ofFraction.cls ≠ "java/lang/invoke/MethodHandle" ∧ yX2_ofFraction.cls ≠ "java/lang/invoke/VarHandle" ∧ (parseMethodDescriptor yX2_ofFraction.desc).map (fun d => d.parameters.length) = some 3 := by decide +kernel
theorem hdX2_greatestDivisor : yX2_greatestDivisor.cls ≠ "java/lang/invoke/MethodHandle" ∧ yX2_greatestDivisor.cls ≠ "java/lang/invoke/VarHandle" ∧ (parseMethodDescriptor yX2_greatestDivisor.desc).map (fun d => d.parameters.length) = some 2 := by decide +kernel
theorem hdX3_part : yX3_part.cls = RX3 ∧ yX3_part.cls ≠ "java/lang/invoke/MethodHandle" ∧ yX3_part.cls ≠ "java/lang/invoke/VarHandle" ∧ (parseMethodDescriptor yX3_part.desc).map (fun d => d.parameters.length) = some 4 := by decide +kernel
theorem hdX3_remove : yX3_remove.cls = RX3 ∧ yX3_remove.cls ≠ "java/lang/invoke/MethodHandle" ∧ yX3_remove.cls ≠ "java/lang/invoke/VarHandle" ∧ (parseMethodDescriptor yX3_remove.desc).map (fun d => d.parameters.length) = some 1 := by decide +kernel
theorem hdX3_set : yX3_set.cls = RX3 ∧ yX3_set.cls ≠ "java/lang/invoke/MethodHandle" ∧ yX3_set.cls ≠ "java/lang/invoke/VarHandle" ∧ (parseMethodDescriptor yX3_set.desc).map (fun d => d.parameters.length) = some 3 := by decide +kernel
theorem hdX3_ofPart : yX3_ofPart.cls = RX3 ∧ yX3_ofPart.cls ≠ "java/lang/invoke/MethodHandle" ∧ yX3_ofPart.cls ≠ "java/lang/invoke/VarHandle" ∧ (parseMethodDescriptor yX3_ofPart.desc).map (fun d => d.parameters.length) = some 2 := by decide +kernel
theorem hdX3_relay : yX3_relay.cls = RX3 ∧ yX3_relay.cls ≠ "java/lang/invoke/MethodHandle" ∧ yX3_relay.cls ≠ "java/lang/invoke/VarHandle" ∧ (parseMethodDescriptor yX3_relay.desc).map (fun d => d.parameters.length) = some 3 := by decide +kernel
theorem hdX3_pins : yX3_pins.cls = RX3 ∧ yX3_pins.cls ≠ "java/lang/invoke/MethodHandle" ∧ yX3_pins.cls ≠ "java/lang/invoke/VarHandle" ∧ (parseMethodDescriptor yX3_pins.desc).map (fun d => d.parameters.length) = some 1 := by decide +kernel
theorem hdX3_power : yX3_power.cls = RX3 ∧ yX3_power.cls ≠ "java/lang/invoke/MethodHandle" ∧ yX3_power.cls ≠ "java/lang/invoke/VarHandle" ∧ (parseMethodDescriptor yX3_power.desc).map (fun d => d.parameters.length) = some 1 := by decide +kernel
theorem hdX3_limit : yX3_limit.cls = RX3 ∧ yX3_limit.cls ≠ "java/lang/invoke/MethodHandle" ∧ yX3_limit.cls ≠ "java/lang/invoke/VarHandle" ∧ (parseMethodDescriptor yX3_limit.desc).map (fun d => d.parameters.length) = some 1 := by decide +kernel
theorem hdX3_leads : yX3_leads.cls = RX3 ∧ yX3_leads.cls ≠ "java/lang/invoke/MethodHandle" ∧ yX3_leads.cls ≠ "java/lang/invoke/VarHandle" ∧ (parseMethodDescriptor yX3_leads.desc).map (fun d => d.parameters.length) = some 1 := by decide +kernel
theorem hdX3_now : yX3_now.cls = RX3 ∧ yX3_now.cls ≠ "java/lang/invoke/MethodHandle" ∧ yX3_now.cls ≠ "java/lang/invoke/VarHandle" ∧ (parseMethodDescriptor yX3_now.desc).map (fun d => d.parameters.length) = some 1 := by decide +kernel
theorem hdX3_amps : yX3_amps.cls = RX3 ∧ yX3_amps.cls ≠ "java/lang/invoke/MethodHandle" ∧ yX3_amps.cls ≠ "java/lang/invoke/VarHandle" ∧ (parseMethodDescriptor yX3_amps.desc).map (fun d => d.parameters.length) = some 2 := by decide +kernel
theorem hdX3_would : yX3_would.cls = RX3 ∧ yX3_would.cls ≠ "java/lang/invoke/MethodHandle" ∧ yX3_would.cls ≠ "java/lang/invoke/VarHandle" ∧ (parseMethodDescriptor yX3_would.desc).map (fun d => d.parameters.length) = some 2 := by decide +kernel
theorem hdX3_pulse : yX3_pulse.cls = RX3 ∧ yX3_pulse.cls ≠ "java/lang/invoke/MethodHandle" ∧ yX3_pulse.cls ≠ "java/lang/invoke/VarHandle" ∧ (parseMethodDescriptor yX3_pulse.desc).map (fun d => d.parameters.length) = some 2 := by decide +kernel
theorem hdX3_rest : yX3_rest.cls = RX3 ∧ yX3_rest.cls ≠ "java/lang/invoke/MethodHandle" ∧ yX3_rest.cls ≠ "java/lang/invoke/VarHandle" ∧ (parseMethodDescriptor yX3_rest.desc).map (fun d => d.parameters.length) = some 1 := by decide +kernel
theorem hdX3_sweep : yX3_sweep.cls = RX3 ∧ yX3_sweep.cls ≠ "java/lang/invoke/MethodHandle" ∧ yX3_sweep.cls ≠ "java/lang/invoke/VarHandle" ∧ (parseMethodDescriptor yX3_sweep.desc).map (fun d => d.parameters.length) = some 6 := by decide +kernel
theorem hdX3_why : yX3_why.cls = RX3 ∧ yX3_why.cls ≠ "java/lang/invoke/MethodHandle" ∧ yX3_why.cls ≠ "java/lang/invoke/VarHandle" ∧ (parseMethodDescriptor yX3_why.desc).map (fun d => d.parameters.length) = some 2 := by decide +kernel
theorem hdX3_reading : yX3_reading.cls = RX3 ∧ yX3_reading.cls ≠ "java/lang/invoke/MethodHandle" ∧ yX3_reading.cls ≠ "java/lang/invoke/VarHandle" ∧ (parseMethodDescriptor yX3_reading.desc).map (fun d => d.parameters.length) = some 2 := by decide +kernel
theorem hdX3_clear : yX3_clear.cls = RX3 ∧ yX3_clear.cls ≠ "java/lang/invoke/MethodHandle" ∧ yX3_clear.cls ≠ "java/lang/invoke/VarHandle" ∧ (parseMethodDescriptor yX3_clear.desc).map (fun d => d.parameters.length) = some 0 := by decide +kernel
theorem hdX3_knee : yX3_knee.cls = RX3 ∧ yX3_knee.cls ≠ "java/lang/invoke/MethodHandle" ∧ yX3_knee.cls ≠ "java/lang/invoke/VarHandle" ∧ (parseMethodDescriptor yX3_knee.desc).map (fun d => d.parameters.length) = some 2 := by decide +kernel
theorem hdX3_fit : yX3_fit.cls = RX3 ∧ yX3_fit.cls ≠ "java/lang/invoke/MethodHandle" ∧ yX3_fit.cls ≠ "java/lang/invoke/VarHandle" ∧ (parseMethodDescriptor yX3_fit.desc).map (fun d => d.parameters.length) = some 3 := by decide +kernel
theorem hdX3_many : yX3_many.cls = RX3 ∧ yX3_many.cls ≠ "java/lang/invoke/MethodHandle" ∧ yX3_many.cls ≠ "java/lang/invoke/VarHandle" ∧ (parseMethodDescriptor yX3_many.desc).map (fun d => d.parameters.length) = some 1 := by decide +kernel
theorem hdX3_within : yX3_within.cls ≠ "java/lang/invoke/MethodHandle" ∧ yX3_within.cls ≠ "java/lang/invoke/VarHandle" ∧ (parseMethodDescriptor yX3_within.desc).map (fun d => d.parameters.length) = some 3 := by decide +kernel
theorem hdX3_isVolts : yX3_isVolts.cls ≠ "java/lang/invoke/MethodHandle" ∧ yX3_isVolts.cls ≠ "java/lang/invoke/VarHandle" ∧ (parseMethodDescriptor yX3_isVolts.desc).map (fun d => d.parameters.length) = some 1 := by decide +kernel
theorem hdX3_partAt : yX3_partAt.cls = RX3 ∧ yX3_partAt.cls ≠ "java/lang/invoke/MethodHandle" ∧ yX3_partAt.cls ≠ "java/lang/invoke/VarHandle" ∧ (parseMethodDescriptor yX3_partAt.desc).map (fun d => d.parameters.length) = some 1 := by decide +kernel
theorem hdX3_wouldShort : yX3_wouldShort.cls = RX3 ∧ yX3_wouldShort.cls ≠ "java/lang/invoke/MethodHandle" ∧ yX3_wouldShort.cls ≠ "java/lang/invoke/VarHandle" ∧ (parseMethodDescriptor yX3_wouldShort.desc).map (fun d => d.parameters.length) = some 2 := by decide +kernel
theorem hdX3_highAndLowAtOnePinEach : yX3_highAndLowAtOnePinEach.cls = RX3 ∧ yX3_highAndLowAtOnePinEach.cls ≠ "java/lang/invoke/MethodHandle" ∧ yX3_highAndLowAtOnePinEach.cls ≠ "java/lang/invoke/VarHandle" ∧ (parseMethodDescriptor yX3_highAndLowAtOnePinEach.desc).map (fun d => d.parameters.length) = some 0 := by decide +kernel
theorem hdX3_inHand : yX3_inHand.cls = RX3 ∧ yX3_inHand.cls ≠ "java/lang/invoke/MethodHandle" ∧ yX3_inHand.cls ≠ "java/lang/invoke/VarHandle" ∧ (parseMethodDescriptor yX3_inHand.desc).map (fun d => d.parameters.length) = some 0 := by decide +kernel
theorem hdX3_joinsHighAndLow : yX3_joinsHighAndLow.cls = RX3 ∧ yX3_joinsHighAndLow.cls ≠ "java/lang/invoke/MethodHandle" ∧ yX3_joinsHighAndLow.cls ≠ "java/lang/invoke/VarHandle" ∧ (parseMethodDescriptor yX3_joinsHighAndLow.desc).map (fun d => d.parameters.length) = some 1 := by decide +kernel
theorem hdX3_fourWires : yX3_fourWires.cls = RX3 ∧ yX3_fourWires.cls ≠ "java/lang/invoke/MethodHandle" ∧ yX3_fourWires.cls ≠ "java/lang/invoke/VarHandle" ∧ (parseMethodDescriptor yX3_fourWires.desc).map (fun d => d.parameters.length) = some 0 := by decide +kernel
theorem hdX3_closedRelays : yX3_closedRelays.cls = RX3 ∧ yX3_closedRelays.cls ≠ "java/lang/invoke/MethodHandle" ∧ yX3_closedRelays.cls ≠ "java/lang/invoke/VarHandle" ∧ (parseMethodDescriptor yX3_closedRelays.desc).map (fun d => d.parameters.length) = some 0 := by decide +kernel
theorem hdX3_partsThere : yX3_partsThere.cls = RX3 ∧ yX3_partsThere.cls ≠ "java/lang/invoke/MethodHandle" ∧ yX3_partsThere.cls ≠ "java/lang/invoke/VarHandle" ∧ (parseMethodDescriptor yX3_partsThere.desc).map (fun d => d.parameters.length) = some 1 := by decide +kernel
theorem hdX3_owned : yX3_owned.cls = RX3 ∧ yX3_owned.cls ≠ "java/lang/invoke/MethodHandle" ∧ yX3_owned.cls ≠ "java/lang/invoke/VarHandle" ∧ (parseMethodDescriptor yX3_owned.desc).map (fun d => d.parameters.length) = some 2 := by decide +kernel
theorem hdX3_ampsAt : yX3_ampsAt.cls = RX3 ∧ yX3_ampsAt.cls ≠ "java/lang/invoke/MethodHandle" ∧ yX3_ampsAt.cls ≠ "java/lang/invoke/VarHandle" ∧ (parseMethodDescriptor yX3_ampsAt.desc).map (fun d => d.parameters.length) = some 2 := by decide +kernel
theorem hdX3_drop : yX3_drop.cls = RX3 ∧ yX3_drop.cls ≠ "java/lang/invoke/MethodHandle" ∧ yX3_drop.cls ≠ "java/lang/invoke/VarHandle" ∧ (parseMethodDescriptor yX3_drop.desc).map (fun d => d.parameters.length) = some 1 := by decide +kernel
theorem hdX3_aboveLimit : yX3_aboveLimit.cls = RX3 ∧ yX3_aboveLimit.cls ≠ "java/lang/invoke/MethodHandle" ∧ yX3_aboveLimit.cls ≠ "java/lang/invoke/VarHandle" ∧ (parseMethodDescriptor yX3_aboveLimit.desc).map (fun d => d.parameters.length) = some 2 := by decide +kernel
theorem hdX3_allowed : yX3_allowed.cls = RX3 ∧ yX3_allowed.cls ≠ "java/lang/invoke/MethodHandle" ∧ yX3_allowed.cls ≠ "java/lang/invoke/VarHandle" ∧ (parseMethodDescriptor yX3_allowed.desc).map (fun d => d.parameters.length) = some 3 := by decide +kernel
theorem hdX3_farthest : yX3_farthest.cls = RX3 ∧ yX3_farthest.cls ≠ "java/lang/invoke/MethodHandle" ∧ yX3_farthest.cls ≠ "java/lang/invoke/VarHandle" ∧ (parseMethodDescriptor yX3_farthest.desc).map (fun d => d.parameters.length) = some 2 := by decide +kernel
theorem hdX3_ruleAt : yX3_ruleAt.cls = RX3 ∧ yX3_ruleAt.cls ≠ "java/lang/invoke/MethodHandle" ∧ yX3_ruleAt.cls ≠ "java/lang/invoke/VarHandle" ∧ (parseMethodDescriptor yX3_ruleAt.desc).map (fun d => d.parameters.length) = some 3 := by decide +kernel
theorem hdX3_readPulse : yX3_readPulse.cls = RX3 ∧ yX3_readPulse.cls ≠ "java/lang/invoke/MethodHandle" ∧ yX3_readPulse.cls ≠ "java/lang/invoke/VarHandle" ∧ (parseMethodDescriptor yX3_readPulse.desc).map (fun d => d.parameters.length) = some 3 := by decide +kernel
theorem hdX3_tellBurnt : yX3_tellBurnt.cls = RX3 ∧ yX3_tellBurnt.cls ≠ "java/lang/invoke/MethodHandle" ∧ yX3_tellBurnt.cls ≠ "java/lang/invoke/VarHandle" ∧ (parseMethodDescriptor yX3_tellBurnt.desc).map (fun d => d.parameters.length) = some 2 := by decide +kernel
theorem hdX3_coolAll : yX3_coolAll.cls = RX3 ∧ yX3_coolAll.cls ≠ "java/lang/invoke/MethodHandle" ∧ yX3_coolAll.cls ≠ "java/lang/invoke/VarHandle" ∧ (parseMethodDescriptor yX3_coolAll.desc).map (fun d => d.parameters.length) = some 1 := by decide +kernel
theorem hdJ6_bitCount_0f7a4 : yJ6_bitCount_0f7a4.cls ≠ "java/lang/invoke/MethodHandle" ∧ yJ6_bitCount_0f7a4.cls ≠ "java/lang/invoke/VarHandle" ∧ (parseMethodDescriptor yJ6_bitCount_0f7a4.desc).map (fun d => d.parameters.length) = some 1 := by decide +kernel
theorem hdJ9_floorDiv_7cf53 : yJ9_floorDiv_7cf53.cls ≠ "java/lang/invoke/MethodHandle" ∧ yJ9_floorDiv_7cf53.cls ≠ "java/lang/invoke/VarHandle" ∧ (parseMethodDescriptor yJ9_floorDiv_7cf53.desc).map (fun d => d.parameters.length) = some 2 := by decide +kernel
set_option maxHeartbeats 4000000 in
set_option maxRecDepth 100000 in
theorem kJ9_floorDiv (l : Launch) (g : qG) {S : Type} {Wd : S → va_W} {A : Nat → Prop} (u : S) (x y : Int32) (hy : 0 < y.toInt) : qMi l yJ9_floorDiv_7cf53 wsJ9_floorDiv_7cf53 0 g Wd A u [.int x, .int y] (fdv x y) u := by
  refine qStart (cc := cJ9_floorDiv_7cf53) (maxL := 3) (ret := (some .int)) (by decide +kernel) rfl (Nat.le_of_ble_eq_true rfl) ?_
  intro p e s m args below meth c hx hb hml hown hts hr hlk hP hK ls hl
  have hl : lv_has ls 3 [(0, .int x), (1, .int y)] := hl
  have hS : va_S A s.heap s.heap [] := va_S.rf
  refine lv_iload_n hx hb dJ9_floorDiv_7cf53_0 rfl (lv_at hl 0 rfl) ?_
  refine lv_iload_n hx hb dJ9_floorDiv_7cf53_1 rfl (lv_at hl 1 rfl) ?_
  refine lv_idiv hx hb dJ9_floorDiv_7cf53_2 (fun h => by rw [h] at hy; exact absurd hy (by decide)) ?_
  refine lv_istore_n (lv' := [(2, .int (x / y)), (0, .int x), (1, .int y)]) hx hb dJ9_floorDiv_7cf53_3 rfl hl (by decide) rfl (fun ls hl => ?_)
  refine lv_iload_n hx hb dJ9_floorDiv_7cf53_4 rfl (lv_at hl 1 rfl) ?_
  refine lv_iload_n hx hb dJ9_floorDiv_7cf53_5 rfl (lv_at hl 2 rfl) ?_
  refine lv_ixor hx hb dJ9_floorDiv_7cf53_6 ?_
  refine lv_if_ge (tgt := 21) hx hb dJ9_floorDiv_7cf53_7 (by decide) (fun c_7 => ?_) (fun c_7 => ?_)
  · -- 7 taken
    have c_7n := i_le_t c_7
    refine lv_iload_n hx hb dJ9_floorDiv_7cf53_21 rfl (lv_at hl 0 rfl) ?_
    exact qRi hx hb hr hlk hP hK hS dJ9_floorDiv_7cf53_22 (by first | exact fdv_pos x y hy c_7 | exact fdv_eq x y hy c_14) rfl
  · -- 7 not taken
    have c_7n := i_le_f c_7
    refine lv_iload_n hx hb dJ9_floorDiv_7cf53_10 rfl (lv_at hl 0 rfl) ?_
    refine lv_iload_n hx hb dJ9_floorDiv_7cf53_11 rfl (lv_at hl 2 rfl) ?_
    refine lv_imul hx hb dJ9_floorDiv_7cf53_12 ?_
    refine lv_iload_n hx hb dJ9_floorDiv_7cf53_13 rfl (lv_at hl 1 rfl) ?_
    refine lv_icmp_eq (tgt := 21) hx hb dJ9_floorDiv_7cf53_14 (by decide) (fun c_14 => ?_) (fun c_14 => ?_)
    · -- 14 taken
      refine lv_iload_n hx hb dJ9_floorDiv_7cf53_21 rfl (lv_at hl 0 rfl) ?_
      exact qRi hx hb hr hlk hP hK hS dJ9_floorDiv_7cf53_22 (by first | exact fdv_pos x y hy c_7 | exact fdv_eq x y hy c_14) rfl
    · -- 14 not taken
      refine lv_iload_n hx hb dJ9_floorDiv_7cf53_17 rfl (lv_at hl 0 rfl) ?_
      refine lv_iconst (v := 1) hx hb dJ9_floorDiv_7cf53_18 rfl ?_
      refine lv_isub hx hb dJ9_floorDiv_7cf53_19 ?_
      exact qRi hx hb hr hlk hP hK hS dJ9_floorDiv_7cf53_20 (fdv_neg x y hy c_7 c_14) rfl
set_option maxHeartbeats 4000000 in
set_option maxRecDepth 100000 in
theorem kJ6_bitCount (l : Launch) (g : qG) {S : Type} {Wd : S → va_W} {A : Nat → Prop} (u : S) (x : Int32) : qMi l yJ6_bitCount_0f7a4 wsJ6_bitCount_0f7a4 0 g Wd A u [.int x] (bcF x) u := by
  refine qStart (cc := cJ6_bitCount_0f7a4) (maxL := 1) (ret := (some .int)) (plainFor_of_name (by decide)) rfl (Nat.le_of_ble_eq_true rfl) ?_
  intro p e s m args below meth c hx hb hml hown hts hr hlk hP hK ls hl
  have hl : lv_has ls 1 [(0, .int x)] := hl
  have hS : va_S A s.heap s.heap [] := va_S.rf
  refine lv_iload_n hx hb dJ6_bitCount_0f7a4_0 rfl (lv_at hl 0 rfl) ?_
  refine lv_iload_n hx hb dJ6_bitCount_0f7a4_1 rfl (lv_at hl 0 rfl) ?_
  refine lv_iconst (v := 1) hx hb dJ6_bitCount_0f7a4_2 rfl ?_
  refine lv_iushr (v := (x.toUInt32 >>> ((1 : Int32).toUInt32 &&& Int32.toUInt32 31)).toInt32) hx hb dJ6_bitCount_0f7a4_3 rfl ?_
  refine lv_ldcw (v := 1431655765) hx hb hown (hts (.constant RJ6 265 (1431655765)) (by decide +kernel)) dJ6_bitCount_0f7a4_4 ?_
  refine lv_iand hx hb dJ6_bitCount_0f7a4_7 ?_
  refine lv_isub hx hb dJ6_bitCount_0f7a4_8 ?_
  refine lv_istore_n (lv' := [(0, .int (x - (((x.toUInt32 >>> ((1 : Int32).toUInt32 &&& Int32.toUInt32 31)).toInt32) &&& 1431655765)))]) hx hb dJ6_bitCount_0f7a4_9 rfl hl (by decide) rfl (fun ls hl => ?_)
  refine lv_iload_n hx hb dJ6_bitCount_0f7a4_10 rfl (lv_at hl 0 rfl) ?_
  refine lv_ldcw (v := 858993459) hx hb hown (hts (.constant RJ6 266 (858993459)) (by decide +kernel)) dJ6_bitCount_0f7a4_11 ?_
  refine lv_iand hx hb dJ6_bitCount_0f7a4_14 ?_
  refine lv_iload_n hx hb dJ6_bitCount_0f7a4_15 rfl (lv_at hl 0 rfl) ?_
  refine lv_iconst (v := 2) hx hb dJ6_bitCount_0f7a4_16 rfl ?_
  refine lv_iushr (v := ((x - (((x.toUInt32 >>> ((1 : Int32).toUInt32 &&& Int32.toUInt32 31)).toInt32) &&& 1431655765)).toUInt32 >>> ((2 : Int32).toUInt32 &&& Int32.toUInt32 31)).toInt32) hx hb dJ6_bitCount_0f7a4_17 rfl ?_
  refine lv_ldcw (v := 858993459) hx hb hown (hts (.constant RJ6 266 (858993459)) (by decide +kernel)) dJ6_bitCount_0f7a4_18 ?_
  refine lv_iand hx hb dJ6_bitCount_0f7a4_21 ?_
  refine lv_iadd hx hb dJ6_bitCount_0f7a4_22 ?_
  refine lv_istore_n (lv' := [(0, .int (((x - (((x.toUInt32 >>> ((1 : Int32).toUInt32 &&& Int32.toUInt32 31)).toInt32) &&& 1431655765)) &&& 858993459) + ((((x - (((x.toUInt32 >>> ((1 : Int32).toUInt32 &&& Int32.toUInt32 31)).toInt32) &&& 1431655765)).toUInt32 >>> ((2 : Int32).toUInt32 &&& Int32.toUInt32 31)).toInt32) &&& 858993459)))]) hx hb dJ6_bitCount_0f7a4_23 rfl hl (by decide) rfl (fun ls hl => ?_)
  refine lv_iload_n hx hb dJ6_bitCount_0f7a4_24 rfl (lv_at hl 0 rfl) ?_
  refine lv_iload_n hx hb dJ6_bitCount_0f7a4_25 rfl (lv_at hl 0 rfl) ?_
  refine lv_iconst (v := 4) hx hb dJ6_bitCount_0f7a4_26 rfl ?_
  refine lv_iushr (v := ((((x - (((x.toUInt32 >>> ((1 : Int32).toUInt32 &&& Int32.toUInt32 31)).toInt32) &&& 1431655765)) &&& 858993459) + ((((x - (((x.toUInt32 >>> ((1 : Int32).toUInt32 &&& Int32.toUInt32 31)).toInt32) &&& 1431655765)).toUInt32 >>> ((2 : Int32).toUInt32 &&& Int32.toUInt32 31)).toInt32) &&& 858993459)).toUInt32 >>> ((4 : Int32).toUInt32 &&& Int32.toUInt32 31)).toInt32) hx hb dJ6_bitCount_0f7a4_27 rfl ?_
  refine lv_iadd hx hb dJ6_bitCount_0f7a4_28 ?_
  refine lv_ldcw (v := 252645135) hx hb hown (hts (.constant RJ6 267 (252645135)) (by decide +kernel)) dJ6_bitCount_0f7a4_29 ?_
  refine lv_iand hx hb dJ6_bitCount_0f7a4_32 ?_
  refine lv_istore_n (lv' := [(0, .int (((((x - (((x.toUInt32 >>> ((1 : Int32).toUInt32 &&& Int32.toUInt32 31)).toInt32) &&& 1431655765)) &&& 858993459) + ((((x - (((x.toUInt32 >>> ((1 : Int32).toUInt32 &&& Int32.toUInt32 31)).toInt32) &&& 1431655765)).toUInt32 >>> ((2 : Int32).toUInt32 &&& Int32.toUInt32 31)).toInt32) &&& 858993459)) + (((((x - (((x.toUInt32 >>> ((1 : Int32).toUInt32 &&& Int32.toUInt32 31)).toInt32) &&& 1431655765)) &&& 858993459) + ((((x - (((x.toUInt32 >>> ((1 : Int32).toUInt32 &&& Int32.toUInt32 31)).toInt32) &&& 1431655765)).toUInt32 >>> ((2 : Int32).toUInt32 &&& Int32.toUInt32 31)).toInt32) &&& 858993459)).toUInt32 >>> ((4 : Int32).toUInt32 &&& Int32.toUInt32 31)).toInt32)) &&& 252645135))]) hx hb dJ6_bitCount_0f7a4_33 rfl hl (by decide) rfl (fun ls hl => ?_)
  refine lv_iload_n hx hb dJ6_bitCount_0f7a4_34 rfl (lv_at hl 0 rfl) ?_
  refine lv_iload_n hx hb dJ6_bitCount_0f7a4_35 rfl (lv_at hl 0 rfl) ?_
  refine lv_bipush (v := 8) hx hb dJ6_bitCount_0f7a4_36 (by decide) ?_
  refine lv_iushr (v := ((((((x - (((x.toUInt32 >>> ((1 : Int32).toUInt32 &&& Int32.toUInt32 31)).toInt32) &&& 1431655765)) &&& 858993459) + ((((x - (((x.toUInt32 >>> ((1 : Int32).toUInt32 &&& Int32.toUInt32 31)).toInt32) &&& 1431655765)).toUInt32 >>> ((2 : Int32).toUInt32 &&& Int32.toUInt32 31)).toInt32) &&& 858993459)) + (((((x - (((x.toUInt32 >>> ((1 : Int32).toUInt32 &&& Int32.toUInt32 31)).toInt32) &&& 1431655765)) &&& 858993459) + ((((x - (((x.toUInt32 >>> ((1 : Int32).toUInt32 &&& Int32.toUInt32 31)).toInt32) &&& 1431655765)).toUInt32 >>> ((2 : Int32).toUInt32 &&& Int32.toUInt32 31)).toInt32) &&& 858993459)).toUInt32 >>> ((4 : Int32).toUInt32 &&& Int32.toUInt32 31)).toInt32)) &&& 252645135).toUInt32 >>> ((8 : Int32).toUInt32 &&& Int32.toUInt32 31)).toInt32) hx hb dJ6_bitCount_0f7a4_38 rfl ?_
  refine lv_iadd hx hb dJ6_bitCount_0f7a4_39 ?_
  refine lv_istore_n (lv' := [(0, .int ((((((x - (((x.toUInt32 >>> ((1 : Int32).toUInt32 &&& Int32.toUInt32 31)).toInt32) &&& 1431655765)) &&& 858993459) + ((((x - (((x.toUInt32 >>> ((1 : Int32).toUInt32 &&& Int32.toUInt32 31)).toInt32) &&& 1431655765)).toUInt32 >>> ((2 : Int32).toUInt32 &&& Int32.toUInt32 31)).toInt32) &&& 858993459)) + (((((x - (((x.toUInt32 >>> ((1 : Int32).toUInt32 &&& Int32.toUInt32 31)).toInt32) &&& 1431655765)) &&& 858993459) + ((((x - (((x.toUInt32 >>> ((1 : Int32).toUInt32 &&& Int32.toUInt32 31)).toInt32) &&& 1431655765)).toUInt32 >>> ((2 : Int32).toUInt32 &&& Int32.toUInt32 31)).toInt32) &&& 858993459)).toUInt32 >>> ((4 : Int32).toUInt32 &&& Int32.toUInt32 31)).toInt32)) &&& 252645135) + (((((((x - (((x.toUInt32 >>> ((1 : Int32).toUInt32 &&& Int32.toUInt32 31)).toInt32) &&& 1431655765)) &&& 858993459) + ((((x - (((x.toUInt32 >>> ((1 : Int32).toUInt32 &&& Int32.toUInt32 31)).toInt32) &&& 1431655765)).toUInt32 >>> ((2 : Int32).toUInt32 &&& Int32.toUInt32 31)).toInt32) &&& 858993459)) + (((((x - (((x.toUInt32 >>> ((1 : Int32).toUInt32 &&& Int32.toUInt32 31)).toInt32) &&& 1431655765)) &&& 858993459) + ((((x - (((x.toUInt32 >>> ((1 : Int32).toUInt32 &&& Int32.toUInt32 31)).toInt32) &&& 1431655765)).toUInt32 >>> ((2 : Int32).toUInt32 &&& Int32.toUInt32 31)).toInt32) &&& 858993459)).toUInt32 >>> ((4 : Int32).toUInt32 &&& Int32.toUInt32 31)).toInt32)) &&& 252645135).toUInt32 >>> ((8 : Int32).toUInt32 &&& Int32.toUInt32 31)).toInt32)))]) hx hb dJ6_bitCount_0f7a4_40 rfl hl (by decide) rfl (fun ls hl => ?_)
  refine lv_iload_n hx hb dJ6_bitCount_0f7a4_41 rfl (lv_at hl 0 rfl) ?_
  refine lv_iload_n hx hb dJ6_bitCount_0f7a4_42 rfl (lv_at hl 0 rfl) ?_
  refine lv_bipush (v := 16) hx hb dJ6_bitCount_0f7a4_43 (by decide) ?_
  refine lv_iushr (v := (((((((x - (((x.toUInt32 >>> ((1 : Int32).toUInt32 &&& Int32.toUInt32 31)).toInt32) &&& 1431655765)) &&& 858993459) + ((((x - (((x.toUInt32 >>> ((1 : Int32).toUInt32 &&& Int32.toUInt32 31)).toInt32) &&& 1431655765)).toUInt32 >>> ((2 : Int32).toUInt32 &&& Int32.toUInt32 31)).toInt32) &&& 858993459)) + (((((x - (((x.toUInt32 >>> ((1 : Int32).toUInt32 &&& Int32.toUInt32 31)).toInt32) &&& 1431655765)) &&& 858993459) + ((((x - (((x.toUInt32 >>> ((1 : Int32).toUInt32 &&& Int32.toUInt32 31)).toInt32) &&& 1431655765)).toUInt32 >>> ((2 : Int32).toUInt32 &&& Int32.toUInt32 31)).toInt32) &&& 858993459)).toUInt32 >>> ((4 : Int32).toUInt32 &&& Int32.toUInt32 31)).toInt32)) &&& 252645135) + (((((((x - (((x.toUInt32 >>> ((1 : Int32).toUInt32 &&& Int32.toUInt32 31)).toInt32) &&& 1431655765)) &&& 858993459) + ((((x - (((x.toUInt32 >>> ((1 : Int32).toUInt32 &&& Int32.toUInt32 31)).toInt32) &&& 1431655765)).toUInt32 >>> ((2 : Int32).toUInt32 &&& Int32.toUInt32 31)).toInt32) &&& 858993459)) + (((((x - (((x.toUInt32 >>> ((1 : Int32).toUInt32 &&& Int32.toUInt32 31)).toInt32) &&& 1431655765)) &&& 858993459) + ((((x - (((x.toUInt32 >>> ((1 : Int32).toUInt32 &&& Int32.toUInt32 31)).toInt32) &&& 1431655765)).toUInt32 >>> ((2 : Int32).toUInt32 &&& Int32.toUInt32 31)).toInt32) &&& 858993459)).toUInt32 >>> ((4 : Int32).toUInt32 &&& Int32.toUInt32 31)).toInt32)) &&& 252645135).toUInt32 >>> ((8 : Int32).toUInt32 &&& Int32.toUInt32 31)).toInt32)).toUInt32 >>> ((16 : Int32).toUInt32 &&& Int32.toUInt32 31)).toInt32) hx hb dJ6_bitCount_0f7a4_45 rfl ?_
  refine lv_iadd hx hb dJ6_bitCount_0f7a4_46 ?_
  refine lv_istore_n (lv' := [(0, .int (((((((x - (((x.toUInt32 >>> ((1 : Int32).toUInt32 &&& Int32.toUInt32 31)).toInt32) &&& 1431655765)) &&& 858993459) + ((((x - (((x.toUInt32 >>> ((1 : Int32).toUInt32 &&& Int32.toUInt32 31)).toInt32) &&& 1431655765)).toUInt32 >>> ((2 : Int32).toUInt32 &&& Int32.toUInt32 31)).toInt32) &&& 858993459)) + (((((x - (((x.toUInt32 >>> ((1 : Int32).toUInt32 &&& Int32.toUInt32 31)).toInt32) &&& 1431655765)) &&& 858993459) + ((((x - (((x.toUInt32 >>> ((1 : Int32).toUInt32 &&& Int32.toUInt32 31)).toInt32) &&& 1431655765)).toUInt32 >>> ((2 : Int32).toUInt32 &&& Int32.toUInt32 31)).toInt32) &&& 858993459)).toUInt32 >>> ((4 : Int32).toUInt32 &&& Int32.toUInt32 31)).toInt32)) &&& 252645135) + (((((((x - (((x.toUInt32 >>> ((1 : Int32).toUInt32 &&& Int32.toUInt32 31)).toInt32) &&& 1431655765)) &&& 858993459) + ((((x - (((x.toUInt32 >>> ((1 : Int32).toUInt32 &&& Int32.toUInt32 31)).toInt32) &&& 1431655765)).toUInt32 >>> ((2 : Int32).toUInt32 &&& Int32.toUInt32 31)).toInt32) &&& 858993459)) + (((((x - (((x.toUInt32 >>> ((1 : Int32).toUInt32 &&& Int32.toUInt32 31)).toInt32) &&& 1431655765)) &&& 858993459) + ((((x - (((x.toUInt32 >>> ((1 : Int32).toUInt32 &&& Int32.toUInt32 31)).toInt32) &&& 1431655765)).toUInt32 >>> ((2 : Int32).toUInt32 &&& Int32.toUInt32 31)).toInt32) &&& 858993459)).toUInt32 >>> ((4 : Int32).toUInt32 &&& Int32.toUInt32 31)).toInt32)) &&& 252645135).toUInt32 >>> ((8 : Int32).toUInt32 &&& Int32.toUInt32 31)).toInt32)) + ((((((((x - (((x.toUInt32 >>> ((1 : Int32).toUInt32 &&& Int32.toUInt32 31)).toInt32) &&& 1431655765)) &&& 858993459) + ((((x - (((x.toUInt32 >>> ((1 : Int32).toUInt32 &&& Int32.toUInt32 31)).toInt32) &&& 1431655765)).toUInt32 >>> ((2 : Int32).toUInt32 &&& Int32.toUInt32 31)).toInt32) &&& 858993459)) + (((((x - (((x.toUInt32 >>> ((1 : Int32).toUInt32 &&& Int32.toUInt32 31)).toInt32) &&& 1431655765)) &&& 858993459) + ((((x - (((x.toUInt32 >>> ((1 : Int32).toUInt32 &&& Int32.toUInt32 31)).toInt32) &&& 1431655765)).toUInt32 >>> ((2 : Int32).toUInt32 &&& Int32.toUInt32 31)).toInt32) &&& 858993459)).toUInt32 >>> ((4 : Int32).toUInt32 &&& Int32.toUInt32 31)).toInt32)) &&& 252645135) + (((((((x - (((x.toUInt32 >>> ((1 : Int32).toUInt32 &&& Int32.toUInt32 31)).toInt32) &&& 1431655765)) &&& 858993459) + ((((x - (((x.toUInt32 >>> ((1 : Int32).toUInt32 &&& Int32.toUInt32 31)).toInt32) &&& 1431655765)).toUInt32 >>> ((2 : Int32).toUInt32 &&& Int32.toUInt32 31)).toInt32) &&& 858993459)) + (((((x - (((x.toUInt32 >>> ((1 : Int32).toUInt32 &&& Int32.toUInt32 31)).toInt32) &&& 1431655765)) &&& 858993459) + ((((x - (((x.toUInt32 >>> ((1 : Int32).toUInt32 &&& Int32.toUInt32 31)).toInt32) &&& 1431655765)).toUInt32 >>> ((2 : Int32).toUInt32 &&& Int32.toUInt32 31)).toInt32) &&& 858993459)).toUInt32 >>> ((4 : Int32).toUInt32 &&& Int32.toUInt32 31)).toInt32)) &&& 252645135).toUInt32 >>> ((8 : Int32).toUInt32 &&& Int32.toUInt32 31)).toInt32)).toUInt32 >>> ((16 : Int32).toUInt32 &&& Int32.toUInt32 31)).toInt32)))]) hx hb dJ6_bitCount_0f7a4_47 rfl hl (by decide) rfl (fun ls hl => ?_)
  refine lv_iload_n hx hb dJ6_bitCount_0f7a4_48 rfl (lv_at hl 0 rfl) ?_
  refine lv_bipush (v := 63) hx hb dJ6_bitCount_0f7a4_49 (by decide) ?_
  refine lv_iand hx hb dJ6_bitCount_0f7a4_51 ?_
  exact qRi hx hb hr hlk hP hK hS dJ6_bitCount_0f7a4_52 rfl rfl
set_option maxHeartbeats 4000000 in
set_option maxRecDepth 100000 in
theorem kX3_within (l : Launch) (g : qG) {S : Type} {Wd : S → va_W} {A : Nat → Prop} (u : S) (v a b : Int32) : qMi l yX3_within wsX3_within 0 g Wd A u [.int v, .int a, .int b] (bI (inR v a b)) u := by
  refine qStart (cc := cX3_within) (maxL := 3) (ret := (some .boolean)) (plainFor_of_name (by decide)) rfl (Nat.le_of_ble_eq_true rfl) ?_
  intro p e s m args below meth c hx hb hml hown hts hr hlk hP hK ls hl
  have hl : lv_has ls 3 [(0, .int v), (1, .int a), (2, .int b)] := hl
  have hS : va_S A s.heap s.heap [] := va_S.rf
  refine lv_iload_n hx hb dX3_within_0 rfl (lv_at hl 0 rfl) ?_
  refine lv_iload_n hx hb dX3_within_1 rfl (lv_at hl 1 rfl) ?_
  refine lv_icmp_lt (tgt := 14) hx hb dX3_within_2 (by decide) (fun c_2 => ?_) (fun c_2 => ?_)
  · -- 2 taken
    have c_2n := i_lt_t c_2
    refine lv_iconst (v := 0) hx hb dX3_within_14 rfl ?_
    exact qRz hx hb hr hlk rfl hP hK hS dX3_within_15 (by first | rfl | simp [bI, inR, c_2, c_2n]) (by first | rfl | simp [bI, inR, c_2, c_2n])
  · -- 2 not taken
    have c_2n := i_lt_f c_2
    refine lv_iload_n hx hb dX3_within_5 rfl (lv_at hl 0 rfl) ?_
    refine lv_iload_n hx hb dX3_within_6 rfl (lv_at hl 2 rfl) ?_
    refine lv_icmp_gt (tgt := 14) hx hb dX3_within_7 (by decide) (fun c_7 => ?_) (fun c_7 => ?_)
    · -- 7 taken
      have c_7n := i_lt_t c_7
      refine lv_iconst (v := 0) hx hb dX3_within_14 rfl ?_
      exact qRz hx hb hr hlk rfl hP hK hS dX3_within_15 (by first | rfl | simp [bI, inR, c_2, c_2n, c_7, c_7n]) (by first | rfl | simp [bI, inR, c_2, c_2n, c_7, c_7n])
    · -- 7 not taken
      have c_7n := i_lt_f c_7
      refine lv_iconst (v := 1) hx hb dX3_within_10 rfl ?_
      refine lv_goto (tgt := 15) hx hb dX3_within_11 (by decide) ?_
      exact qRz hx hb hr hlk rfl hP hK hS dX3_within_15 (by first | rfl | simp [bI, inR, c_2, c_2n, c_7, c_7n]) (by first | rfl | simp [bI, inR, c_2, c_2n, c_7, c_7n])
set_option maxHeartbeats 4000000 in
set_option maxRecDepth 100000 in
theorem kX3_isVolts (l : Launch) (g : qG) {S : Type} {Wd : S → va_W} {A : Nat → Prop} (u : S) (v : Int32) : qMi l yX3_isVolts wsX3_isVolts 1 g Wd A u [.int v] (bI (inR v (-3000) 3000)) u := by
  refine qStart (cc := cX3_isVolts) (maxL := 1) (ret := (some .boolean)) (plainFor_of_name (by decide)) rfl (Nat.le_of_ble_eq_true rfl) ?_
  intro p e s m args below meth c hx hb hml hown hts hr hlk hP hK ls hl
  have hl : lv_has ls 1 [(0, .int v)] := hl
  have hS : va_S A s.heap s.heap [] := va_S.rf
  refine lv_iload_n hx hb dX3_isVolts_0 rfl (lv_at hl 0 rfl) ?_
  refine lv_sipush (v := -3000) hx hb dX3_isVolts_1 (by decide) ?_
  refine lv_sipush (v := 3000) hx hb dX3_isVolts_4 (by decide) ?_
  refine qSi (As := [.int v, .int (-3000), .int 3000]) (rest := []) hx hb hml hown hts (kX3_within l g (Wd := Wd) (A := A) u v (-3000) 3000) gX3_isVolts_X3_within rfl 3 hdX3_within rfl ⟨Nat.le_of_ble_eq_true rfl, Nat.le_of_ble_eq_true rfl⟩ ⟨Nat.zero_le _, Nat.zero_le _⟩ hK hP hS (fun _ h => h) hl.1 rfl (Nat.le_of_ble_eq_true rfl) dX3_isVolts_7 (fun H locs hP hS => ?_)
  exact qRz hx hb hr hlk (bI_nar _) hP hK hS dX3_isVolts_10 (by first | rfl | simp []) (by first | rfl | simp [])
theorem pOk_in {z : zS} {n : Int32} (h : pOk z n = true) : inR n 0 3 = true ∧ ¬ z (10 + ix n) 0 = 0 := by simpa [pOk] using h
theorem pOk_lt {z : zS} {n : Int32} (h : pOk z n = true) : ix n < 4 := Nat.lt_of_le_of_lt (inR_ix (n := 3) rfl (pOk_in h).1).1 (by decide)
theorem nI_v4 {i : Nat} (h : i < 4) : vp_in (nI i) 4 := vp_in_nI h (by decide)
theorem nI_e (i : Nat) (h : i < 2 ^ 31) : (nI i).toNatClampNeg = i := nI_clamp h
set_option maxHeartbeats 4000000 in
set_option maxRecDepth 100000 in
theorem kX3_partAt_t (l : Launch) (g : qG) {ad : Nat → Nat} (z : zS) (hj : adInj 15 ad) (n : Int32) (hp : pOk z n = true) : qMq l yX3_partAt wsX3_partAt 1 g (WX g ad) (adOf 15 ad) z [.ref (ad 0), .int n] (some (ad (10 + ix n))) z := by
  refine qStart (cc := cX3_partAt) (maxL := 2) (ret := (some (.object "PartCurves$Part"))) (plainFor_of_name (by decide)) rfl (Nat.le_of_ble_eq_true rfl) ?_
  intro p e s m args below meth c hx hb hml hown hts hr hlk hP hK ls hl
  have hl : lv_has ls 2 [(0, .ref (ad 0)), (1, .int n)] := hl
  have hS : va_S (adOf 15 ad) s.heap s.heap [] := va_S.rf
  have hin1 : ∀ w ∈ u_ws RX1 TX1 12, w ∈ wsX3_partAt := by decide +kernel
  have hin3 : ∀ w ∈ u_ws RX3 TX3 7, w ∈ wsX3_partAt := by decide +kernel
  refine lv_iload_n hx hb dX3_partAt_0 rfl (lv_at hl 1 rfl) ?_
  refine lv_iconst (v := 0) hx hb dX3_partAt_1 rfl ?_
  refine lv_iconst (v := 3) hx hb dX3_partAt_2 rfl ?_
  refine qSi (As := [.int n, .int 0, .int 3]) (rest := []) hx hb hml hown hts (kX3_within l g (Wd := (WX g ad)) (A := (adOf 15 ad)) z n 0 3) gX3_partAt_X3_within rfl 3 hdX3_within rfl ⟨Nat.le_of_ble_eq_true rfl, Nat.le_of_ble_eq_true rfl⟩ ⟨Nat.zero_le _, Nat.zero_le _⟩ hK hP hS (fun _ h => h) hl.1 rfl (Nat.le_of_ble_eq_true rfl) dX3_partAt_3 (fun H locs hP hS => ?_)
  refine lv_if_eq (tgt := 30) hx hb dX3_partAt_6 (by decide) (fun c_6 => ?_) (fun c_6 => ?_)
  · -- 6 taken
    have c_6 := bI_0 c_6
    exact absurd (pOk_in hp).1 (by rw [c_6]; decide)
  · -- 6 not taken
    have c_6 := bI_n c_6
    have hn4 : ix n < 4 := (Nat.lt_of_le_of_lt (inR_ix (n := 3) rfl c_6).1 (by decide))
    refine lv_aload_n hx hb dX3_partAt_9 rfl (lv_at hl 0 rfl) ?_
    refine qGet (ci := 3) (v := .ref (ad 8)) (C := RX3) (T := TX3) (N := 7) hx hb hts hin3 hown hK hP 0 rfl rfl 0 (by decide) (hts (.fieldLink RX3 13 "PartCurves" "parts" "[LPartCurves$Part;") (by decide +kernel)) rfl dX3_partAt_10 ?_
    refine lv_iload_n hx hb dX3_partAt_13 rfl (lv_at hl 1 rfl) ?_
    refine qQld (v := (ad (10 + ix n))) hx hb hK hP 8 rfl (inR_vp (n := 3) rfl c_6 4 (by decide)) rfl dX3_partAt_14 ?_
    refine qGet (ci := 1) (v := .int (z (10 + ix n) 0)) (C := RX1) (T := TX1) (N := 12) hx hb hts hin1 hown hK hP (10 + ix n) (WX_p g ad z hn4) rfl 0 (by decide) (hts (.fieldLink RX3 51 "PartCurves$Part" "there" "Z") (by decide +kernel)) rfl dX3_partAt_15 ?_
    refine lv_if_eq (tgt := 30) hx hb dX3_partAt_18 (by decide) (fun c_18 => ?_) (fun c_18 => ?_)
    · -- 18 taken
      exact absurd c_18 (pOk_in hp).2
    · -- 18 not taken
      refine lv_aload_n hx hb dX3_partAt_21 rfl (lv_at hl 0 rfl) ?_
      refine qGet (ci := 3) (v := .ref (ad 8)) (C := RX3) (T := TX3) (N := 7) hx hb hts hin3 hown hK hP 0 rfl rfl 0 (by decide) (hts (.fieldLink RX3 13 "PartCurves" "parts" "[LPartCurves$Part;") (by decide +kernel)) rfl dX3_partAt_22 ?_
      refine lv_iload_n hx hb dX3_partAt_25 rfl (lv_at hl 1 rfl) ?_
      refine qQld (v := (ad (10 + ix n))) hx hb hK hP 8 rfl (inR_vp (n := 3) rfl c_6 4 (by decide)) rfl dX3_partAt_26 ?_
      refine lv_goto (tgt := 31) hx hb dX3_partAt_27 (by decide) ?_
      exact qRq (v := (some (ad (10 + ix n)))) hx hb hr hlk hP hK hS dX3_partAt_31 rfl (by first | rfl | simp [c_6, c_18]) (by first | rfl | simp [c_6, c_18])
set_option maxHeartbeats 4000000 in
set_option maxRecDepth 100000 in
theorem kX3_partAt_f (l : Launch) (g : qG) {ad : Nat → Nat} (z : zS) (hj : adInj 15 ad) (n : Int32) (hp : ¬ pOk z n = true) : qMq l yX3_partAt wsX3_partAt 1 g (WX g ad) (adOf 15 ad) z [.ref (ad 0), .int n] none z := by
  refine qStart (cc := cX3_partAt) (maxL := 2) (ret := (some (.object "PartCurves$Part"))) (plainFor_of_name (by decide)) rfl (Nat.le_of_ble_eq_true rfl) ?_
  intro p e s m args below meth c hx hb hml hown hts hr hlk hP hK ls hl
  have hl : lv_has ls 2 [(0, .ref (ad 0)), (1, .int n)] := hl
  have hS : va_S (adOf 15 ad) s.heap s.heap [] := va_S.rf
  have hin1 : ∀ w ∈ u_ws RX1 TX1 12, w ∈ wsX3_partAt := by decide +kernel
  have hin3 : ∀ w ∈ u_ws RX3 TX3 7, w ∈ wsX3_partAt := by decide +kernel
  refine lv_iload_n hx hb dX3_partAt_0 rfl (lv_at hl 1 rfl) ?_
  refine lv_iconst (v := 0) hx hb dX3_partAt_1 rfl ?_
  refine lv_iconst (v := 3) hx hb dX3_partAt_2 rfl ?_
  refine qSi (As := [.int n, .int 0, .int 3]) (rest := []) hx hb hml hown hts (kX3_within l g (Wd := (WX g ad)) (A := (adOf 15 ad)) z n 0 3) gX3_partAt_X3_within rfl 3 hdX3_within rfl ⟨Nat.le_of_ble_eq_true rfl, Nat.le_of_ble_eq_true rfl⟩ ⟨Nat.zero_le _, Nat.zero_le _⟩ hK hP hS (fun _ h => h) hl.1 rfl (Nat.le_of_ble_eq_true rfl) dX3_partAt_3 (fun H locs hP hS => ?_)
  refine lv_if_eq (tgt := 30) hx hb dX3_partAt_6 (by decide) (fun c_6 => ?_) (fun c_6 => ?_)
  · -- 6 taken
    have c_6 := bI_0 c_6
    refine lv_null hx hb dX3_partAt_30 ?_
    exact qRq (v := none) hx hb hr hlk hP hK hS dX3_partAt_31 rfl (by first | rfl | simp [c_6]) (by first | rfl | simp [c_6])
  · -- 6 not taken
    have c_6 := bI_n c_6
    have hn4 : ix n < 4 := (Nat.lt_of_le_of_lt (inR_ix (n := 3) rfl c_6).1 (by decide))
    refine lv_aload_n hx hb dX3_partAt_9 rfl (lv_at hl 0 rfl) ?_
    refine qGet (ci := 3) (v := .ref (ad 8)) (C := RX3) (T := TX3) (N := 7) hx hb hts hin3 hown hK hP 0 rfl rfl 0 (by decide) (hts (.fieldLink RX3 13 "PartCurves" "parts" "[LPartCurves$Part;") (by decide +kernel)) rfl dX3_partAt_10 ?_
    refine lv_iload_n hx hb dX3_partAt_13 rfl (lv_at hl 1 rfl) ?_
    refine qQld (v := (ad (10 + ix n))) hx hb hK hP 8 rfl (inR_vp (n := 3) rfl c_6 4 (by decide)) rfl dX3_partAt_14 ?_
    refine qGet (ci := 1) (v := .int (z (10 + ix n) 0)) (C := RX1) (T := TX1) (N := 12) hx hb hts hin1 hown hK hP (10 + ix n) (WX_p g ad z hn4) rfl 0 (by decide) (hts (.fieldLink RX3 51 "PartCurves$Part" "there" "Z") (by decide +kernel)) rfl dX3_partAt_15 ?_
    refine lv_if_eq (tgt := 30) hx hb dX3_partAt_18 (by decide) (fun c_18 => ?_) (fun c_18 => ?_)
    · -- 18 taken
      refine lv_null hx hb dX3_partAt_30 ?_
      exact qRq (v := none) hx hb hr hlk hP hK hS dX3_partAt_31 rfl (by first | rfl | simp [c_6, c_18]) (by first | rfl | simp [c_6, c_18])
    · -- 18 not taken
      exact absurd (by simp [pOk, c_6, c_18]) hp
set_option maxHeartbeats 4000000 in
set_option maxRecDepth 100000 in
theorem kX3_highAndLowAtOnePinEach (l : Launch) (g : qG) {ad : Nat → Nat} (z : zS) (hj : adInj 15 ad) : qMi l yX3_highAndLowAtOnePinEach wsX3_highAndLowAtOnePinEach 1 g (WX g ad) (adOf 15 ad) z [.ref (ad 0)] (bI (hlB z)) z := by
  refine qStart (cc := cX3_highAndLowAtOnePinEach) (maxL := 1) (ret := (some .boolean)) (plainFor_of_name (by decide)) rfl (Nat.le_of_ble_eq_true rfl) ?_
  intro p e s m args below meth c hx hb hml hown hts hr hlk hP hK ls hl
  have hl : lv_has ls 1 [(0, .ref (ad 0))] := hl
  have hS : va_S (adOf 15 ad) s.heap s.heap [] := va_S.rf
  have hin3 : ∀ w ∈ u_ws RX3 TX3 7, w ∈ wsX3_highAndLowAtOnePinEach := by decide +kernel
  refine lv_aload_n hx hb dX3_highAndLowAtOnePinEach_0 rfl (lv_at hl 0 rfl) ?_
  refine qGet (ci := 3) (v := .ref (ad 1)) (C := RX3) (T := TX3) (N := 7) hx hb hts hin3 hown hK hP 0 rfl rfl 1 (by decide) (hts (.fieldLink RX3 17 "PartCurves" "pinSets" "[I") (by decide +kernel)) rfl dX3_highAndLowAtOnePinEach_1 ?_
  refine lv_iconst (v := 0) hx hb dX3_highAndLowAtOnePinEach_4 rfl ?_
  refine qIld (v := (z 1 0)) hx hb hK hP 1 rfl (vp_in_iff.mpr ⟨by decide, by decide⟩) rfl dX3_highAndLowAtOnePinEach_5 ?_
  refine qSi (As := [.int (z 1 0)]) (rest := []) hx hb hml hown hts (kJ6_bitCount l g (Wd := (WX g ad)) (A := (adOf 15 ad)) z (z 1 0)) gX3_highAndLowAtOnePinEach_J6_bitCount_0f7a4 rfl 1 hdJ6_bitCount_0f7a4 rfl ⟨Nat.le_of_ble_eq_true rfl, Nat.le_of_ble_eq_true rfl⟩ ⟨Nat.zero_le _, Nat.zero_le _⟩ hK hP hS (fun _ h => h) hl.1 rfl (Nat.le_of_ble_eq_true rfl) dX3_highAndLowAtOnePinEach_6 (fun H locs hP hS => ?_)
  refine lv_iconst (v := 1) hx hb dX3_highAndLowAtOnePinEach_9 rfl ?_
  refine lv_icmp_ne (tgt := 30) hx hb dX3_highAndLowAtOnePinEach_10 (by decide) (fun c_10 => ?_) (fun c_10 => ?_)
  · -- 10 taken
    refine lv_iconst (v := 0) hx hb dX3_highAndLowAtOnePinEach_30 rfl ?_
    exact qRz hx hb hr hlk rfl hP hK hS dX3_highAndLowAtOnePinEach_31 (by first | rfl | simp [bI, hlB, c_10]) (by first | rfl | simp [bI, hlB, c_10])
  · -- 10 not taken
    refine lv_aload_n hx hb dX3_highAndLowAtOnePinEach_13 rfl (lv_at hl 0 rfl) ?_
    refine qGet (ci := 3) (v := .ref (ad 1)) (C := RX3) (T := TX3) (N := 7) hx hb hts hin3 hown hK hP 0 rfl rfl 1 (by decide) (hts (.fieldLink RX3 17 "PartCurves" "pinSets" "[I") (by decide +kernel)) rfl dX3_highAndLowAtOnePinEach_14 ?_
    refine lv_iconst (v := 1) hx hb dX3_highAndLowAtOnePinEach_17 rfl ?_
    refine qIld (v := (z 1 1)) hx hb hK hP 1 rfl (vp_in_iff.mpr ⟨by decide, by decide⟩) rfl dX3_highAndLowAtOnePinEach_18 ?_
    refine qSi (As := [.int (z 1 1)]) (rest := []) hx hb hml hown hts (kJ6_bitCount l g (Wd := (WX g ad)) (A := (adOf 15 ad)) z (z 1 1)) gX3_highAndLowAtOnePinEach_J6_bitCount_0f7a4 rfl 1 hdJ6_bitCount_0f7a4 rfl ⟨Nat.le_of_ble_eq_true rfl, Nat.le_of_ble_eq_true rfl⟩ ⟨Nat.zero_le _, Nat.zero_le _⟩ hK hP hS (fun _ h => h) hl.1 rfl (Nat.le_of_ble_eq_true rfl) dX3_highAndLowAtOnePinEach_19 (fun H locs hP hS => ?_)
    refine lv_iconst (v := 1) hx hb dX3_highAndLowAtOnePinEach_22 rfl ?_
    refine lv_icmp_ne (tgt := 30) hx hb dX3_highAndLowAtOnePinEach_23 (by decide) (fun c_23 => ?_) (fun c_23 => ?_)
    · -- 23 taken
      refine lv_iconst (v := 0) hx hb dX3_highAndLowAtOnePinEach_30 rfl ?_
      exact qRz hx hb hr hlk rfl hP hK hS dX3_highAndLowAtOnePinEach_31 (by first | rfl | simp [bI, hlB, c_10, c_23]) (by first | rfl | simp [bI, hlB, c_10, c_23])
    · -- 23 not taken
      refine lv_iconst (v := 1) hx hb dX3_highAndLowAtOnePinEach_26 rfl ?_
      refine lv_goto (tgt := 31) hx hb dX3_highAndLowAtOnePinEach_27 (by decide) ?_
      exact qRz hx hb hr hlk rfl hP hK hS dX3_highAndLowAtOnePinEach_31 (by first | rfl | simp [bI, hlB, c_10, c_23]) (by first | rfl | simp [bI, hlB, c_10, c_23])
set_option maxHeartbeats 4000000 in
set_option maxRecDepth 100000 in
theorem kX3_fourWires (l : Launch) (g : qG) {ad : Nat → Nat} (z : zS) (hj : adInj 15 ad) : qMi l yX3_fourWires wsX3_fourWires 2 g (WX g ad) (adOf 15 ad) z [.ref (ad 0)] (bI (fourB z)) z := by
  refine qStart (cc := cX3_fourWires) (maxL := 1) (ret := (some .boolean)) (plainFor_of_name (by decide)) rfl (Nat.le_of_ble_eq_true rfl) ?_
  intro p e s m args below meth c hx hb hml hown hts hr hlk hP hK ls hl
  have hl : lv_has ls 1 [(0, .ref (ad 0))] := hl
  have hS : va_S (adOf 15 ad) s.heap s.heap [] := va_S.rf
  have hin3 : ∀ w ∈ u_ws RX3 TX3 7, w ∈ wsX3_fourWires := by decide +kernel
  refine lv_aload_n hx hb dX3_fourWires_0 rfl (lv_at hl 0 rfl) ?_
  refine qVi (As := []) (rest := []) hx hb hml hown hts (kX3_highAndLowAtOnePinEach l g z hj) gX3_fourWires_X3_highAndLowAtOnePinEach rfl 0 hdX3_highAndLowAtOnePinEach rfl ⟨Nat.le_of_ble_eq_true rfl, Nat.le_of_ble_eq_true rfl⟩ ⟨Nat.zero_le _, Nat.zero_le _⟩ hK hP hS (fun _ h => h) 0 3 rfl rfl rfl hl.1 rfl (Nat.le_of_ble_eq_true rfl) dX3_fourWires_1 (fun H locs hP hS => ?_)
  refine lv_if_eq (tgt := 41) hx hb dX3_fourWires_4 (by decide) (fun c_4 => ?_) (fun c_4 => ?_)
  · -- 4 taken
    have c_4 := bI_0 c_4
    refine lv_iconst (v := 0) hx hb dX3_fourWires_41 rfl ?_
    exact qRz hx hb hr hlk rfl hP hK hS dX3_fourWires_42 (by first | rfl | simp [bI, fourB, c_4]) (by first | rfl | simp [bI, fourB, c_4])
  · -- 4 not taken
    have c_4 := bI_n c_4
    refine lv_aload_n hx hb dX3_fourWires_7 rfl (lv_at hl 0 rfl) ?_
    refine qGet (ci := 3) (v := .ref (ad 1)) (C := RX3) (T := TX3) (N := 7) hx hb hts hin3 hown hK hP 0 rfl rfl 1 (by decide) (hts (.fieldLink RX3 17 "PartCurves" "pinSets" "[I") (by decide +kernel)) rfl dX3_fourWires_8 ?_
    refine lv_iconst (v := 2) hx hb dX3_fourWires_11 rfl ?_
    refine qIld (v := (z 1 2)) hx hb hK hP 1 rfl (vp_in_iff.mpr ⟨by decide, by decide⟩) rfl dX3_fourWires_12 ?_
    refine lv_aload_n hx hb dX3_fourWires_13 rfl (lv_at hl 0 rfl) ?_
    refine qGet (ci := 3) (v := .ref (ad 1)) (C := RX3) (T := TX3) (N := 7) hx hb hts hin3 hown hK hP 0 rfl rfl 1 (by decide) (hts (.fieldLink RX3 17 "PartCurves" "pinSets" "[I") (by decide +kernel)) rfl dX3_fourWires_14 ?_
    refine lv_iconst (v := 0) hx hb dX3_fourWires_17 rfl ?_
    refine qIld (v := (z 1 0)) hx hb hK hP 1 rfl (vp_in_iff.mpr ⟨by decide, by decide⟩) rfl dX3_fourWires_18 ?_
    refine lv_icmp_ne (tgt := 41) hx hb dX3_fourWires_19 (by decide) (fun c_19 => ?_) (fun c_19 => ?_)
    · -- 19 taken
      refine lv_iconst (v := 0) hx hb dX3_fourWires_41 rfl ?_
      exact qRz hx hb hr hlk rfl hP hK hS dX3_fourWires_42 (by first | rfl | simp [bI, fourB, c_4, c_19]) (by first | rfl | simp [bI, fourB, c_4, c_19])
    · -- 19 not taken
      refine lv_aload_n hx hb dX3_fourWires_22 rfl (lv_at hl 0 rfl) ?_
      refine qGet (ci := 3) (v := .ref (ad 1)) (C := RX3) (T := TX3) (N := 7) hx hb hts hin3 hown hK hP 0 rfl rfl 1 (by decide) (hts (.fieldLink RX3 17 "PartCurves" "pinSets" "[I") (by decide +kernel)) rfl dX3_fourWires_23 ?_
      refine lv_iconst (v := 3) hx hb dX3_fourWires_26 rfl ?_
      refine qIld (v := (z 1 3)) hx hb hK hP 1 rfl (vp_in_iff.mpr ⟨by decide, by decide⟩) rfl dX3_fourWires_27 ?_
      refine lv_aload_n hx hb dX3_fourWires_28 rfl (lv_at hl 0 rfl) ?_
      refine qGet (ci := 3) (v := .ref (ad 1)) (C := RX3) (T := TX3) (N := 7) hx hb hts hin3 hown hK hP 0 rfl rfl 1 (by decide) (hts (.fieldLink RX3 17 "PartCurves" "pinSets" "[I") (by decide +kernel)) rfl dX3_fourWires_29 ?_
      refine lv_iconst (v := 1) hx hb dX3_fourWires_32 rfl ?_
      refine qIld (v := (z 1 1)) hx hb hK hP 1 rfl (vp_in_iff.mpr ⟨by decide, by decide⟩) rfl dX3_fourWires_33 ?_
      refine lv_icmp_ne (tgt := 41) hx hb dX3_fourWires_34 (by decide) (fun c_34 => ?_) (fun c_34 => ?_)
      · -- 34 taken
        refine lv_iconst (v := 0) hx hb dX3_fourWires_41 rfl ?_
        exact qRz hx hb hr hlk rfl hP hK hS dX3_fourWires_42 (by first | rfl | simp [bI, fourB, c_4, c_19, c_34]) (by first | rfl | simp [bI, fourB, c_4, c_19, c_34])
      · -- 34 not taken
        refine lv_iconst (v := 1) hx hb dX3_fourWires_37 rfl ?_
        refine lv_goto (tgt := 42) hx hb dX3_fourWires_38 (by decide) ?_
        exact qRz hx hb hr hlk rfl hP hK hS dX3_fourWires_42 (by first | rfl | simp [bI, fourB, c_4, c_19, c_34]) (by first | rfl | simp [bI, fourB, c_4, c_19, c_34])
set_option maxHeartbeats 4000000 in
set_option maxRecDepth 100000 in
theorem kX3_wouldShort (l : Launch) (g : qG) {ad : Nat → Nat} (z : zS) (hj : adInj 15 ad) (t q : Int32) : qMi l yX3_wouldShort wsX3_wouldShort 0 g (WX g ad) (adOf 15 ad) z [.ref (ad 0), .int t, .int q] (bI (shortsB z t q)) z := by
  refine qStart (cc := cX3_wouldShort) (maxL := 3) (ret := (some .boolean)) (plainFor_of_name (by decide)) rfl (Nat.le_of_ble_eq_true rfl) ?_
  intro p e s m args below meth c hx hb hml hown hts hr hlk hP hK ls hl
  have hl : lv_has ls 3 [(0, .ref (ad 0)), (1, .int t), (2, .int q)] := hl
  have hS : va_S (adOf 15 ad) s.heap s.heap [] := va_S.rf
  have hin3 : ∀ w ∈ u_ws RX3 TX3 7, w ∈ wsX3_wouldShort := by decide +kernel
  refine lv_iload_n hx hb dX3_wouldShort_0 rfl (lv_at hl 1 rfl) ?_
  refine lv_if_ne (tgt := 15) hx hb dX3_wouldShort_1 (by decide) (fun c_1 => ?_) (fun c_1 => ?_)
  · -- 1 taken
    refine lv_iload_n hx hb dX3_wouldShort_15 rfl (lv_at hl 1 rfl) ?_
    refine lv_iconst (v := 1) hx hb dX3_wouldShort_16 rfl ?_
    refine lv_icmp_ne (tgt := 35) hx hb dX3_wouldShort_17 (by decide) (fun c_17 => ?_) (fun c_17 => ?_)
    · -- 17 taken
      refine lv_iconst (v := 0) hx hb dX3_wouldShort_35 rfl ?_
      exact qRz hx hb hr hlk rfl hP hK hS dX3_wouldShort_36 (by first | rfl | simp [bI, shortsB, c_1, c_17]) (by first | rfl | simp [bI, shortsB, c_1, c_17])
    · -- 17 not taken
      refine lv_aload_n hx hb dX3_wouldShort_20 rfl (lv_at hl 0 rfl) ?_
      refine qGet (ci := 3) (v := .ref (ad 1)) (C := RX3) (T := TX3) (N := 7) hx hb hts hin3 hown hK hP 0 rfl rfl 1 (by decide) (hts (.fieldLink RX3 17 "PartCurves" "pinSets" "[I") (by decide +kernel)) rfl dX3_wouldShort_21 ?_
      refine lv_iconst (v := 0) hx hb dX3_wouldShort_24 rfl ?_
      refine qIld (v := (z 1 0)) hx hb hK hP 1 rfl (vp_in_iff.mpr ⟨by decide, by decide⟩) rfl dX3_wouldShort_25 ?_
      refine lv_iload_n hx hb dX3_wouldShort_26 rfl (lv_at hl 2 rfl) ?_
      refine lv_iand hx hb dX3_wouldShort_27 ?_
      refine lv_if_eq (tgt := 35) hx hb dX3_wouldShort_28 (by decide) (fun c_28 => ?_) (fun c_28 => ?_)
      · -- 28 taken
        refine lv_iconst (v := 0) hx hb dX3_wouldShort_35 rfl ?_
        exact qRz hx hb hr hlk rfl hP hK hS dX3_wouldShort_36 (by first | rfl | simp [bI, shortsB, c_1, c_17, c_28]) (by first | rfl | simp [bI, shortsB, c_1, c_17, c_28])
      · -- 28 not taken
        refine lv_iconst (v := 1) hx hb dX3_wouldShort_31 rfl ?_
        refine lv_goto (tgt := 36) hx hb dX3_wouldShort_32 (by decide) ?_
        exact qRz hx hb hr hlk rfl hP hK hS dX3_wouldShort_36 (by first | rfl | simp [bI, shortsB, c_1, c_17, c_28]) (by first | rfl | simp [bI, shortsB, c_1, c_17, c_28])
  · -- 1 not taken
    refine lv_aload_n hx hb dX3_wouldShort_4 rfl (lv_at hl 0 rfl) ?_
    refine qGet (ci := 3) (v := .ref (ad 1)) (C := RX3) (T := TX3) (N := 7) hx hb hts hin3 hown hK hP 0 rfl rfl 1 (by decide) (hts (.fieldLink RX3 17 "PartCurves" "pinSets" "[I") (by decide +kernel)) rfl dX3_wouldShort_5 ?_
    refine lv_iconst (v := 1) hx hb dX3_wouldShort_8 rfl ?_
    refine qIld (v := (z 1 1)) hx hb hK hP 1 rfl (vp_in_iff.mpr ⟨by decide, by decide⟩) rfl dX3_wouldShort_9 ?_
    refine lv_iload_n hx hb dX3_wouldShort_10 rfl (lv_at hl 2 rfl) ?_
    refine lv_iand hx hb dX3_wouldShort_11 ?_
    refine lv_if_ne (tgt := 31) hx hb dX3_wouldShort_12 (by decide) (fun c_12 => ?_) (fun c_12 => ?_)
    · -- 12 taken
      refine lv_iconst (v := 1) hx hb dX3_wouldShort_31 rfl ?_
      refine lv_goto (tgt := 36) hx hb dX3_wouldShort_32 (by decide) ?_
      exact qRz hx hb hr hlk rfl hP hK hS dX3_wouldShort_36 (by first | rfl | simp [bI, shortsB, c_1, c_12]) (by first | rfl | simp [bI, shortsB, c_1, c_12])
    · -- 12 not taken
      refine lv_iload_n hx hb dX3_wouldShort_15 rfl (lv_at hl 1 rfl) ?_
      refine lv_iconst (v := 1) hx hb dX3_wouldShort_16 rfl ?_
      refine lv_icmp_ne (tgt := 35) hx hb dX3_wouldShort_17 (by decide) (fun c_17 => ?_) (fun c_17 => ?_)
      · -- 17 taken
        refine lv_iconst (v := 0) hx hb dX3_wouldShort_35 rfl ?_
        exact qRz hx hb hr hlk rfl hP hK hS dX3_wouldShort_36 (by first | rfl | simp [bI, shortsB, c_1, c_12, c_17]) (by first | rfl | simp [bI, shortsB, c_1, c_12, c_17])
      · -- 17 not taken
        exact absurd (c_1.symm.trans c_17) (by decide)
theorem jn_f {z : zS} {p : Nat} (h1 : ¬ (sh (z p 3) = z 1 0 ∧ sh (z p 4) = z 1 1)) (h2 : ¬ (sh (z p 3) = z 1 1 ∧ sh (z p 4) = z 1 0)) : 0 = bI (jnB z p) := by
  have e : jnB z p = false := by
    unfold jnB
    rw [Bool.or_eq_false_iff]
    exact ⟨by simpa using h1, by simpa using h2⟩
  rw [e]; rfl
theorem jn_t {z : zS} {p : Nat} (h : (sh (z p 3) = z 1 0 ∧ sh (z p 4) = z 1 1) ∨ (sh (z p 3) = z 1 1 ∧ sh (z p 4) = z 1 0)) : 1 = bI (jnB z p) := by
  have e : jnB z p = true := by unfold jnB; simpa using h
  rw [e]; rfl
set_option maxHeartbeats 4000000 in
set_option maxRecDepth 100000 in
theorem kX3_joinsHighAndLow (l : Launch) (g : qG) {ad : Nat → Nat} (z : zS) (hj : adInj 15 ad) {i : Nat} (hi : i < 4) : qMi l yX3_joinsHighAndLow wsX3_joinsHighAndLow 0 g (WX g ad) (adOf 15 ad) z [.ref (ad 0), .ref (ad (10 + i))] (bI (jnB z (10 + i))) z := by
  refine qStart (cc := cX3_joinsHighAndLow) (maxL := 4) (ret := (some .boolean)) (plainFor_of_name (by decide)) rfl (Nat.le_of_ble_eq_true rfl) ?_
  intro p e s m args below meth c hx hb hml hown hts hr hlk hP hK ls hl
  have hl : lv_has ls 4 [(0, .ref (ad 0)), (1, .ref (ad (10 + i)))] := hl
  have hS : va_S (adOf 15 ad) s.heap s.heap [] := va_S.rf
  have hin1 : ∀ w ∈ u_ws RX1 TX1 12, w ∈ wsX3_joinsHighAndLow := by decide +kernel
  have hin3 : ∀ w ∈ u_ws RX3 TX3 7, w ∈ wsX3_joinsHighAndLow := by decide +kernel
  refine lv_iconst (v := 1) hx hb dX3_joinsHighAndLow_0 rfl ?_
  refine lv_aload_n hx hb dX3_joinsHighAndLow_1 rfl (lv_at hl 1 rfl) ?_
  refine qGet (ci := 1) (v := .int (z (10 + i) 3)) (C := RX1) (T := TX1) (N := 12) hx hb hts hin1 hown hK hP (10 + i) (WX_p g ad z hi) rfl 3 (by decide) (hts (.fieldLink RX3 74 "PartCurves$Part" "first" "I") (by decide +kernel)) rfl dX3_joinsHighAndLow_2 ?_
  refine lv_ishl hx hb dX3_joinsHighAndLow_5 ?_
  refine lv_istore_n (lv' := [(2, .int (1 <<< ((z (10 + i) 3) &&& 31))), (0, .ref (ad 0)), (1, .ref (ad (10 + i)))]) hx hb dX3_joinsHighAndLow_6 rfl hl (by decide) rfl (fun ls hl => ?_)
  refine lv_iconst (v := 1) hx hb dX3_joinsHighAndLow_7 rfl ?_
  refine lv_aload_n hx hb dX3_joinsHighAndLow_8 rfl (lv_at hl 2 rfl) ?_
  refine qGet (ci := 1) (v := .int (z (10 + i) 4)) (C := RX1) (T := TX1) (N := 12) hx hb hts hin1 hown hK hP (10 + i) (WX_p g ad z hi) rfl 4 (by decide) (hts (.fieldLink RX3 77 "PartCurves$Part" "other" "I") (by decide +kernel)) rfl dX3_joinsHighAndLow_9 ?_
  refine lv_ishl hx hb dX3_joinsHighAndLow_12 ?_
  refine lv_istore_n (lv' := [(3, .int (1 <<< ((z (10 + i) 4) &&& 31))), (2, .int (1 <<< ((z (10 + i) 3) &&& 31))), (0, .ref (ad 0)), (1, .ref (ad (10 + i)))]) hx hb dX3_joinsHighAndLow_13 rfl hl (by decide) rfl (fun ls hl => ?_)
  refine lv_iload_n hx hb dX3_joinsHighAndLow_14 rfl (lv_at hl 1 rfl) ?_
  refine lv_aload_n hx hb dX3_joinsHighAndLow_15 rfl (lv_at hl 2 rfl) ?_
  refine qGet (ci := 3) (v := .ref (ad 1)) (C := RX3) (T := TX3) (N := 7) hx hb hts hin3 hown hK hP 0 rfl rfl 1 (by decide) (hts (.fieldLink RX3 17 "PartCurves" "pinSets" "[I") (by decide +kernel)) rfl dX3_joinsHighAndLow_16 ?_
  refine lv_iconst (v := 0) hx hb dX3_joinsHighAndLow_19 rfl ?_
  refine qIld (v := (z 1 0)) hx hb hK hP 1 rfl (vp_in_iff.mpr ⟨by decide, by decide⟩) rfl dX3_joinsHighAndLow_20 ?_
  refine lv_icmp_ne (tgt := 34) hx hb dX3_joinsHighAndLow_21 (by decide) (fun c_21 => ?_) (fun c_21 => ?_)
  · -- 21 taken
    refine lv_iload_n hx hb dX3_joinsHighAndLow_34 rfl (lv_at hl 1 rfl) ?_
    refine lv_aload_n hx hb dX3_joinsHighAndLow_35 rfl (lv_at hl 2 rfl) ?_
    refine qGet (ci := 3) (v := .ref (ad 1)) (C := RX3) (T := TX3) (N := 7) hx hb hts hin3 hown hK hP 0 rfl rfl 1 (by decide) (hts (.fieldLink RX3 17 "PartCurves" "pinSets" "[I") (by decide +kernel)) rfl dX3_joinsHighAndLow_36 ?_
    refine lv_iconst (v := 1) hx hb dX3_joinsHighAndLow_39 rfl ?_
    refine qIld (v := (z 1 1)) hx hb hK hP 1 rfl (vp_in_iff.mpr ⟨by decide, by decide⟩) rfl dX3_joinsHighAndLow_40 ?_
    refine lv_icmp_ne (tgt := 58) hx hb dX3_joinsHighAndLow_41 (by decide) (fun c_41 => ?_) (fun c_41 => ?_)
    · -- 41 taken
      refine lv_iconst (v := 0) hx hb dX3_joinsHighAndLow_58 rfl ?_
      exact qRz hx hb hr hlk rfl hP hK hS dX3_joinsHighAndLow_59 (jn_f (by first | exact fun h => c_21 h.1 | exact fun h => c_31 h.2) (by first | exact fun h => c_41 h.1 | exact fun h => c_51 h.2)) rfl
    · -- 41 not taken
      refine lv_iload_n hx hb dX3_joinsHighAndLow_44 rfl (lv_at hl 0 rfl) ?_
      refine lv_aload_n hx hb dX3_joinsHighAndLow_45 rfl (lv_at hl 2 rfl) ?_
      refine qGet (ci := 3) (v := .ref (ad 1)) (C := RX3) (T := TX3) (N := 7) hx hb hts hin3 hown hK hP 0 rfl rfl 1 (by decide) (hts (.fieldLink RX3 17 "PartCurves" "pinSets" "[I") (by decide +kernel)) rfl dX3_joinsHighAndLow_46 ?_
      refine lv_iconst (v := 0) hx hb dX3_joinsHighAndLow_49 rfl ?_
      refine qIld (v := (z 1 0)) hx hb hK hP 1 rfl (vp_in_iff.mpr ⟨by decide, by decide⟩) rfl dX3_joinsHighAndLow_50 ?_
      refine lv_icmp_ne (tgt := 58) hx hb dX3_joinsHighAndLow_51 (by decide) (fun c_51 => ?_) (fun c_51 => ?_)
      · -- 51 taken
        refine lv_iconst (v := 0) hx hb dX3_joinsHighAndLow_58 rfl ?_
        exact qRz hx hb hr hlk rfl hP hK hS dX3_joinsHighAndLow_59 (jn_f (by first | exact fun h => c_21 h.1 | exact fun h => c_31 h.2) (by first | exact fun h => c_41 h.1 | exact fun h => c_51 h.2)) rfl
      · -- 51 not taken
        refine lv_iconst (v := 1) hx hb dX3_joinsHighAndLow_54 rfl ?_
        refine lv_goto (tgt := 59) hx hb dX3_joinsHighAndLow_55 (by decide) ?_
        exact qRz hx hb hr hlk rfl hP hK hS dX3_joinsHighAndLow_59 (jn_t (by first | exact Or.inl ⟨c_21, c_31⟩ | exact Or.inr ⟨c_41, c_51⟩)) rfl
  · -- 21 not taken
    refine lv_iload_n hx hb dX3_joinsHighAndLow_24 rfl (lv_at hl 0 rfl) ?_
    refine lv_aload_n hx hb dX3_joinsHighAndLow_25 rfl (lv_at hl 2 rfl) ?_
    refine qGet (ci := 3) (v := .ref (ad 1)) (C := RX3) (T := TX3) (N := 7) hx hb hts hin3 hown hK hP 0 rfl rfl 1 (by decide) (hts (.fieldLink RX3 17 "PartCurves" "pinSets" "[I") (by decide +kernel)) rfl dX3_joinsHighAndLow_26 ?_
    refine lv_iconst (v := 1) hx hb dX3_joinsHighAndLow_29 rfl ?_
    refine qIld (v := (z 1 1)) hx hb hK hP 1 rfl (vp_in_iff.mpr ⟨by decide, by decide⟩) rfl dX3_joinsHighAndLow_30 ?_
    refine lv_icmp_eq (tgt := 54) hx hb dX3_joinsHighAndLow_31 (by decide) (fun c_31 => ?_) (fun c_31 => ?_)
    · -- 31 taken
      refine lv_iconst (v := 1) hx hb dX3_joinsHighAndLow_54 rfl ?_
      refine lv_goto (tgt := 59) hx hb dX3_joinsHighAndLow_55 (by decide) ?_
      exact qRz hx hb hr hlk rfl hP hK hS dX3_joinsHighAndLow_59 (jn_t (by first | exact Or.inl ⟨c_21, c_31⟩ | exact Or.inr ⟨c_41, c_51⟩)) rfl
    · -- 31 not taken
      refine lv_iload_n hx hb dX3_joinsHighAndLow_34 rfl (lv_at hl 1 rfl) ?_
      refine lv_aload_n hx hb dX3_joinsHighAndLow_35 rfl (lv_at hl 2 rfl) ?_
      refine qGet (ci := 3) (v := .ref (ad 1)) (C := RX3) (T := TX3) (N := 7) hx hb hts hin3 hown hK hP 0 rfl rfl 1 (by decide) (hts (.fieldLink RX3 17 "PartCurves" "pinSets" "[I") (by decide +kernel)) rfl dX3_joinsHighAndLow_36 ?_
      refine lv_iconst (v := 1) hx hb dX3_joinsHighAndLow_39 rfl ?_
      refine qIld (v := (z 1 1)) hx hb hK hP 1 rfl (vp_in_iff.mpr ⟨by decide, by decide⟩) rfl dX3_joinsHighAndLow_40 ?_
      refine lv_icmp_ne (tgt := 58) hx hb dX3_joinsHighAndLow_41 (by decide) (fun c_41 => ?_) (fun c_41 => ?_)
      · -- 41 taken
        refine lv_iconst (v := 0) hx hb dX3_joinsHighAndLow_58 rfl ?_
        exact qRz hx hb hr hlk rfl hP hK hS dX3_joinsHighAndLow_59 (jn_f (by first | exact fun h => c_21 h.1 | exact fun h => c_31 h.2) (by first | exact fun h => c_41 h.1 | exact fun h => c_51 h.2)) rfl
      · -- 41 not taken
        refine lv_iload_n hx hb dX3_joinsHighAndLow_44 rfl (lv_at hl 0 rfl) ?_
        refine lv_aload_n hx hb dX3_joinsHighAndLow_45 rfl (lv_at hl 2 rfl) ?_
        refine qGet (ci := 3) (v := .ref (ad 1)) (C := RX3) (T := TX3) (N := 7) hx hb hts hin3 hown hK hP 0 rfl rfl 1 (by decide) (hts (.fieldLink RX3 17 "PartCurves" "pinSets" "[I") (by decide +kernel)) rfl dX3_joinsHighAndLow_46 ?_
        refine lv_iconst (v := 0) hx hb dX3_joinsHighAndLow_49 rfl ?_
        refine qIld (v := (z 1 0)) hx hb hK hP 1 rfl (vp_in_iff.mpr ⟨by decide, by decide⟩) rfl dX3_joinsHighAndLow_50 ?_
        refine lv_icmp_ne (tgt := 58) hx hb dX3_joinsHighAndLow_51 (by decide) (fun c_51 => ?_) (fun c_51 => ?_)
        · -- 51 taken
          refine lv_iconst (v := 0) hx hb dX3_joinsHighAndLow_58 rfl ?_
          exact qRz hx hb hr hlk rfl hP hK hS dX3_joinsHighAndLow_59 (jn_f (by first | exact fun h => c_21 h.1 | exact fun h => c_31 h.2) (by first | exact fun h => c_41 h.1 | exact fun h => c_51 h.2)) rfl
        · -- 51 not taken
          refine lv_iconst (v := 1) hx hb dX3_joinsHighAndLow_54 rfl ?_
          refine lv_goto (tgt := 59) hx hb dX3_joinsHighAndLow_55 (by decide) ?_
          exact qRz hx hb hr hlk rfl hP hK hS dX3_joinsHighAndLow_59 (jn_t (by first | exact Or.inl ⟨c_21, c_31⟩ | exact Or.inr ⟨c_41, c_51⟩)) rfl
