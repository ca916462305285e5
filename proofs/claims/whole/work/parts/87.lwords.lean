theorem li_L : Cond.initialized RL ∈ WG := wg_of 43 (by decide +kernel) (by decide +kernel)
theorem xl_IA : Cond.classLink RL 13 "java/lang/IllegalArgumentException" ∈ WG := wg_of 228 (by decide +kernel) (by decide +kernel)
theorem xc_IA : Cond.castable "java/lang/IllegalArgumentException" "java/lang/IllegalArgumentException" ∈ OW := ow_of 239 (by decide +kernel) (by decide +kernel)
theorem xn_IA : "java/lang/IllegalArgumentException" ∈ ncX := by decide +kernel
theorem xl_IS : Cond.classLink RL 15 "java/lang/IllegalStateException" ∈ WG := wg_of 229 (by decide +kernel) (by decide +kernel)
theorem xc_IS : Cond.castable "java/lang/IllegalStateException" "java/lang/IllegalStateException" ∈ OW := ow_of 308 (by decide +kernel) (by decide +kernel)
theorem xn_IS : "java/lang/IllegalStateException" ∈ ncX := by decide +kernel
theorem xl_IB : Cond.classLink RL 28 "java/lang/IndexOutOfBoundsException" ∈ WG := wg_of 441 (by decide +kernel) (by decide +kernel)
theorem xc_IB : Cond.castable "java/lang/IndexOutOfBoundsException" "java/lang/IndexOutOfBoundsException" ∈ OW := ow_of 456 (by decide +kernel) (by decide +kernel)
theorem xn_IB : "java/lang/IndexOutOfBoundsException" ∈ ncX := by decide +kernel
theorem xl_NS : Cond.classLink RL 65 ns_C ∈ WG := wg_of 585 (by decide +kernel) (by decide +kernel)
theorem xc_NS : Cond.castable ns_C ns_C ∈ OW := ow_of 592 (by decide +kernel) (by decide +kernel)
theorem xn_NS : ns_C ∈ ncX := by decide +kernel
abbrev hL_addPier : List (Nat × Nat × Nat × Nat) := [(0, 16, 19, 13), (0, 16, 23, 15)]
theorem mw_addPier : Cond.codeWith yL_addPier cL_addPier 8 (some .int) hL_addPier ∈ WG ∧ Cond.initialized yL_addPier.cls ∈ WG ∧ yL_addPier.cls ≠ "java/lang/invoke/MethodHandle" ∧ yL_addPier.cls ≠ "java/lang/invoke/VarHandle" ∧ (parseMethodDescriptor yL_addPier.desc).map (fun d => d.parameters.length) = some 7 := ⟨wg_of 227 (by decide +kernel) (by decide +kernel), li_L, by decide, by decide, by decide +kernel⟩
theorem sw_addPier : Cond.static yL_addPier ∈ WG := wg_of 226 (by decide +kernel) (by decide +kernel)
abbrev hL_passDays : List (Nat × Nat × Nat × Nat) := [(0, 9, 12, 13)]
theorem mw_passDays : Cond.codeWith yL_passDays cL_passDays 4 (some .int) hL_passDays ∈ WG ∧ Cond.initialized yL_passDays.cls ∈ WG ∧ yL_passDays.cls ≠ "java/lang/invoke/MethodHandle" ∧ yL_passDays.cls ≠ "java/lang/invoke/VarHandle" ∧ (parseMethodDescriptor yL_passDays.desc).map (fun d => d.parameters.length) = some 3 := ⟨wg_of 409 (by decide +kernel) (by decide +kernel), li_L, by decide, by decide, by decide +kernel⟩
theorem sw_passDays : Cond.static yL_passDays ∈ WG := wg_of 408 (by decide +kernel) (by decide +kernel)
abbrev hL_moonAge : List (Nat × Nat × Nat × Nat) := [(0, 9, 12, 13)]
theorem mw_moonAge : Cond.codeWith yL_moonAge cL_moonAge 4 (some .int) hL_moonAge ∈ WG ∧ Cond.initialized yL_moonAge.cls ∈ WG ∧ yL_moonAge.cls ≠ "java/lang/invoke/MethodHandle" ∧ yL_moonAge.cls ≠ "java/lang/invoke/VarHandle" ∧ (parseMethodDescriptor yL_moonAge.desc).map (fun d => d.parameters.length) = some 3 := ⟨wg_of 428 (by decide +kernel) (by decide +kernel), li_L, by decide, by decide, by decide +kernel⟩
theorem sw_moonAge : Cond.static yL_moonAge ∈ WG := wg_of 427 (by decide +kernel) (by decide +kernel)
abbrev hL_rangeOf : List (Nat × Nat × Nat × Nat) := [(0, 10, 13, 28), (0, 10, 17, 13)]
theorem mw_rangeOf : Cond.codeWith yL_rangeOf cL_rangeOf 5 (some .int) hL_rangeOf ∈ WG ∧ Cond.initialized yL_rangeOf.cls ∈ WG ∧ yL_rangeOf.cls ≠ "java/lang/invoke/MethodHandle" ∧ yL_rangeOf.cls ≠ "java/lang/invoke/VarHandle" ∧ (parseMethodDescriptor yL_rangeOf.desc).map (fun d => d.parameters.length) = some 4 := ⟨wg_of 440 (by decide +kernel) (by decide +kernel), li_L, by decide, by decide, by decide +kernel⟩
theorem sw_rangeOf : Cond.static yL_rangeOf ∈ WG := wg_of 439 (by decide +kernel) (by decide +kernel)
abbrev hL_waterCount : List (Nat × Nat × Nat × Nat) := [(0, 10, 13, 28), (0, 10, 17, 13)]
theorem mw_waterCount : Cond.codeWith yL_waterCount cL_waterCount 5 (some .int) hL_waterCount ∈ WG ∧ Cond.initialized yL_waterCount.cls ∈ WG ∧ yL_waterCount.cls ≠ "java/lang/invoke/MethodHandle" ∧ yL_waterCount.cls ≠ "java/lang/invoke/VarHandle" ∧ (parseMethodDescriptor yL_waterCount.desc).map (fun d => d.parameters.length) = some 4 := ⟨wg_of 473 (by decide +kernel) (by decide +kernel), li_L, by decide, by decide, by decide +kernel⟩
theorem sw_waterCount : Cond.static yL_waterCount ∈ WG := wg_of 472 (by decide +kernel) (by decide +kernel)
abbrev hL_waterMinute : List (Nat × Nat × Nat × Nat) := [(0, 12, 15, 13), (0, 12, 19, 28)]
theorem mw_waterMinute : Cond.codeWith yL_waterMinute cL_waterMinute 6 (some .int) hL_waterMinute ∈ WG ∧ Cond.initialized yL_waterMinute.cls ∈ WG ∧ yL_waterMinute.cls ≠ "java/lang/invoke/MethodHandle" ∧ yL_waterMinute.cls ≠ "java/lang/invoke/VarHandle" ∧ (parseMethodDescriptor yL_waterMinute.desc).map (fun d => d.parameters.length) = some 5 := ⟨wg_of 480 (by decide +kernel) (by decide +kernel), li_L, by decide, by decide, by decide +kernel⟩
theorem sw_waterMinute : Cond.static yL_waterMinute ∈ WG := wg_of 479 (by decide +kernel) (by decide +kernel)
abbrev hL_waterHeight : List (Nat × Nat × Nat × Nat) := [(0, 12, 15, 13), (0, 12, 19, 28)]
theorem mw_waterHeight : Cond.codeWith yL_waterHeight cL_waterHeight 6 (some .int) hL_waterHeight ∈ WG ∧ Cond.initialized yL_waterHeight.cls ∈ WG ∧ yL_waterHeight.cls ≠ "java/lang/invoke/MethodHandle" ∧ yL_waterHeight.cls ≠ "java/lang/invoke/VarHandle" ∧ (parseMethodDescriptor yL_waterHeight.desc).map (fun d => d.parameters.length) = some 5 := ⟨wg_of 492 (by decide +kernel) (by decide +kernel), li_L, by decide, by decide, by decide +kernel⟩
theorem sw_waterHeight : Cond.static yL_waterHeight ∈ WG := wg_of 491 (by decide +kernel) (by decide +kernel)
abbrev hL_isHighWater : List (Nat × Nat × Nat × Nat) := [(0, 19, 22, 13), (0, 19, 26, 28)]
theorem mw_isHighWater : Cond.codeWith yL_isHighWater cL_isHighWater 6 (some .int) hL_isHighWater ∈ WG ∧ Cond.initialized yL_isHighWater.cls ∈ WG ∧ yL_isHighWater.cls ≠ "java/lang/invoke/MethodHandle" ∧ yL_isHighWater.cls ≠ "java/lang/invoke/VarHandle" ∧ (parseMethodDescriptor yL_isHighWater.desc).map (fun d => d.parameters.length) = some 5 := ⟨wg_of 499 (by decide +kernel) (by decide +kernel), li_L, by decide, by decide, by decide +kernel⟩
theorem sw_isHighWater : Cond.static yL_isHighWater ∈ WG := wg_of 498 (by decide +kernel) (by decide +kernel)
abbrev hL_minutesToHighWater : List (Nat × Nat × Nat × Nat) := [(0, 12, 15, 28), (0, 12, 19, 13)]
theorem mw_minutesToHighWater : Cond.codeWith yL_minutesToHighWater cL_minutesToHighWater 6 (some .int) hL_minutesToHighWater ∈ WG ∧ Cond.initialized yL_minutesToHighWater.cls ∈ WG ∧ yL_minutesToHighWater.cls ≠ "java/lang/invoke/MethodHandle" ∧ yL_minutesToHighWater.cls ≠ "java/lang/invoke/VarHandle" ∧ (parseMethodDescriptor yL_minutesToHighWater.desc).map (fun d => d.parameters.length) = some 5 := ⟨wg_of 506 (by decide +kernel) (by decide +kernel), li_L, by decide, by decide, by decide +kernel⟩
theorem sw_minutesToHighWater : Cond.static yL_minutesToHighWater ∈ WG := wg_of 505 (by decide +kernel) (by decide +kernel)
abbrev hL_report : List (Nat × Nat × Nat × Nat) := [(0, 12, 15, 28), (0, 12, 19, 13)]
theorem mw_report : Cond.codeWith yL_report cL_report 6 (some .int) hL_report ∈ WG ∧ Cond.initialized yL_report.cls ∈ WG ∧ yL_report.cls ≠ "java/lang/invoke/MethodHandle" ∧ yL_report.cls ≠ "java/lang/invoke/VarHandle" ∧ (parseMethodDescriptor yL_report.desc).map (fun d => d.parameters.length) = some 5 := ⟨wg_of 514 (by decide +kernel) (by decide +kernel), li_L, by decide, by decide, by decide +kernel⟩
theorem sw_report : Cond.static yL_report ∈ WG := wg_of 513 (by decide +kernel) (by decide +kernel)
abbrev hL_observe : List (Nat × Nat × Nat × Nat) := [(0, 10, 13, 28), (0, 10, 17, 13)]
theorem mw_observe : Cond.codeWith yL_observe cL_observe 5 (some .int) hL_observe ∈ WG ∧ Cond.initialized yL_observe.cls ∈ WG ∧ yL_observe.cls ≠ "java/lang/invoke/MethodHandle" ∧ yL_observe.cls ≠ "java/lang/invoke/VarHandle" ∧ (parseMethodDescriptor yL_observe.desc).map (fun d => d.parameters.length) = some 4 := ⟨wg_of 541 (by decide +kernel) (by decide +kernel), li_L, by decide, by decide, by decide +kernel⟩
theorem sw_observe : Cond.static yL_observe ∈ WG := wg_of 540 (by decide +kernel) (by decide +kernel)
abbrev hL_correctionOf : List (Nat × Nat × Nat × Nat) := [(0, 9, 12, 28)]
theorem mw_correctionOf : Cond.codeWith yL_correctionOf cL_correctionOf 4 (some .int) hL_correctionOf ∈ WG ∧ Cond.initialized yL_correctionOf.cls ∈ WG ∧ yL_correctionOf.cls ≠ "java/lang/invoke/MethodHandle" ∧ yL_correctionOf.cls ≠ "java/lang/invoke/VarHandle" ∧ (parseMethodDescriptor yL_correctionOf.desc).map (fun d => d.parameters.length) = some 3 := ⟨wg_of 563 (by decide +kernel) (by decide +kernel), li_L, by decide, by decide, by decide +kernel⟩
theorem sw_correctionOf : Cond.static yL_correctionOf ∈ WG := wg_of 562 (by decide +kernel) (by decide +kernel)
abbrev hL_trustOf : List (Nat × Nat × Nat × Nat) := [(0, 9, 12, 28)]
theorem mw_trustOf : Cond.codeWith yL_trustOf cL_trustOf 4 (some .int) hL_trustOf ∈ WG ∧ Cond.initialized yL_trustOf.cls ∈ WG ∧ yL_trustOf.cls ≠ "java/lang/invoke/MethodHandle" ∧ yL_trustOf.cls ≠ "java/lang/invoke/VarHandle" ∧ (parseMethodDescriptor yL_trustOf.desc).map (fun d => d.parameters.length) = some 3 := ⟨wg_of 570 (by decide +kernel) (by decide +kernel), li_L, by decide, by decide, by decide +kernel⟩
theorem sw_trustOf : Cond.static yL_trustOf ∈ WG := wg_of 569 (by decide +kernel) (by decide +kernel)
abbrev hL_reportCount : List (Nat × Nat × Nat × Nat) := [(0, 9, 12, 28)]
theorem mw_reportCount : Cond.codeWith yL_reportCount cL_reportCount 4 (some .int) hL_reportCount ∈ WG ∧ Cond.initialized yL_reportCount.cls ∈ WG ∧ yL_reportCount.cls ≠ "java/lang/invoke/MethodHandle" ∧ yL_reportCount.cls ≠ "java/lang/invoke/VarHandle" ∧ (parseMethodDescriptor yL_reportCount.desc).map (fun d => d.parameters.length) = some 3 := ⟨wg_of 577 (by decide +kernel) (by decide +kernel), li_L, by decide, by decide, by decide +kernel⟩
theorem sw_reportCount : Cond.static yL_reportCount ∈ WG := wg_of 576 (by decide +kernel) (by decide +kernel)
abbrev hL_reporterAt : List (Nat × Nat × Nat × Nat) := [(0, 10, 13, 28), (0, 10, 17, 65)]
theorem mw_reporterAt : Cond.codeWith yL_reporterAt cL_reporterAt 5 (some .int) hL_reporterAt ∈ WG ∧ Cond.initialized yL_reporterAt.cls ∈ WG ∧ yL_reporterAt.cls ≠ "java/lang/invoke/MethodHandle" ∧ yL_reporterAt.cls ≠ "java/lang/invoke/VarHandle" ∧ (parseMethodDescriptor yL_reporterAt.desc).map (fun d => d.parameters.length) = some 4 := ⟨wg_of 584 (by decide +kernel) (by decide +kernel), li_L, by decide, by decide, by decide +kernel⟩
theorem sw_reporterAt : Cond.static yL_reporterAt ∈ WG := wg_of 583 (by decide +kernel) (by decide +kernel)
abbrev hL_reportedMinutes : List (Nat × Nat × Nat × Nat) := [(0, 10, 13, 28), (0, 10, 17, 65)]
theorem mw_reportedMinutes : Cond.codeWith yL_reportedMinutes cL_reportedMinutes 5 (some .int) hL_reportedMinutes ∈ WG ∧ Cond.initialized yL_reportedMinutes.cls ∈ WG ∧ yL_reportedMinutes.cls ≠ "java/lang/invoke/MethodHandle" ∧ yL_reportedMinutes.cls ≠ "java/lang/invoke/VarHandle" ∧ (parseMethodDescriptor yL_reportedMinutes.desc).map (fun d => d.parameters.length) = some 4 := ⟨wg_of 608 (by decide +kernel) (by decide +kernel), li_L, by decide, by decide, by decide +kernel⟩
theorem sw_reportedMinutes : Cond.static yL_reportedMinutes ∈ WG := wg_of 607 (by decide +kernel) (by decide +kernel)
abbrev hL_reportAge : List (Nat × Nat × Nat × Nat) := [(0, 10, 13, 28), (0, 10, 17, 65)]
theorem mw_reportAge : Cond.codeWith yL_reportAge cL_reportAge 5 (some .int) hL_reportAge ∈ WG ∧ Cond.initialized yL_reportAge.cls ∈ WG ∧ yL_reportAge.cls ≠ "java/lang/invoke/MethodHandle" ∧ yL_reportAge.cls ≠ "java/lang/invoke/VarHandle" ∧ (parseMethodDescriptor yL_reportAge.desc).map (fun d => d.parameters.length) = some 4 := ⟨wg_of 620 (by decide +kernel) (by decide +kernel), li_L, by decide, by decide, by decide +kernel⟩
theorem sw_reportAge : Cond.static yL_reportAge ∈ WG := wg_of 619 (by decide +kernel) (by decide +kernel)
abbrev hL_deliverTin : List (Nat × Nat × Nat × Nat) := [(0, 10, 13, 13), (0, 10, 17, 15)]
theorem mw_deliverTin : Cond.codeWith yL_deliverTin cL_deliverTin 5 (some .int) hL_deliverTin ∈ WG ∧ Cond.initialized yL_deliverTin.cls ∈ WG ∧ yL_deliverTin.cls ≠ "java/lang/invoke/MethodHandle" ∧ yL_deliverTin.cls ≠ "java/lang/invoke/VarHandle" ∧ (parseMethodDescriptor yL_deliverTin.desc).map (fun d => d.parameters.length) = some 4 := ⟨wg_of 627 (by decide +kernel) (by decide +kernel), li_L, by decide, by decide, by decide +kernel⟩
theorem sw_deliverTin : Cond.static yL_deliverTin ∈ WG := wg_of 626 (by decide +kernel) (by decide +kernel)
abbrev hL_tinCount : List (Nat × Nat × Nat × Nat) := [(0, 9, 12, 13)]
theorem mw_tinCount : Cond.codeWith yL_tinCount cL_tinCount 4 (some .int) hL_tinCount ∈ WG ∧ Cond.initialized yL_tinCount.cls ∈ WG ∧ yL_tinCount.cls ≠ "java/lang/invoke/MethodHandle" ∧ yL_tinCount.cls ≠ "java/lang/invoke/VarHandle" ∧ (parseMethodDescriptor yL_tinCount.desc).map (fun d => d.parameters.length) = some 3 := ⟨wg_of 643 (by decide +kernel) (by decide +kernel), li_L, by decide, by decide, by decide +kernel⟩
theorem sw_tinCount : Cond.static yL_tinCount ∈ WG := wg_of 642 (by decide +kernel) (by decide +kernel)
abbrev hL_paintLeft : List (Nat × Nat × Nat × Nat) := [(0, 9, 12, 13)]
theorem mw_paintLeft : Cond.codeWith yL_paintLeft cL_paintLeft 4 (some .int) hL_paintLeft ∈ WG ∧ Cond.initialized yL_paintLeft.cls ∈ WG ∧ yL_paintLeft.cls ≠ "java/lang/invoke/MethodHandle" ∧ yL_paintLeft.cls ≠ "java/lang/invoke/VarHandle" ∧ (parseMethodDescriptor yL_paintLeft.desc).map (fun d => d.parameters.length) = some 3 := ⟨wg_of 650 (by decide +kernel) (by decide +kernel), li_L, by decide, by decide, by decide +kernel⟩
theorem sw_paintLeft : Cond.static yL_paintLeft ∈ WG := wg_of 649 (by decide +kernel) (by decide +kernel)
abbrev hL_oldestTin : List (Nat × Nat × Nat × Nat) := [(0, 9, 12, 13), (0, 9, 15, 65)]
theorem mw_oldestTin : Cond.codeWith yL_oldestTin cL_oldestTin 4 (some .int) hL_oldestTin ∈ WG ∧ Cond.initialized yL_oldestTin.cls ∈ WG ∧ yL_oldestTin.cls ≠ "java/lang/invoke/MethodHandle" ∧ yL_oldestTin.cls ≠ "java/lang/invoke/VarHandle" ∧ (parseMethodDescriptor yL_oldestTin.desc).map (fun d => d.parameters.length) = some 3 := ⟨wg_of 661 (by decide +kernel) (by decide +kernel), li_L, by decide, by decide, by decide +kernel⟩
theorem sw_oldestTin : Cond.static yL_oldestTin ∈ WG := wg_of 660 (by decide +kernel) (by decide +kernel)
abbrev hL_order : List (Nat × Nat × Nat × Nat) := [(0, 10, 13, 28), (0, 10, 17, 13), (0, 10, 21, 15)]
theorem mw_order : Cond.codeWith yL_order cL_order 5 (some .int) hL_order ∈ WG ∧ Cond.initialized yL_order.cls ∈ WG ∧ yL_order.cls ≠ "java/lang/invoke/MethodHandle" ∧ yL_order.cls ≠ "java/lang/invoke/VarHandle" ∧ (parseMethodDescriptor yL_order.desc).map (fun d => d.parameters.length) = some 4 := ⟨wg_of 669 (by decide +kernel) (by decide +kernel), li_L, by decide, by decide, by decide +kernel⟩
theorem sw_order : Cond.static yL_order ∈ WG := wg_of 668 (by decide +kernel) (by decide +kernel)
abbrev hL_cancelOrder : List (Nat × Nat × Nat × Nat) := [(0, 9, 12, 28), (0, 9, 15, 65)]
theorem mw_cancelOrder : Cond.codeWith yL_cancelOrder cL_cancelOrder 4 (some .int) hL_cancelOrder ∈ WG ∧ Cond.initialized yL_cancelOrder.cls ∈ WG ∧ yL_cancelOrder.cls ≠ "java/lang/invoke/MethodHandle" ∧ yL_cancelOrder.cls ≠ "java/lang/invoke/VarHandle" ∧ (parseMethodDescriptor yL_cancelOrder.desc).map (fun d => d.parameters.length) = some 3 := ⟨wg_of 685 (by decide +kernel) (by decide +kernel), li_L, by decide, by decide, by decide +kernel⟩
theorem sw_cancelOrder : Cond.static yL_cancelOrder ∈ WG := wg_of 684 (by decide +kernel) (by decide +kernel)
abbrev hL_waitingPier : List (Nat × Nat × Nat × Nat) := [(0, 9, 12, 65)]
theorem mw_waitingPier : Cond.codeWith yL_waitingPier cL_waitingPier 4 (some .int) hL_waitingPier ∈ WG ∧ Cond.initialized yL_waitingPier.cls ∈ WG ∧ yL_waitingPier.cls ≠ "java/lang/invoke/MethodHandle" ∧ yL_waitingPier.cls ≠ "java/lang/invoke/VarHandle" ∧ (parseMethodDescriptor yL_waitingPier.desc).map (fun d => d.parameters.length) = some 3 := ⟨wg_of 693 (by decide +kernel) (by decide +kernel), li_L, by decide, by decide, by decide +kernel⟩
theorem sw_waitingPier : Cond.static yL_waitingPier ∈ WG := wg_of 692 (by decide +kernel) (by decide +kernel)
abbrev hL_paint : List (Nat × Nat × Nat × Nat) := [(0, 9, 12, 13)]
theorem mw_paint : Cond.codeWith yL_paint cL_paint 4 (some .int) hL_paint ∈ WG ∧ Cond.initialized yL_paint.cls ∈ WG ∧ yL_paint.cls ≠ "java/lang/invoke/MethodHandle" ∧ yL_paint.cls ≠ "java/lang/invoke/VarHandle" ∧ (parseMethodDescriptor yL_paint.desc).map (fun d => d.parameters.length) = some 3 := ⟨wg_of 704 (by decide +kernel) (by decide +kernel), li_L, by decide, by decide, by decide +kernel⟩
theorem sw_paint : Cond.static yL_paint ∈ WG := wg_of 703 (by decide +kernel) (by decide +kernel)
abbrev hL_giveUpJob : List (Nat × Nat × Nat × Nat) := [(0, 8, 11, 15)]
theorem mw_giveUpJob : Cond.codeWith yL_giveUpJob cL_giveUpJob 3 (some .int) hL_giveUpJob ∈ WG ∧ Cond.initialized yL_giveUpJob.cls ∈ WG ∧ yL_giveUpJob.cls ≠ "java/lang/invoke/MethodHandle" ∧ yL_giveUpJob.cls ≠ "java/lang/invoke/VarHandle" ∧ (parseMethodDescriptor yL_giveUpJob.desc).map (fun d => d.parameters.length) = some 2 := ⟨wg_of 753 (by decide +kernel) (by decide +kernel), li_L, by decide, by decide, by decide +kernel⟩
theorem sw_giveUpJob : Cond.static yL_giveUpJob ∈ WG := wg_of 752 (by decide +kernel) (by decide +kernel)
abbrev hL_touchUp : List (Nat × Nat × Nat × Nat) := [(0, 9, 12, 28), (0, 9, 15, 65), (0, 9, 18, 15)]
theorem mw_touchUp : Cond.codeWith yL_touchUp cL_touchUp 4 (some .int) hL_touchUp ∈ WG ∧ Cond.initialized yL_touchUp.cls ∈ WG ∧ yL_touchUp.cls ≠ "java/lang/invoke/MethodHandle" ∧ yL_touchUp.cls ≠ "java/lang/invoke/VarHandle" ∧ (parseMethodDescriptor yL_touchUp.desc).map (fun d => d.parameters.length) = some 3 := ⟨wg_of 761 (by decide +kernel) (by decide +kernel), li_L, by decide, by decide, by decide +kernel⟩
theorem sw_touchUp : Cond.static yL_touchUp ∈ WG := wg_of 760 (by decide +kernel) (by decide +kernel)
abbrev hL_boardDay : List (Nat × Nat × Nat × Nat) := [(0, 9, 12, 28)]
theorem mw_boardDay : Cond.codeWith yL_boardDay cL_boardDay 4 (some .int) hL_boardDay ∈ WG ∧ Cond.initialized yL_boardDay.cls ∈ WG ∧ yL_boardDay.cls ≠ "java/lang/invoke/MethodHandle" ∧ yL_boardDay.cls ≠ "java/lang/invoke/VarHandle" ∧ (parseMethodDescriptor yL_boardDay.desc).map (fun d => d.parameters.length) = some 3 := ⟨wg_of 774 (by decide +kernel) (by decide +kernel), li_L, by decide, by decide, by decide +kernel⟩
theorem sw_boardDay : Cond.static yL_boardDay ∈ WG := wg_of 773 (by decide +kernel) (by decide +kernel)
abbrev hL_lineCount : List (Nat × Nat × Nat × Nat) := [(0, 9, 12, 28)]
theorem mw_lineCount : Cond.codeWith yL_lineCount cL_lineCount 4 (some .int) hL_lineCount ∈ WG ∧ Cond.initialized yL_lineCount.cls ∈ WG ∧ yL_lineCount.cls ≠ "java/lang/invoke/MethodHandle" ∧ yL_lineCount.cls ≠ "java/lang/invoke/VarHandle" ∧ (parseMethodDescriptor yL_lineCount.desc).map (fun d => d.parameters.length) = some 3 := ⟨wg_of 781 (by decide +kernel) (by decide +kernel), li_L, by decide, by decide, by decide +kernel⟩
theorem sw_lineCount : Cond.static yL_lineCount ∈ WG := wg_of 780 (by decide +kernel) (by decide +kernel)
abbrev hL_lineState : List (Nat × Nat × Nat × Nat) := [(0, 10, 13, 28)]
theorem mw_lineState : Cond.codeWith yL_lineState cL_lineState 5 (some .int) hL_lineState ∈ WG ∧ Cond.initialized yL_lineState.cls ∈ WG ∧ yL_lineState.cls ≠ "java/lang/invoke/MethodHandle" ∧ yL_lineState.cls ≠ "java/lang/invoke/VarHandle" ∧ (parseMethodDescriptor yL_lineState.desc).map (fun d => d.parameters.length) = some 4 := ⟨wg_of 788 (by decide +kernel) (by decide +kernel), li_L, by decide, by decide, by decide +kernel⟩
theorem sw_lineState : Cond.static yL_lineState ∈ WG := wg_of 787 (by decide +kernel) (by decide +kernel)
abbrev hL_lineMinute : List (Nat × Nat × Nat × Nat) := [(0, 10, 13, 28), (0, 10, 17, 65)]
theorem mw_lineMinute : Cond.codeWith yL_lineMinute cL_lineMinute 5 (some .int) hL_lineMinute ∈ WG ∧ Cond.initialized yL_lineMinute.cls ∈ WG ∧ yL_lineMinute.cls ≠ "java/lang/invoke/MethodHandle" ∧ yL_lineMinute.cls ≠ "java/lang/invoke/VarHandle" ∧ (parseMethodDescriptor yL_lineMinute.desc).map (fun d => d.parameters.length) = some 4 := ⟨wg_of 800 (by decide +kernel) (by decide +kernel), li_L, by decide, by decide, by decide +kernel⟩
theorem sw_lineMinute : Cond.static yL_lineMinute ∈ WG := wg_of 799 (by decide +kernel) (by decide +kernel)
abbrev hL_lineHeight : List (Nat × Nat × Nat × Nat) := [(0, 10, 13, 28), (0, 10, 17, 65)]
theorem mw_lineHeight : Cond.codeWith yL_lineHeight cL_lineHeight 5 (some .int) hL_lineHeight ∈ WG ∧ Cond.initialized yL_lineHeight.cls ∈ WG ∧ yL_lineHeight.cls ≠ "java/lang/invoke/MethodHandle" ∧ yL_lineHeight.cls ≠ "java/lang/invoke/VarHandle" ∧ (parseMethodDescriptor yL_lineHeight.desc).map (fun d => d.parameters.length) = some 4 := ⟨wg_of 812 (by decide +kernel) (by decide +kernel), li_L, by decide, by decide, by decide +kernel⟩
theorem sw_lineHeight : Cond.static yL_lineHeight ∈ WG := wg_of 811 (by decide +kernel) (by decide +kernel)
abbrev hL_dripsOf : List (Nat × Nat × Nat × Nat) := [(0, 9, 12, 28)]
theorem mw_dripsOf : Cond.codeWith yL_dripsOf cL_dripsOf 4 (some .int) hL_dripsOf ∈ WG ∧ Cond.initialized yL_dripsOf.cls ∈ WG ∧ yL_dripsOf.cls ≠ "java/lang/invoke/MethodHandle" ∧ yL_dripsOf.cls ≠ "java/lang/invoke/VarHandle" ∧ (parseMethodDescriptor yL_dripsOf.desc).map (fun d => d.parameters.length) = some 3 := ⟨wg_of 819 (by decide +kernel) (by decide +kernel), li_L, by decide, by decide, by decide +kernel⟩
theorem sw_dripsOf : Cond.static yL_dripsOf ∈ WG := wg_of 818 (by decide +kernel) (by decide +kernel)
abbrev hL_unreadableLines : List (Nat × Nat × Nat × Nat) := [(0, 9, 12, 28)]
theorem mw_unreadableLines : Cond.codeWith yL_unreadableLines cL_unreadableLines 4 (some .int) hL_unreadableLines ∈ WG ∧ Cond.initialized yL_unreadableLines.cls ∈ WG ∧ yL_unreadableLines.cls ≠ "java/lang/invoke/MethodHandle" ∧ yL_unreadableLines.cls ≠ "java/lang/invoke/VarHandle" ∧ (parseMethodDescriptor yL_unreadableLines.desc).map (fun d => d.parameters.length) = some 3 := ⟨wg_of 826 (by decide +kernel) (by decide +kernel), li_L, by decide, by decide, by decide +kernel⟩
theorem sw_unreadableLines : Cond.static yL_unreadableLines ∈ WG := wg_of 825 (by decide +kernel) (by decide +kernel)
abbrev hL_isRight : List (Nat × Nat × Nat × Nat) := [(0, 16, 19, 28)]
theorem mw_isRight : Cond.codeWith yL_isRight cL_isRight 4 (some .int) hL_isRight ∈ WG ∧ Cond.initialized yL_isRight.cls ∈ WG ∧ yL_isRight.cls ≠ "java/lang/invoke/MethodHandle" ∧ yL_isRight.cls ≠ "java/lang/invoke/VarHandle" ∧ (parseMethodDescriptor yL_isRight.desc).map (fun d => d.parameters.length) = some 3 := ⟨wg_of 833 (by decide +kernel) (by decide +kernel), li_L, by decide, by decide, by decide +kernel⟩
theorem sw_isRight : Cond.static yL_isRight ∈ WG := wg_of 832 (by decide +kernel) (by decide +kernel)
