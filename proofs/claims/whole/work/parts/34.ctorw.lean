/-! the words of the constructors -/
abbrev kX0_init : gM := (yX0_init, cX0_init, 1, none)
set_option maxRecDepth 20000 in
theorem lX0_init : gLi kX0_init 0 := ⟨gT_of 69 (by decide +kernel) rfl, ⟨gT_of 4 (by decide +kernel) rfl, gT_of 70 (by rfl) rfl, by decide, by decide +kernel, by decide⟩, rfl, rfl⟩
abbrev kX1_init : gM := (yX1_init, cX1_init, 1, none)
set_option maxRecDepth 20000 in
theorem lX1_init : gLi kX1_init 0 := ⟨gT_of 100 (by decide +kernel) rfl, ⟨gT_of 6 (by decide +kernel) rfl, gT_of 101 (by rfl) rfl, by decide, by decide +kernel, by decide⟩, rfl, rfl⟩
abbrev kX2_init : gM := (yX2_init, cX2_init, 2, none)
set_option maxRecDepth 20000 in
theorem lX2_init : gLi kX2_init 1 := ⟨gT_of 148 (by decide +kernel) rfl, ⟨gT_of 7 (by decide +kernel) rfl, gT_of 149 (by rfl) rfl, by decide, by decide +kernel, by decide⟩, rfl, rfl⟩
abbrev kX3_init : gM := (yX3_init, cX3_init, 1, none)
set_option maxRecDepth 20000 in
theorem lX3_init : gLi kX3_init 0 := ⟨gT_of 24 (by decide +kernel) rfl, ⟨gT_of 2 (by decide +kernel) rfl, gT_of 25 (by rfl) rfl, by decide, by decide +kernel, by decide⟩, rfl, rfl⟩
abbrev kX4_init : gM := (yX4_init, cX4_init, 1, none)
set_option maxRecDepth 20000 in
theorem lX4_init : gLi kX4_init 0 := ⟨gT_of 83 (by decide +kernel) rfl, ⟨gT_of 5 (by decide +kernel) rfl, gT_of 84 (by rfl) rfl, by decide, by decide +kernel, by decide⟩, rfl, rfl⟩
abbrev kX5_init : gM := (yX5_init, cX5_init, 1, none)
set_option maxRecDepth 20000 in
theorem lX5_init : gLi kX5_init 0 := ⟨gT_of 39 (by decide +kernel) rfl, ⟨gT_of 3 (by decide +kernel) rfl, gT_of 40 (by rfl) rfl, by decide, by decide +kernel, by decide⟩, rfl, rfl⟩
abbrev kX6_init : gM := (yX6_init, cX6_init, 2, none)
set_option maxRecDepth 20000 in
theorem lX6_init : gLi kX6_init 0 := ⟨gT_of 16 (by decide +kernel) rfl, ⟨gT_of 1 (by decide +kernel) rfl, gT_of 17 (by rfl) rfl, by decide, by decide +kernel, by decide⟩, rfl, rfl⟩
abbrev kX7_init : gM := (yX7_init, cX7_init, 1, none)
set_option maxRecDepth 20000 in
theorem lX7_init : gLi kX7_init 0 := ⟨gT_of 593 (by decide +kernel) rfl, ⟨gT_of 8 (by decide +kernel) rfl, gT_of 594 (by rfl) rfl, by decide, by decide +kernel, by decide⟩, rfl, rfl⟩
theorem mL_9 : gLk RL 9 yX6_init := Or.inl (gT_of 15 (by decide +kernel) rfl)
theorem mL_12 : gLk RL 12 yX7_init := Or.inl (gT_of 592 (by decide +kernel) rfl)
theorem moX0_3 : Cond.methodLink RX0 3 objectInit ∈ gT := gT_of 71 (by decide +kernel) rfl
theorem moX1_3 : Cond.methodLink RX1 3 objectInit ∈ gT := gT_of 102 (by decide +kernel) rfl
theorem moX2_3 : Cond.methodLink RX2 3 objectInit ∈ gT := gT_of 150 (by decide +kernel) rfl
theorem moX3_3 : Cond.methodLink RX3 3 objectInit ∈ gT := gT_of 26 (by decide +kernel) rfl
theorem moX4_3 : Cond.methodLink RX4 3 objectInit ∈ gT := gT_of 85 (by decide +kernel) rfl
theorem moX5_3 : Cond.methodLink RX5 3 objectInit ∈ gT := gT_of 41 (by decide +kernel) rfl
theorem moX6_3 : Cond.methodLink RX6 3 objectInit ∈ gT := gT_of 18 (by decide +kernel) rfl
theorem mX6_11 : gLk RX6 11 yX3_init := Or.inr ⟨"ToldNineTimes", gN_of 23 (by decide +kernel) rfl⟩
theorem mX6_18 : gLk RX6 18 yX5_init := Or.inr ⟨"ToldNineTimes", gN_of 38 (by decide +kernel) rfl⟩
theorem mX6_32 : gLk RX6 32 yX0_init := Or.inr ⟨"ToldNineTimes", gN_of 68 (by decide +kernel) rfl⟩
theorem mX6_39 : gLk RX6 39 yX4_init := Or.inr ⟨"ToldNineTimes", gN_of 82 (by decide +kernel) rfl⟩
theorem mX6_46 : gLk RX6 46 yX1_init := Or.inr ⟨"ToldNineTimes", gN_of 99 (by decide +kernel) rfl⟩
theorem mX6_56 : gLk RX6 56 yX2_init := Or.inr ⟨"ToldNineTimes", gN_of 147 (by decide +kernel) rfl⟩
theorem moX7_1 : Cond.methodLink RX7 1 objectInit ∈ gT := gT_of 595 (by decide +kernel) rfl
theorem gOi : Cond.instanceMethod objectInit ∈ gT := gT_of 19 (by decide +kernel) rfl
theorem gOc : Cond.code objectInit ⟨#[0xb1]⟩ 1 none ∈ gT := gT_of 20 (by decide +kernel) rfl
theorem gAi : Cond.arrayClass .int ∈ gT := gT_of 35 (by decide +kernel) rfl
theorem gAz : Cond.arrayClass .boolean ∈ gT := gT_of 699 (by decide +kernel) rfl
theorem clL_7 : Cond.classLink RL 7 RX6 ∈ gT := gT_of 13 (by decide +kernel) rfl
theorem itX6 : Cond.instantiable RX6 9 ∈ gT := gT_of 14 (by decide +kernel) rfl
theorem clX6_9 : Cond.classLink RX6 9 RX3 ∈ gT := gT_of 21 (by decide +kernel) rfl
theorem itX3 : Cond.instantiable RX3 2 ∈ gT := gT_of 22 (by decide +kernel) rfl
theorem clX6_16 : Cond.classLink RX6 16 RX5 ∈ gT := gT_of 36 (by decide +kernel) rfl
theorem itX5 : Cond.instantiable RX5 6 ∈ gT := gT_of 37 (by decide +kernel) rfl
theorem clX6_30 : Cond.classLink RX6 30 RX0 ∈ gT := gT_of 66 (by decide +kernel) rfl
theorem itX0 : Cond.instantiable RX0 2 ∈ gT := gT_of 67 (by decide +kernel) rfl
theorem clX6_37 : Cond.classLink RX6 37 RX4 ∈ gT := gT_of 80 (by decide +kernel) rfl
theorem itX4 : Cond.instantiable RX4 3 ∈ gT := gT_of 81 (by decide +kernel) rfl
theorem clX6_44 : Cond.classLink RX6 44 RX1 ∈ gT := gT_of 97 (by decide +kernel) rfl
theorem itX1 : Cond.instantiable RX1 8 ∈ gT := gT_of 98 (by decide +kernel) rfl
theorem clX6_54 : Cond.classLink RX6 54 RX2 ∈ gT := gT_of 145 (by decide +kernel) rfl
theorem itX2 : Cond.instantiable RX2 7 ∈ gT := gT_of 146 (by decide +kernel) rfl
theorem clL_10 : Cond.classLink RL 10 RX7 ∈ gT := gT_of 590 (by decide +kernel) rfl
theorem itX7 : Cond.instantiable RX7 34 ∈ gT := gT_of 591 (by decide +kernel) rfl
theorem inX0 : Cond.initialized RX0 ∈ gT := gT_of 4 (by decide +kernel) rfl
theorem inX1 : Cond.initialized RX1 ∈ gT := gT_of 6 (by decide +kernel) rfl
theorem inX2 : Cond.initialized RX2 ∈ gT := gT_of 7 (by decide +kernel) rfl
theorem inX3 : Cond.initialized RX3 ∈ gT := gT_of 2 (by decide +kernel) rfl
theorem inX4 : Cond.initialized RX4 ∈ gT := gT_of 5 (by decide +kernel) rfl
theorem inX5 : Cond.initialized RX5 ∈ gT := gT_of 3 (by decide +kernel) rfl
theorem inX6 : Cond.initialized RX6 ∈ gT := gT_of 1 (by decide +kernel) rfl
theorem inX7 : Cond.initialized RX7 ∈ gT := gT_of 8 (by decide +kernel) rfl
theorem inL : Cond.initialized RL ∈ gT := gT_of 0 (by decide +kernel) rfl
theorem foX0_9 : gFo RX0 9 0 0 := ⟨RX0, TX0, 2, rfl, by decide, gT_of 72 (by decide +kernel) rfl, fun _ => rfl⟩
theorem foX1_9 : gFo RX1 9 1 0 := ⟨RX1, TX1, 8, rfl, by decide, gT_of 103 (by decide +kernel) rfl, fun _ => rfl⟩
theorem foX1_15 : gFo RX1 15 1 1 := ⟨RX1, TX1, 8, rfl, by decide, gT_of 104 (by decide +kernel) rfl, fun _ => rfl⟩
theorem foX1_18 : gFo RX1 18 1 2 := ⟨RX1, TX1, 8, rfl, by decide, gT_of 105 (by decide +kernel) rfl, fun _ => rfl⟩
theorem foX1_21 : gFo RX1 21 1 3 := ⟨RX1, TX1, 8, rfl, by decide, gT_of 109 (by decide +kernel) rfl, fun _ => rfl⟩
theorem foX1_24 : gFo RX1 24 1 4 := ⟨RX1, TX1, 8, rfl, by decide, gT_of 112 (by decide +kernel) rfl, fun _ => rfl⟩
theorem foX2_9 : gFo RX2 9 2 0 := ⟨RX2, TX2, 7, rfl, by decide, gT_of 151 (by decide +kernel) rfl, fun _ => rfl⟩
theorem foX2_15 : gFo RX2 15 2 1 := ⟨RX2, TX2, 7, rfl, by decide, gT_of 152 (by decide +kernel) rfl, fun _ => rfl⟩
theorem foX2_18 : gFo RX2 18 2 2 := ⟨RX2, TX2, 7, rfl, by decide, gT_of 153 (by decide +kernel) rfl, fun _ => rfl⟩
theorem foX2_21 : gFo RX2 21 2 3 := ⟨RX2, TX2, 7, rfl, by decide, gT_of 154 (by decide +kernel) rfl, fun _ => rfl⟩
theorem foX2_24 : gFo RX2 24 2 4 := ⟨RX2, TX2, 7, rfl, by decide, gT_of 155 (by decide +kernel) rfl, fun _ => rfl⟩
theorem foX3_9 : gFo RX3 9 3 0 := ⟨RX3, TX3, 2, rfl, by decide, gT_of 27 (by decide +kernel) rfl, fun _ => rfl⟩
theorem foX4_9 : gFo RX4 9 4 0 := ⟨RX4, TX4, 3, rfl, by decide, gT_of 86 (by decide +kernel) rfl, fun _ => rfl⟩
theorem foX4_15 : gFo RX4 15 4 1 := ⟨RX4, TX4, 3, rfl, by decide, gT_of 87 (by decide +kernel) rfl, fun _ => rfl⟩
theorem foX5_9 : gFo RX5 9 5 0 := ⟨RX5, TX5, 6, rfl, by decide, gT_of 42 (by decide +kernel) rfl, fun _ => rfl⟩
theorem foX5_15 : gFo RX5 15 5 1 := ⟨RX5, TX5, 6, rfl, by decide, gT_of 44 (by decide +kernel) rfl, fun _ => rfl⟩
theorem foX5_18 : gFo RX5 18 5 2 := ⟨RX5, TX5, 6, rfl, by decide, gT_of 46 (by decide +kernel) rfl, fun _ => rfl⟩
theorem foX5_21 : gFo RX5 21 5 3 := ⟨RX5, TX5, 6, rfl, by decide, gT_of 48 (by decide +kernel) rfl, fun _ => rfl⟩
theorem foX6_12 : gFo RX6 12 6 0 := ⟨RX6, TX6, 9, rfl, by decide, gT_of 173 (by decide +kernel) rfl, fun _ => rfl⟩
theorem foX6_19 : gFo RX6 19 6 1 := ⟨RX6, TX6, 9, rfl, by decide, gT_of 174 (by decide +kernel) rfl, fun _ => rfl⟩
theorem foX6_23 : gFo RX6 23 6 2 := ⟨RX6, TX6, 9, rfl, by decide, gT_of 175 (by decide +kernel) rfl, fun _ => rfl⟩
theorem foX6_26 : gFo RX6 26 6 3 := ⟨RX6, TX6, 9, rfl, by decide, gT_of 176 (by decide +kernel) rfl, fun _ => rfl⟩
theorem foX6_33 : gFo RX6 33 6 4 := ⟨RX6, TX6, 9, rfl, by decide, gT_of 177 (by decide +kernel) rfl, fun _ => rfl⟩
theorem foX6_40 : gFo RX6 40 6 5 := ⟨RX6, TX6, 9, rfl, by decide, gT_of 178 (by decide +kernel) rfl, fun _ => rfl⟩
theorem foX6_47 : gFo RX6 47 6 7 := ⟨RX6, TX6, 9, rfl, by decide, gT_of 180 (by decide +kernel) rfl, fun _ => rfl⟩
theorem foX6_51 : gFo RX6 51 6 8 := ⟨RX6, TX6, 9, rfl, by decide, gT_of 181 (by decide +kernel) rfl, fun _ => rfl⟩
theorem foX6_59 : gFo RX6 59 6 6 := ⟨RX6, TX6, 9, rfl, by decide, gT_of 179 (by decide +kernel) rfl, fun _ => rfl⟩
theorem foX7_7 : gFo RX7 7 7 1 := ⟨RX7, TX7, 34, rfl, by decide, gT_of 597 (by decide +kernel) rfl, fun _ => rfl⟩
theorem foX7_13 : gFo RX7 13 7 7 := ⟨RX7, TX7, 34, rfl, by decide, gT_of 603 (by decide +kernel) rfl, fun _ => rfl⟩
theorem foX7_16 : gFo RX7 16 7 8 := ⟨RX7, TX7, 34, rfl, by decide, gT_of 604 (by decide +kernel) rfl, fun _ => rfl⟩
theorem foX7_19 : gFo RX7 19 7 9 := ⟨RX7, TX7, 34, rfl, by decide, gT_of 605 (by decide +kernel) rfl, fun _ => rfl⟩
theorem foX7_22 : gFo RX7 22 7 10 := ⟨RX7, TX7, 34, rfl, by decide, gT_of 606 (by decide +kernel) rfl, fun _ => rfl⟩
theorem foX7_25 : gFo RX7 25 7 12 := ⟨RX7, TX7, 34, rfl, by decide, gT_of 608 (by decide +kernel) rfl, fun _ => rfl⟩
theorem foX7_28 : gFo RX7 28 7 16 := ⟨RX7, TX7, 34, rfl, by decide, gT_of 612 (by decide +kernel) rfl, fun _ => rfl⟩
theorem foX7_31 : gFo RX7 31 7 17 := ⟨RX7, TX7, 34, rfl, by decide, gT_of 613 (by decide +kernel) rfl, fun _ => rfl⟩
theorem foX7_34 : gFo RX7 34 7 18 := ⟨RX7, TX7, 34, rfl, by decide, gT_of 614 (by decide +kernel) rfl, fun _ => rfl⟩
theorem foX7_37 : gFo RX7 37 7 19 := ⟨RX7, TX7, 34, rfl, by decide, gT_of 615 (by decide +kernel) rfl, fun _ => rfl⟩
theorem foX7_40 : gFo RX7 40 7 20 := ⟨RX7, TX7, 34, rfl, by decide, gT_of 616 (by decide +kernel) rfl, fun _ => rfl⟩
theorem foX7_43 : gFo RX7 43 7 22 := ⟨RX7, TX7, 34, rfl, by decide, gT_of 618 (by decide +kernel) rfl, fun _ => rfl⟩
theorem foX7_46 : gFo RX7 46 7 23 := ⟨RX7, TX7, 34, rfl, by decide, gT_of 619 (by decide +kernel) rfl, fun _ => rfl⟩
theorem foX7_50 : gFo RX7 50 7 24 := ⟨RX7, TX7, 34, rfl, by decide, gT_of 620 (by decide +kernel) rfl, fun _ => rfl⟩
theorem foX7_53 : gFo RX7 53 7 26 := ⟨RX7, TX7, 34, rfl, by decide, gT_of 622 (by decide +kernel) rfl, fun _ => rfl⟩
theorem foX7_56 : gFo RX7 56 7 27 := ⟨RX7, TX7, 34, rfl, by decide, gT_of 623 (by decide +kernel) rfl, fun _ => rfl⟩
theorem foX7_59 : gFo RX7 59 7 28 := ⟨RX7, TX7, 34, rfl, by decide, gT_of 624 (by decide +kernel) rfl, fun _ => rfl⟩
theorem foX7_62 : gFo RX7 62 7 29 := ⟨RX7, TX7, 34, rfl, by decide, gT_of 625 (by decide +kernel) rfl, fun _ => rfl⟩
theorem foX7_65 : gFo RX7 65 7 30 := ⟨RX7, TX7, 34, rfl, by decide, gT_of 626 (by decide +kernel) rfl, fun _ => rfl⟩
theorem foX7_68 : gFo RX7 68 7 31 := ⟨RX7, TX7, 34, rfl, by decide, gT_of 627 (by decide +kernel) rfl, fun _ => rfl⟩
theorem foX7_71 : gFo RX7 71 7 32 := ⟨RX7, TX7, 34, rfl, by decide, gT_of 628 (by decide +kernel) rfl, fun _ => rfl⟩
theorem foX7_74 : gFo RX7 74 7 33 := ⟨RX7, TX7, 34, rfl, by decide, gT_of 629 (by decide +kernel) rfl, fun _ => rfl⟩
