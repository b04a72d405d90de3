/-! methods as descriptors; the words of fields, calls, objects: printed by wip/whole/gen04_links.py -/
theorem iwX0 : ∀ w ∈ u_ws RX0 TX0 10, w ∈ ms_big := ms_sub _ [623, 625, 627, 629, 631, 633, 635, 637, 639, 641] (by decide +kernel) (by decide +kernel)
theorem iwX1 : ∀ w ∈ u_ws RX1 TX1 4, w ∈ ms_big := ms_sub _ [518, 520, 522, 524] (by decide +kernel) (by decide +kernel)
theorem iwX2 : ∀ w ∈ u_ws RX2 TX2 5, w ∈ ms_big := ms_sub _ [656, 658, 660, 662, 664] (by decide +kernel) (by decide +kernel)
theorem iwX3 : ∀ w ∈ u_ws RX3 TX3 5, w ∈ ms_big := ms_sub _ [538, 540, 542, 544, 546] (by decide +kernel) (by decide +kernel)
theorem iwX4 : ∀ w ∈ u_ws RX4 TX4 11, w ∈ ms_big := ms_sub _ [584, 586, 588, 590, 592, 594, 596, 598, 600, 602, 604] (by decide +kernel) (by decide +kernel)
theorem iwX5 : ∀ w ∈ u_ws RX5 TX5 6, w ∈ ms_big := ms_sub _ [699, 701, 703, 705, 707, 709] (by decide +kernel) (by decide +kernel)
theorem iwX6 : ∀ w ∈ u_ws RX6 TX6 10, w ∈ ms_big := ms_sub _ [730, 732, 734, 736, 738, 740, 742, 744, 746, 748] (by decide +kernel) (by decide +kernel)
theorem fg_X5_10 : ms_okF RX5 10 5 0 := ⟨RX5, TX5, 6, rfl, by decide, iwX5, (ms_at 693 (by decide +kernel) rfl), rfl⟩
theorem fg_X5_21 : ms_okF RX5 21 5 1 := ⟨RX5, TX5, 6, rfl, by decide, iwX5, (ms_at 694 (by decide +kernel) rfl), rfl⟩
theorem fg_X5_30 : ms_okF RX5 30 5 2 := ⟨RX5, TX5, 6, rfl, by decide, iwX5, (ms_at 695 (by decide +kernel) rfl), rfl⟩
theorem fg_X5_37 : ms_okF RX5 37 5 3 := ⟨RX5, TX5, 6, rfl, by decide, iwX5, (ms_at 696 (by decide +kernel) rfl), rfl⟩
theorem fg_X5_41 : ms_okF RX5 41 5 4 := ⟨RX5, TX5, 6, rfl, by decide, iwX5, (ms_at 697 (by decide +kernel) rfl), rfl⟩
theorem fg_X5_44 : ms_okF RX5 44 5 5 := ⟨RX5, TX5, 6, rfl, by decide, iwX5, (ms_at 698 (by decide +kernel) rfl), rfl⟩
theorem fg_X5_58 : ms_okF RX5 58 1 0 := ⟨RX1, TX1, 4, rfl, by decide, iwX1, (ms_at 512 (by decide +kernel) rfl), rfl⟩
theorem fg_X5_113 : ms_okF RX5 113 4 0 := ⟨RX4, TX4, 11, rfl, by decide, iwX4, (ms_at 562 (by decide +kernel) rfl), rfl⟩
theorem fg_X5_132 : ms_okF RX5 132 0 2 := ⟨RX0, TX0, 10, rfl, by decide, iwX0, (ms_at 613 (by decide +kernel) rfl), rfl⟩
theorem fg_X5_163 : ms_okF RX5 163 0 0 := ⟨RX0, TX0, 10, rfl, by decide, iwX0, (ms_at 609 (by decide +kernel) rfl), rfl⟩
theorem fg_X5_180 : ms_okF RX5 180 4 3 := ⟨RX4, TX4, 11, rfl, by decide, iwX4, (ms_at 571 (by decide +kernel) rfl), rfl⟩
theorem fg_X5_196 : ms_okF RX5 196 0 1 := ⟨RX0, TX0, 10, rfl, by decide, iwX0, (ms_at 611 (by decide +kernel) rfl), rfl⟩
theorem fg_X5_291 : ms_okF RX5 291 2 1 := ⟨RX2, TX2, 5, rfl, by decide, iwX2, (ms_at 652 (by decide +kernel) rfl), rfl⟩
theorem fg_X5_294 : ms_okF RX5 294 2 0 := ⟨RX2, TX2, 5, rfl, by decide, iwX2, (ms_at 650 (by decide +kernel) rfl), rfl⟩
theorem fg_X0_9 : ms_okF RX0 9 0 2 := ⟨RX0, TX0, 10, rfl, by decide, iwX0, (ms_at 612 (by decide +kernel) rfl), rfl⟩
theorem fg_X0_15 : ms_okF RX0 15 0 3 := ⟨RX0, TX0, 10, rfl, by decide, iwX0, (ms_at 614 (by decide +kernel) rfl), rfl⟩
theorem fg_X0_20 : ms_okF RX0 20 0 6 := ⟨RX0, TX0, 10, rfl, by decide, iwX0, (ms_at 619 (by decide +kernel) rfl), rfl⟩
theorem fg_X0_24 : ms_okF RX0 24 0 7 := ⟨RX0, TX0, 10, rfl, by decide, iwX0, (ms_at 620 (by decide +kernel) rfl), rfl⟩
theorem fg_X0_28 : ms_okF RX0 28 0 8 := ⟨RX0, TX0, 10, rfl, by decide, iwX0, (ms_at 621 (by decide +kernel) rfl), rfl⟩
theorem fg_X0_31 : ms_okF RX0 31 0 9 := ⟨RX0, TX0, 10, rfl, by decide, iwX0, (ms_at 622 (by decide +kernel) rfl), rfl⟩
theorem fg_X0_34 : ms_okF RX0 34 0 4 := ⟨RX0, TX0, 10, rfl, by decide, iwX0, (ms_at 616 (by decide +kernel) rfl), rfl⟩
theorem fg_X0_38 : ms_okF RX0 38 0 5 := ⟨RX0, TX0, 10, rfl, by decide, iwX0, (ms_at 618 (by decide +kernel) rfl), rfl⟩
theorem fg_X0_43 : ms_okF RX0 43 0 0 := ⟨RX0, TX0, 10, rfl, by decide, iwX0, (ms_at 607 (by decide +kernel) rfl), rfl⟩
theorem fg_X0_46 : ms_okF RX0 46 0 1 := ⟨RX0, TX0, 10, rfl, by decide, iwX0, (ms_at 610 (by decide +kernel) rfl), rfl⟩
theorem fg_X0_85 : ms_okF RX0 85 1 0 := ⟨RX1, TX1, 4, rfl, by decide, iwX1, (ms_at 514 (by decide +kernel) rfl), rfl⟩
theorem fg_X0_95 : ms_okF RX0 95 4 0 := ⟨RX4, TX4, 11, rfl, by decide, iwX4, (ms_at 563 (by decide +kernel) rfl), rfl⟩
theorem fg_X0_98 : ms_okF RX0 98 4 3 := ⟨RX4, TX4, 11, rfl, by decide, iwX4, (ms_at 572 (by decide +kernel) rfl), rfl⟩
theorem fg_X0_106 : ms_okF RX0 106 4 6 := ⟨RX4, TX4, 11, rfl, by decide, iwX4, (ms_at 578 (by decide +kernel) rfl), rfl⟩
theorem fg_X0_109 : ms_okF RX0 109 4 1 := ⟨RX4, TX4, 11, rfl, by decide, iwX4, (ms_at 565 (by decide +kernel) rfl), rfl⟩
theorem fg_X0_112 : ms_okF RX0 112 4 2 := ⟨RX4, TX4, 11, rfl, by decide, iwX4, (ms_at 568 (by decide +kernel) rfl), rfl⟩
theorem fg_X0_115 : ms_okF RX0 115 4 4 := ⟨RX4, TX4, 11, rfl, by decide, iwX4, (ms_at 574 (by decide +kernel) rfl), rfl⟩
theorem fg_X0_118 : ms_okF RX0 118 4 5 := ⟨RX4, TX4, 11, rfl, by decide, iwX4, (ms_at 576 (by decide +kernel) rfl), rfl⟩
theorem fg_X0_121 : ms_okF RX0 121 4 7 := ⟨RX4, TX4, 11, rfl, by decide, iwX4, (ms_at 580 (by decide +kernel) rfl), rfl⟩
theorem fg_X0_154 : ms_okF RX0 154 4 8 := ⟨RX4, TX4, 11, rfl, by decide, iwX4, (ms_at 581 (by decide +kernel) rfl), rfl⟩
theorem fg_X0_173 : ms_okF RX0 173 4 9 := ⟨RX4, TX4, 11, rfl, by decide, iwX4, (ms_at 582 (by decide +kernel) rfl), rfl⟩
theorem fg_X0_176 : ms_okF RX0 176 4 10 := ⟨RX4, TX4, 11, rfl, by decide, iwX4, (ms_at 583 (by decide +kernel) rfl), rfl⟩
theorem fg_X1_9 : ms_okF RX1 9 1 3 := ⟨RX1, TX1, 4, rfl, by decide, iwX1, (ms_at 517 (by decide +kernel) rfl), rfl⟩
theorem fg_X1_15 : ms_okF RX1 15 1 1 := ⟨RX1, TX1, 4, rfl, by decide, iwX1, (ms_at 515 (by decide +kernel) rfl), rfl⟩
theorem fg_X1_19 : ms_okF RX1 19 1 2 := ⟨RX1, TX1, 4, rfl, by decide, iwX1, (ms_at 516 (by decide +kernel) rfl), rfl⟩
theorem fg_X1_22 : ms_okF RX1 22 1 0 := ⟨RX1, TX1, 4, rfl, by decide, iwX1, (ms_at 511 (by decide +kernel) rfl), rfl⟩
theorem fg_X2_9 : ms_okF RX2 9 2 2 := ⟨RX2, TX2, 5, rfl, by decide, iwX2, (ms_at 653 (by decide +kernel) rfl), rfl⟩
theorem fg_X2_15 : ms_okF RX2 15 2 3 := ⟨RX2, TX2, 5, rfl, by decide, iwX2, (ms_at 654 (by decide +kernel) rfl), rfl⟩
theorem fg_X2_18 : ms_okF RX2 18 2 4 := ⟨RX2, TX2, 5, rfl, by decide, iwX2, (ms_at 655 (by decide +kernel) rfl), rfl⟩
theorem fg_X2_21 : ms_okF RX2 21 2 0 := ⟨RX2, TX2, 5, rfl, by decide, iwX2, (ms_at 649 (by decide +kernel) rfl), rfl⟩
theorem fg_X2_25 : ms_okF RX2 25 2 1 := ⟨RX2, TX2, 5, rfl, by decide, iwX2, (ms_at 651 (by decide +kernel) rfl), rfl⟩
theorem fg_X2_28 : ms_okF RX2 28 0 0 := ⟨RX0, TX0, 10, rfl, by decide, iwX0, (ms_at 608 (by decide +kernel) rfl), rfl⟩
theorem fg_X2_55 : ms_okF RX2 55 4 3 := ⟨RX4, TX4, 11, rfl, by decide, iwX4, (ms_at 570 (by decide +kernel) rfl), rfl⟩
theorem fg_X3_9 : ms_okF RX3 9 3 1 := ⟨RX3, TX3, 5, rfl, by decide, iwX3, (ms_at 534 (by decide +kernel) rfl), rfl⟩
theorem fg_X3_15 : ms_okF RX3 15 3 2 := ⟨RX3, TX3, 5, rfl, by decide, iwX3, (ms_at 535 (by decide +kernel) rfl), rfl⟩
theorem fg_X3_18 : ms_okF RX3 18 3 3 := ⟨RX3, TX3, 5, rfl, by decide, iwX3, (ms_at 536 (by decide +kernel) rfl), rfl⟩
theorem fg_X3_21 : ms_okF RX3 21 3 4 := ⟨RX3, TX3, 5, rfl, by decide, iwX3, (ms_at 537 (by decide +kernel) rfl), rfl⟩
theorem fg_X3_24 : ms_okF RX3 24 3 0 := ⟨RX3, TX3, 5, rfl, by decide, iwX3, (ms_at 533 (by decide +kernel) rfl), rfl⟩
theorem fg_X3_43 : ms_okF RX3 43 1 0 := ⟨RX1, TX1, 4, rfl, by decide, iwX1, (ms_at 513 (by decide +kernel) rfl), rfl⟩
theorem fg_X4_9 : ms_okF RX4 9 4 0 := ⟨RX4, TX4, 11, rfl, by decide, iwX4, (ms_at 561 (by decide +kernel) rfl), rfl⟩
theorem fg_X4_15 : ms_okF RX4 15 4 1 := ⟨RX4, TX4, 11, rfl, by decide, iwX4, (ms_at 564 (by decide +kernel) rfl), rfl⟩
theorem fg_X4_18 : ms_okF RX4 18 4 2 := ⟨RX4, TX4, 11, rfl, by decide, iwX4, (ms_at 566 (by decide +kernel) rfl), rfl⟩
theorem fg_X4_21 : ms_okF RX4 21 4 3 := ⟨RX4, TX4, 11, rfl, by decide, iwX4, (ms_at 569 (by decide +kernel) rfl), rfl⟩
theorem fg_X4_24 : ms_okF RX4 24 4 4 := ⟨RX4, TX4, 11, rfl, by decide, iwX4, (ms_at 573 (by decide +kernel) rfl), rfl⟩
theorem fg_X4_27 : ms_okF RX4 27 4 5 := ⟨RX4, TX4, 11, rfl, by decide, iwX4, (ms_at 575 (by decide +kernel) rfl), rfl⟩
theorem fg_X4_30 : ms_okF RX4 30 4 6 := ⟨RX4, TX4, 11, rfl, by decide, iwX4, (ms_at 577 (by decide +kernel) rfl), rfl⟩
theorem fg_X4_33 : ms_okF RX4 33 4 7 := ⟨RX4, TX4, 11, rfl, by decide, iwX4, (ms_at 579 (by decide +kernel) rfl), rfl⟩
theorem fg_L_14 : ms_okF RL 14 6 0 := ⟨RX6, TX6, 10, rfl, by decide, iwX6, (ms_at 717 (by decide +kernel) rfl), rfl⟩
theorem fg_L_35 : ms_okF RL 35 6 3 := ⟨RX6, TX6, 10, rfl, by decide, iwX6, (ms_at 721 (by decide +kernel) rfl), rfl⟩
theorem fg_L_39 : ms_okF RL 39 6 4 := ⟨RX6, TX6, 10, rfl, by decide, iwX6, (ms_at 723 (by decide +kernel) rfl), rfl⟩
theorem fg_L_87 : ms_okF RL 87 6 6 := ⟨RX6, TX6, 10, rfl, by decide, iwX6, (ms_at 726 (by decide +kernel) rfl), rfl⟩
theorem fg_X6_10 : ms_okF RX6 10 6 0 := ⟨RX6, TX6, 10, rfl, by decide, iwX6, (ms_at 716 (by decide +kernel) rfl), rfl⟩
theorem fg_X6_16 : ms_okF RX6 16 6 3 := ⟨RX6, TX6, 10, rfl, by decide, iwX6, (ms_at 720 (by decide +kernel) rfl), rfl⟩
theorem fg_X6_20 : ms_okF RX6 20 6 4 := ⟨RX6, TX6, 10, rfl, by decide, iwX6, (ms_at 722 (by decide +kernel) rfl), rfl⟩
theorem fg_X6_23 : ms_okF RX6 23 6 6 := ⟨RX6, TX6, 10, rfl, by decide, iwX6, (ms_at 725 (by decide +kernel) rfl), rfl⟩
theorem fg_X6_26 : ms_okF RX6 26 6 7 := ⟨RX6, TX6, 10, rfl, by decide, iwX6, (ms_at 727 (by decide +kernel) rfl), rfl⟩
theorem fg_X6_31 : ms_okF RX6 31 6 8 := ⟨RX6, TX6, 10, rfl, by decide, iwX6, (ms_at 728 (by decide +kernel) rfl), rfl⟩
theorem fg_X6_36 : ms_okF RX6 36 6 9 := ⟨RX6, TX6, 10, rfl, by decide, iwX6, (ms_at 729 (by decide +kernel) rfl), rfl⟩
theorem fg_X6_40 : ms_okF RX6 40 6 1 := ⟨RX6, TX6, 10, rfl, by decide, iwX6, (ms_at 718 (by decide +kernel) rfl), rfl⟩
theorem fg_X6_43 : ms_okF RX6 43 6 2 := ⟨RX6, TX6, 10, rfl, by decide, iwX6, (ms_at 719 (by decide +kernel) rfl), rfl⟩
theorem fg_X6_60 : ms_okF RX6 60 6 5 := ⟨RX6, TX6, 10, rfl, by decide, iwX6, (ms_at 724 (by decide +kernel) rfl), rfl⟩
theorem fp_X5_10 : ms_okP RX5 10 5 0 (tyX5 0) true := ⟨RX5, TX5, 6, tyX5, rfl, by decide, iwX5, (ms_at 693 (by decide +kernel) rfl), rfl, tyX5_ok, nmX5, rfl, rfl, fun _ => rfl⟩
theorem fp_X5_21 : ms_okP RX5 21 5 1 (tyX5 1) true := ⟨RX5, TX5, 6, tyX5, rfl, by decide, iwX5, (ms_at 694 (by decide +kernel) rfl), rfl, tyX5_ok, nmX5, rfl, rfl, fun _ => rfl⟩
theorem fp_X5_30 : ms_okP RX5 30 5 2 (tyX5 2) true := ⟨RX5, TX5, 6, tyX5, rfl, by decide, iwX5, (ms_at 695 (by decide +kernel) rfl), rfl, tyX5_ok, nmX5, rfl, rfl, fun _ => rfl⟩
theorem fp_X5_37 : ms_okP RX5 37 5 3 (tyX5 3) true := ⟨RX5, TX5, 6, tyX5, rfl, by decide, iwX5, (ms_at 696 (by decide +kernel) rfl), rfl, tyX5_ok, nmX5, rfl, rfl, fun _ => rfl⟩
theorem fp_X5_41 : ms_okP RX5 41 5 4 (tyX5 4) true := ⟨RX5, TX5, 6, tyX5, rfl, by decide, iwX5, (ms_at 697 (by decide +kernel) rfl), rfl, tyX5_ok, nmX5, rfl, rfl, fun _ => rfl⟩
theorem fp_X5_44 : ms_okP RX5 44 5 5 (tyX5 5) true := ⟨RX5, TX5, 6, tyX5, rfl, by decide, iwX5, (ms_at 698 (by decide +kernel) rfl), rfl, tyX5_ok, nmX5, rfl, rfl, fun _ => rfl⟩
theorem fp_X5_113 : ms_okP RX5 113 4 0 (tyX4 0) false := ⟨RX4, TX4, 11, tyX4, rfl, by decide, iwX4, (ms_at 562 (by decide +kernel) rfl), rfl, tyX4_ok, nmX4, rfl, rfl, fun h => by cases h⟩
theorem fp_X5_132 : ms_okP RX5 132 0 2 (tyX0 2) false := ⟨RX0, TX0, 10, tyX0, rfl, by decide, iwX0, (ms_at 613 (by decide +kernel) rfl), rfl, tyX0_ok, nmX0, rfl, rfl, fun h => by cases h⟩
theorem fp_X5_135 : ms_okP RX5 135 0 3 (tyX0 3) false := ⟨RX0, TX0, 10, tyX0, rfl, by decide, iwX0, (ms_at 615 (by decide +kernel) rfl), rfl, tyX0_ok, nmX0, rfl, rfl, fun h => by cases h⟩
theorem fp_X5_185 : ms_okP RX5 185 4 2 (tyX4 2) false := ⟨RX4, TX4, 11, tyX4, rfl, by decide, iwX4, (ms_at 567 (by decide +kernel) rfl), rfl, tyX4_ok, nmX4, rfl, rfl, fun h => by cases h⟩
theorem fp_X0_9 : ms_okP RX0 9 0 2 (tyX0 2) false := ⟨RX0, TX0, 10, tyX0, rfl, by decide, iwX0, (ms_at 612 (by decide +kernel) rfl), rfl, tyX0_ok, nmX0, rfl, rfl, fun h => by cases h⟩
theorem fp_X0_15 : ms_okP RX0 15 0 3 (tyX0 3) false := ⟨RX0, TX0, 10, tyX0, rfl, by decide, iwX0, (ms_at 614 (by decide +kernel) rfl), rfl, tyX0_ok, nmX0, rfl, rfl, fun h => by cases h⟩
theorem fp_X0_20 : ms_okP RX0 20 0 6 (tyX0 6) true := ⟨RX0, TX0, 10, tyX0, rfl, by decide, iwX0, (ms_at 619 (by decide +kernel) rfl), rfl, tyX0_ok, nmX0, rfl, rfl, fun _ => rfl⟩
theorem fp_X0_24 : ms_okP RX0 24 0 7 (tyX0 7) true := ⟨RX0, TX0, 10, tyX0, rfl, by decide, iwX0, (ms_at 620 (by decide +kernel) rfl), rfl, tyX0_ok, nmX0, rfl, rfl, fun _ => rfl⟩
theorem fp_X0_28 : ms_okP RX0 28 0 8 (tyX0 8) true := ⟨RX0, TX0, 10, tyX0, rfl, by decide, iwX0, (ms_at 621 (by decide +kernel) rfl), rfl, tyX0_ok, nmX0, rfl, rfl, fun _ => rfl⟩
theorem fp_X0_31 : ms_okP RX0 31 0 9 (tyX0 9) true := ⟨RX0, TX0, 10, tyX0, rfl, by decide, iwX0, (ms_at 622 (by decide +kernel) rfl), rfl, tyX0_ok, nmX0, rfl, rfl, fun _ => rfl⟩
theorem fp_X0_34 : ms_okP RX0 34 0 4 (tyX0 4) true := ⟨RX0, TX0, 10, tyX0, rfl, by decide, iwX0, (ms_at 616 (by decide +kernel) rfl), rfl, tyX0_ok, nmX0, rfl, rfl, fun _ => rfl⟩
theorem fp_X0_38 : ms_okP RX0 38 0 5 (tyX0 5) true := ⟨RX0, TX0, 10, tyX0, rfl, by decide, iwX0, (ms_at 618 (by decide +kernel) rfl), rfl, tyX0_ok, nmX0, rfl, rfl, fun _ => rfl⟩
theorem fp_X0_43 : ms_okP RX0 43 0 0 (tyX0 0) false := ⟨RX0, TX0, 10, tyX0, rfl, by decide, iwX0, (ms_at 607 (by decide +kernel) rfl), rfl, tyX0_ok, nmX0, rfl, rfl, fun h => by cases h⟩
theorem fp_X0_46 : ms_okP RX0 46 0 1 (tyX0 1) false := ⟨RX0, TX0, 10, tyX0, rfl, by decide, iwX0, (ms_at 610 (by decide +kernel) rfl), rfl, tyX0_ok, nmX0, rfl, rfl, fun h => by cases h⟩
theorem fp_X0_98 : ms_okP RX0 98 4 3 (tyX4 3) false := ⟨RX4, TX4, 11, tyX4, rfl, by decide, iwX4, (ms_at 572 (by decide +kernel) rfl), rfl, tyX4_ok, nmX4, rfl, rfl, fun h => by cases h⟩
theorem fp_X0_106 : ms_okP RX0 106 4 6 (tyX4 6) false := ⟨RX4, TX4, 11, tyX4, rfl, by decide, iwX4, (ms_at 578 (by decide +kernel) rfl), rfl, tyX4_ok, nmX4, rfl, rfl, fun h => by cases h⟩
theorem fp_X0_115 : ms_okP RX0 115 4 4 (tyX4 4) false := ⟨RX4, TX4, 11, tyX4, rfl, by decide, iwX4, (ms_at 574 (by decide +kernel) rfl), rfl, tyX4_ok, nmX4, rfl, rfl, fun h => by cases h⟩
theorem fp_X0_118 : ms_okP RX0 118 4 5 (tyX4 5) false := ⟨RX4, TX4, 11, tyX4, rfl, by decide, iwX4, (ms_at 576 (by decide +kernel) rfl), rfl, tyX4_ok, nmX4, rfl, rfl, fun h => by cases h⟩
theorem fp_X0_121 : ms_okP RX0 121 4 7 (tyX4 7) false := ⟨RX4, TX4, 11, tyX4, rfl, by decide, iwX4, (ms_at 580 (by decide +kernel) rfl), rfl, tyX4_ok, nmX4, rfl, rfl, fun h => by cases h⟩
theorem fp_X0_154 : ms_okP RX0 154 4 8 (tyX4 8) false := ⟨RX4, TX4, 11, tyX4, rfl, by decide, iwX4, (ms_at 581 (by decide +kernel) rfl), rfl, tyX4_ok, nmX4, rfl, rfl, fun h => by cases h⟩
theorem fp_X0_173 : ms_okP RX0 173 4 9 (tyX4 9) false := ⟨RX4, TX4, 11, tyX4, rfl, by decide, iwX4, (ms_at 582 (by decide +kernel) rfl), rfl, tyX4_ok, nmX4, rfl, rfl, fun h => by cases h⟩
theorem fp_X0_176 : ms_okP RX0 176 4 10 (tyX4 10) false := ⟨RX4, TX4, 11, tyX4, rfl, by decide, iwX4, (ms_at 583 (by decide +kernel) rfl), rfl, tyX4_ok, nmX4, rfl, rfl, fun h => by cases h⟩
theorem fp_X1_9 : ms_okP RX1 9 1 3 (tyX1 3) true := ⟨RX1, TX1, 4, tyX1, rfl, by decide, iwX1, (ms_at 517 (by decide +kernel) rfl), rfl, tyX1_ok, nmX1, rfl, rfl, fun _ => rfl⟩
theorem fp_X1_15 : ms_okP RX1 15 1 1 (tyX1 1) false := ⟨RX1, TX1, 4, tyX1, rfl, by decide, iwX1, (ms_at 515 (by decide +kernel) rfl), rfl, tyX1_ok, nmX1, rfl, rfl, fun h => by cases h⟩
theorem fp_X1_19 : ms_okP RX1 19 1 2 (tyX1 2) false := ⟨RX1, TX1, 4, tyX1, rfl, by decide, iwX1, (ms_at 516 (by decide +kernel) rfl), rfl, tyX1_ok, nmX1, rfl, rfl, fun h => by cases h⟩
theorem fp_X1_22 : ms_okP RX1 22 1 0 (tyX1 0) false := ⟨RX1, TX1, 4, tyX1, rfl, by decide, iwX1, (ms_at 511 (by decide +kernel) rfl), rfl, tyX1_ok, nmX1, rfl, rfl, fun h => by cases h⟩
theorem fp_X2_9 : ms_okP RX2 9 2 2 (tyX2 2) true := ⟨RX2, TX2, 5, tyX2, rfl, by decide, iwX2, (ms_at 653 (by decide +kernel) rfl), rfl, tyX2_ok, nmX2, rfl, rfl, fun _ => rfl⟩
theorem fp_X2_15 : ms_okP RX2 15 2 3 (tyX2 3) true := ⟨RX2, TX2, 5, tyX2, rfl, by decide, iwX2, (ms_at 654 (by decide +kernel) rfl), rfl, tyX2_ok, nmX2, rfl, rfl, fun _ => rfl⟩
theorem fp_X2_18 : ms_okP RX2 18 2 4 (tyX2 4) true := ⟨RX2, TX2, 5, tyX2, rfl, by decide, iwX2, (ms_at 655 (by decide +kernel) rfl), rfl, tyX2_ok, nmX2, rfl, rfl, fun _ => rfl⟩
theorem fp_X2_21 : ms_okP RX2 21 2 0 (tyX2 0) false := ⟨RX2, TX2, 5, tyX2, rfl, by decide, iwX2, (ms_at 649 (by decide +kernel) rfl), rfl, tyX2_ok, nmX2, rfl, rfl, fun h => by cases h⟩
theorem fp_X2_25 : ms_okP RX2 25 2 1 (tyX2 1) false := ⟨RX2, TX2, 5, tyX2, rfl, by decide, iwX2, (ms_at 651 (by decide +kernel) rfl), rfl, tyX2_ok, nmX2, rfl, rfl, fun h => by cases h⟩
theorem fp_X3_9 : ms_okP RX3 9 3 1 (tyX3 1) true := ⟨RX3, TX3, 5, tyX3, rfl, by decide, iwX3, (ms_at 534 (by decide +kernel) rfl), rfl, tyX3_ok, nmX3, rfl, rfl, fun _ => rfl⟩
theorem fp_X3_15 : ms_okP RX3 15 3 2 (tyX3 2) true := ⟨RX3, TX3, 5, tyX3, rfl, by decide, iwX3, (ms_at 535 (by decide +kernel) rfl), rfl, tyX3_ok, nmX3, rfl, rfl, fun _ => rfl⟩
theorem fp_X3_18 : ms_okP RX3 18 3 3 (tyX3 3) true := ⟨RX3, TX3, 5, tyX3, rfl, by decide, iwX3, (ms_at 536 (by decide +kernel) rfl), rfl, tyX3_ok, nmX3, rfl, rfl, fun _ => rfl⟩
theorem fp_X3_21 : ms_okP RX3 21 3 4 (tyX3 4) true := ⟨RX3, TX3, 5, tyX3, rfl, by decide, iwX3, (ms_at 537 (by decide +kernel) rfl), rfl, tyX3_ok, nmX3, rfl, rfl, fun _ => rfl⟩
theorem fp_X3_24 : ms_okP RX3 24 3 0 (tyX3 0) true := ⟨RX3, TX3, 5, tyX3, rfl, by decide, iwX3, (ms_at 533 (by decide +kernel) rfl), rfl, tyX3_ok, nmX3, rfl, rfl, fun _ => rfl⟩
theorem fp_X4_9 : ms_okP RX4 9 4 0 (tyX4 0) false := ⟨RX4, TX4, 11, tyX4, rfl, by decide, iwX4, (ms_at 561 (by decide +kernel) rfl), rfl, tyX4_ok, nmX4, rfl, rfl, fun h => by cases h⟩
theorem fp_X4_15 : ms_okP RX4 15 4 1 (tyX4 1) false := ⟨RX4, TX4, 11, tyX4, rfl, by decide, iwX4, (ms_at 564 (by decide +kernel) rfl), rfl, tyX4_ok, nmX4, rfl, rfl, fun h => by cases h⟩
theorem fp_X4_18 : ms_okP RX4 18 4 2 (tyX4 2) false := ⟨RX4, TX4, 11, tyX4, rfl, by decide, iwX4, (ms_at 566 (by decide +kernel) rfl), rfl, tyX4_ok, nmX4, rfl, rfl, fun h => by cases h⟩
theorem fp_X4_21 : ms_okP RX4 21 4 3 (tyX4 3) false := ⟨RX4, TX4, 11, tyX4, rfl, by decide, iwX4, (ms_at 569 (by decide +kernel) rfl), rfl, tyX4_ok, nmX4, rfl, rfl, fun h => by cases h⟩
theorem fp_X4_24 : ms_okP RX4 24 4 4 (tyX4 4) false := ⟨RX4, TX4, 11, tyX4, rfl, by decide, iwX4, (ms_at 573 (by decide +kernel) rfl), rfl, tyX4_ok, nmX4, rfl, rfl, fun h => by cases h⟩
theorem fp_X4_27 : ms_okP RX4 27 4 5 (tyX4 5) false := ⟨RX4, TX4, 11, tyX4, rfl, by decide, iwX4, (ms_at 575 (by decide +kernel) rfl), rfl, tyX4_ok, nmX4, rfl, rfl, fun h => by cases h⟩
theorem fp_X4_30 : ms_okP RX4 30 4 6 (tyX4 6) false := ⟨RX4, TX4, 11, tyX4, rfl, by decide, iwX4, (ms_at 577 (by decide +kernel) rfl), rfl, tyX4_ok, nmX4, rfl, rfl, fun h => by cases h⟩
theorem fp_X4_33 : ms_okP RX4 33 4 7 (tyX4 7) false := ⟨RX4, TX4, 11, tyX4, rfl, by decide, iwX4, (ms_at 579 (by decide +kernel) rfl), rfl, tyX4_ok, nmX4, rfl, rfl, fun h => by cases h⟩
theorem fp_X6_10 : ms_okP RX6 10 6 0 (tyX6 0) true := ⟨RX6, TX6, 10, tyX6, rfl, by decide, iwX6, (ms_at 716 (by decide +kernel) rfl), rfl, tyX6_ok, nmX6, rfl, rfl, fun _ => rfl⟩
theorem fp_X6_16 : ms_okP RX6 16 6 3 (tyX6 3) false := ⟨RX6, TX6, 10, tyX6, rfl, by decide, iwX6, (ms_at 720 (by decide +kernel) rfl), rfl, tyX6_ok, nmX6, rfl, rfl, fun h => by cases h⟩
theorem fp_X6_20 : ms_okP RX6 20 6 4 (tyX6 4) false := ⟨RX6, TX6, 10, tyX6, rfl, by decide, iwX6, (ms_at 722 (by decide +kernel) rfl), rfl, tyX6_ok, nmX6, rfl, rfl, fun h => by cases h⟩
theorem fp_X6_23 : ms_okP RX6 23 6 6 (tyX6 6) false := ⟨RX6, TX6, 10, tyX6, rfl, by decide, iwX6, (ms_at 725 (by decide +kernel) rfl), rfl, tyX6_ok, nmX6, rfl, rfl, fun h => by cases h⟩
theorem fp_X6_26 : ms_okP RX6 26 6 7 (tyX6 7) false := ⟨RX6, TX6, 10, tyX6, rfl, by decide, iwX6, (ms_at 727 (by decide +kernel) rfl), rfl, tyX6_ok, nmX6, rfl, rfl, fun h => by cases h⟩
theorem fp_X6_31 : ms_okP RX6 31 6 8 (tyX6 8) false := ⟨RX6, TX6, 10, tyX6, rfl, by decide, iwX6, (ms_at 728 (by decide +kernel) rfl), rfl, tyX6_ok, nmX6, rfl, rfl, fun h => by cases h⟩
theorem fp_X6_36 : ms_okP RX6 36 6 9 (tyX6 9) false := ⟨RX6, TX6, 10, tyX6, rfl, by decide, iwX6, (ms_at 729 (by decide +kernel) rfl), rfl, tyX6_ok, nmX6, rfl, rfl, fun h => by cases h⟩
theorem fp_X6_40 : ms_okP RX6 40 6 1 (tyX6 1) true := ⟨RX6, TX6, 10, tyX6, rfl, by decide, iwX6, (ms_at 718 (by decide +kernel) rfl), rfl, tyX6_ok, nmX6, rfl, rfl, fun _ => rfl⟩
theorem fp_X6_43 : ms_okP RX6 43 6 2 (tyX6 2) false := ⟨RX6, TX6, 10, tyX6, rfl, by decide, iwX6, (ms_at 719 (by decide +kernel) rfl), rfl, tyX6_ok, nmX6, rfl, rfl, fun h => by cases h⟩
theorem fp_X6_60 : ms_okP RX6 60 6 5 (tyX6 5) false := ⟨RX6, TX6, 10, tyX6, rfl, by decide, iwX6, (ms_at 724 (by decide +kernel) rfl), rfl, tyX6_ok, nmX6, rfl, rfl, fun h => by cases h⟩
theorem nw_X5_7 : ms_okN RX5 7 1 [.int 0, .int 0, .int 0, .null] := ⟨RX1, TX1, 4, tyX1, rfl, iwX1, tyX1_ok, (ms_at 505 (by decide +kernel) rfl), (ms_at 506 (by decide +kernel) rfl), (ms_at 25 (by decide +kernel) rfl), rfl⟩
theorem nw_X5_16 : ms_okN RX5 16 3 [.null, .null, .null, .null, .null] := ⟨RX3, TX3, 5, tyX3, rfl, iwX3, tyX3_ok, (ms_at 528 (by decide +kernel) rfl), (ms_at 177 (by decide +kernel) rfl), (ms_at 26 (by decide +kernel) rfl), rfl⟩
theorem nw_X5_25 : ms_okN RX5 25 0 [.int 0, .int 0, .int 0, .int 0, .null, .null, .null, .null, .null, .null] := ⟨RX0, TX0, 10, tyX0, rfl, iwX0, tyX0_ok, (ms_at 549 (by decide +kernel) rfl), (ms_at 359 (by decide +kernel) rfl), (ms_at 27 (by decide +kernel) rfl), rfl⟩
theorem nw_X5_34 : ms_okN RX5 34 2 [.int 0, .int 0, .null, .null, .null] := ⟨RX2, TX2, 5, tyX2, rfl, iwX2, tyX2_ok, (ms_at 644 (by decide +kernel) rfl), (ms_at 286 (by decide +kernel) rfl), (ms_at 29 (by decide +kernel) rfl), rfl⟩
theorem nw_X0_18 : ms_okN RX0 18 4 [.int 0, .int 0, .int 0, .int 0, .int 0, .int 0, .int 0, .int 0, .int 0, .int 0, .int 0] := ⟨RX4, TX4, 11, tyX4, rfl, iwX4, tyX4_ok, (ms_at 554 (by decide +kernel) rfl), (ms_at 556 (by decide +kernel) rfl), (ms_at 28 (by decide +kernel) rfl), rfl⟩
theorem nw_L_9 : ms_okN RL 9 6 [.null, .null, .int 0, .int 0, .int 0, .int 0, .int 0, .int 0, .null, .null] := ⟨RX6, TX6, 10, tyX6, rfl, iwX6, tyX6_ok, (ms_at 494 (by decide +kernel) rfl), (ms_at 495 (by decide +kernel) rfl), (ms_at 23 (by decide +kernel) rfl), rfl⟩
theorem nw_X6_7 : ms_okN RX6 7 5 [.null, .null, .null, .null, .null, .null] := ⟨RX5, TX5, 6, tyX5, rfl, iwX5, tyX5_ok, (ms_at 500 (by decide +kernel) rfl), (ms_at 243 (by decide +kernel) rfl), (ms_at 24 (by decide +kernel) rfl), rfl⟩
abbrev m_X0_init : ms_D := (yX0_init, cX0_init, 4, none, 2, 40, [], none)
theorem mw_X0_init : ∀ w ∈ [Cond.instanceMethod yX0_init, Cond.initialized RX0, ms_cd m_X0_init], w ∈ ms_big := ms_sub _ [551, 27, 552] (by decide +kernel) (by decide +kernel)
theorem my_X0_init : ms_okY m_X0_init 2 := ⟨by decide, by decide, by decide +kernel⟩
abbrev m_X0_clear : ms_D := (yX0_clear, cX0_clear, 2, none, 0, 0, [], none)
theorem mw_X0_clear : ∀ w ∈ [Cond.instanceMethod yX0_clear, Cond.selects RX0 yX0_clear yX0_clear, Cond.initialized RX0, ms_cd m_X0_clear], w ∈ ms_big := ms_sub _ [690, 691, 27, 692] (by decide +kernel) (by decide +kernel)
theorem my_X0_clear : ms_okY m_X0_clear 0 := ⟨by decide, by decide, by decide +kernel⟩
abbrev m_X0_copyFrom : ms_D := (yX0_copyFrom, cX0_copyFrom, 3, none, 2, 48, [], none)
theorem mw_X0_copyFrom : ∀ w ∈ [Cond.instanceMethod yX0_copyFrom, Cond.selects RX0 yX0_copyFrom yX0_copyFrom, Cond.initialized RX0, ms_cd m_X0_copyFrom], w ∈ ms_big := ms_sub _ [411, 412, 27, 413] (by decide +kernel) (by decide +kernel)
theorem my_X0_copyFrom : ms_okY m_X0_copyFrom 1 := ⟨by decide, by decide, by decide +kernel⟩
abbrev m_X0_copyWalker : ms_D := (yX0_copyWalker, cX0_copyWalker, 2, none, 1, 21, [], none)
theorem mw_X0_copyWalker : ∀ w ∈ [Cond.static yX0_copyWalker, Cond.initialized RX0, ms_cd m_X0_copyWalker], w ∈ ms_big := ms_sub _ [416, 27, 417] (by decide +kernel) (by decide +kernel)
theorem my_X0_copyWalker : ms_okY m_X0_copyWalker 2 := ⟨by decide, by decide, by decide +kernel⟩
abbrev m_X0_get : ms_D := (yX0_get, cX0_get, 3, (some (.object "StarlingSquare$Walker")), 0, 0, [], none)
theorem mw_X0_get : ∀ w ∈ [Cond.instanceMethod yX0_get, Cond.selects RX0 yX0_get yX0_get, Cond.initialized RX0, ms_cd m_X0_get], w ∈ ms_big := ms_sub _ [207, 208, 27, 209] (by decide +kernel) (by decide +kernel)
theorem my_X0_get : ms_okY m_X0_get 1 := ⟨by decide, by decide, by decide +kernel⟩
abbrev m_X0_numberOn : ms_D := (yX0_numberOn, cX0_numberOn, 2, (some .int), 0, 0, [], none)
theorem mw_X0_numberOn : ∀ w ∈ [Cond.instanceMethod yX0_numberOn, Cond.selects RX0 yX0_numberOn yX0_numberOn, Cond.initialized RX0, ms_cd m_X0_numberOn], w ∈ ms_big := ms_sub _ [128, 129, 27, 130] (by decide +kernel) (by decide +kernel)
theorem my_X0_numberOn : ms_okY m_X0_numberOn 1 := ⟨by decide, by decide, by decide +kernel⟩
abbrev m_X0_isAnyoneIn : ms_D := (yX0_isAnyoneIn, cX0_isAnyoneIn, 7, (some .boolean), 1, 23, [], none)
theorem mw_X0_isAnyoneIn : ∀ w ∈ [Cond.instanceMethod yX0_isAnyoneIn, Cond.selects RX0 yX0_isAnyoneIn yX0_isAnyoneIn, Cond.initialized RX0, ms_cd m_X0_isAnyoneIn], w ∈ ms_big := ms_sub _ [123, 124, 27, 125] (by decide +kernel) (by decide +kernel)
theorem my_X0_isAnyoneIn : ms_okY m_X0_isAnyoneIn 4 := ⟨by decide, by decide, by decide +kernel⟩
abbrev m_X0_add : ms_D := (yX0_add, cX0_add, 7, (some .int), 1, 24, [], none)
theorem mw_X0_add : ∀ w ∈ [Cond.instanceMethod yX0_add, Cond.selects RX0 yX0_add yX0_add, Cond.initialized RX0, ms_cd m_X0_add], w ∈ ms_big := ms_sub _ [867, 868, 27, 869] (by decide +kernel) (by decide +kernel)
theorem my_X0_add : ms_okY m_X0_add 4 := ⟨by decide, by decide, by decide +kernel⟩
abbrev m_X0_heatOf : ms_D := (yX0_heatOf, cX0_heatOf, 2, (some .int), 0, 0, [], none)
theorem mw_X0_heatOf : ∀ w ∈ [Cond.instanceMethod yX0_heatOf, Cond.selects RX0 yX0_heatOf yX0_heatOf, Cond.initialized RX0, ms_cd m_X0_heatOf], w ∈ ms_big := ms_sub _ [247, 248, 27, 249] (by decide +kernel) (by decide +kernel)
theorem my_X0_heatOf : ms_okY m_X0_heatOf 1 := ⟨by decide, by decide, by decide +kernel⟩
abbrev m_X0_hottest : ms_D := (yX0_hottest, cX0_hottest, 3, (some .int), 1, 21, [], none)
theorem mw_X0_hottest : ∀ w ∈ [Cond.instanceMethod yX0_hottest, Cond.selects RX0 yX0_hottest yX0_hottest, Cond.initialized RX0, ms_cd m_X0_hottest], w ∈ ms_big := ms_sub _ [331, 332, 27, 333] (by decide +kernel) (by decide +kernel)
theorem my_X0_hottest : ms_okY m_X0_hottest 0 := ⟨by decide, by decide, by decide +kernel⟩
abbrev m_X0_countOut : ms_D := (yX0_countOut, cX0_countOut, 4, (some .int), 1, 22, [], none)
theorem mw_X0_countOut : ∀ w ∈ [Cond.instanceMethod yX0_countOut, Cond.selects RX0 yX0_countOut yX0_countOut, Cond.initialized RX0, ms_cd m_X0_countOut], w ∈ ms_big := ms_sub _ [312, 313, 27, 314] (by decide +kernel) (by decide +kernel)
theorem my_X0_countOut : ms_okY m_X0_countOut 0 := ⟨by decide, by decide, by decide +kernel⟩
abbrev m_X0_countLost : ms_D := (yX0_countLost, cX0_countLost, 4, (some .int), 2, 43, [], none)
theorem mw_X0_countLost : ∀ w ∈ [Cond.instanceMethod yX0_countLost, Cond.selects RX0 yX0_countLost yX0_countLost, Cond.initialized RX0, ms_cd m_X0_countLost], w ∈ ms_big := ms_sub _ [317, 318, 27, 319] (by decide +kernel) (by decide +kernel)
theorem my_X0_countLost : ms_okY m_X0_countLost 0 := ⟨by decide, by decide, by decide +kernel⟩
abbrev m_X0_countSteps : ms_D := (yX0_countSteps, cX0_countSteps, 5, (some .int), 1, 22, [], none)
theorem mw_X0_countSteps : ∀ w ∈ [Cond.instanceMethod yX0_countSteps, Cond.selects RX0 yX0_countSteps yX0_countSteps, Cond.initialized RX0, ms_cd m_X0_countSteps], w ∈ ms_big := ms_sub _ [327, 328, 27, 329] (by decide +kernel) (by decide +kernel)
theorem my_X0_countSteps : ms_okY m_X0_countSteps 1 := ⟨by decide, by decide, by decide +kernel⟩
abbrev m_X0_walkerFigure : ms_D := (yX0_walkerFigure, cX0_walkerFigure, 3, (some .int), 2, 43, [], none)
theorem mw_X0_walkerFigure : ∀ w ∈ [Cond.instanceMethod yX0_walkerFigure, Cond.selects RX0 yX0_walkerFigure yX0_walkerFigure, Cond.initialized RX0, ms_cd m_X0_walkerFigure], w ∈ ms_big := ms_sub _ [341, 342, 27, 343] (by decide +kernel) (by decide +kernel)
theorem my_X0_walkerFigure : ms_okY m_X0_walkerFigure 2 := ⟨by decide, by decide, by decide +kernel⟩
abbrev m_X0_countRound : ms_D := (yX0_countRound, cX0_countRound, 4, (some .int), 1, 23, [], none)
theorem mw_X0_countRound : ∀ w ∈ [Cond.instanceMethod yX0_countRound, Cond.selects RX0 yX0_countRound yX0_countRound, Cond.initialized RX0, ms_cd m_X0_countRound], w ∈ ms_big := ms_sub _ [251, 252, 27, 253] (by decide +kernel) (by decide +kernel)
theorem my_X0_countRound : ms_okY m_X0_countRound 1 := ⟨by decide, by decide, by decide +kernel⟩
abbrev m_X0_countFacing : ms_D := (yX0_countFacing, cX0_countFacing, 6, (some .int), 1, 23, [], none)
theorem mw_X0_countFacing : ∀ w ∈ [Cond.instanceMethod yX0_countFacing, Cond.selects RX0 yX0_countFacing yX0_countFacing, Cond.initialized RX0, ms_cd m_X0_countFacing], w ∈ ms_big := ms_sub _ [358, 9, 27, 360] (by decide +kernel) (by decide +kernel)
theorem my_X0_countFacing : ms_okY m_X0_countFacing 2 := ⟨by decide, by decide, by decide +kernel⟩
abbrev m_X0_costOf : ms_D := (yX0_costOf, cX0_costOf, 6, (some .int), 2, 48, [], none)
theorem mw_X0_costOf : ∀ w ∈ [Cond.instanceMethod yX0_costOf, Cond.selects RX0 yX0_costOf yX0_costOf, Cond.initialized RX0, ms_cd m_X0_costOf], w ∈ ms_big := ms_sub _ [352, 353, 27, 354] (by decide +kernel) (by decide +kernel)
theorem my_X0_costOf : ms_okY m_X0_costOf 2 := ⟨by decide, by decide, by decide +kernel⟩
abbrev m_X0_bestSide : ms_D := (yX0_bestSide, cX0_bestSide, 6, (some .int), 3, 73, [], none)
theorem mw_X0_bestSide : ∀ w ∈ [Cond.instanceMethod yX0_bestSide, Cond.selects RX0 yX0_bestSide yX0_bestSide, Cond.initialized RX0, ms_cd m_X0_bestSide], w ∈ ms_big := ms_sub _ [366, 367, 27, 368] (by decide +kernel) (by decide +kernel)
theorem my_X0_bestSide : ms_okY m_X0_bestSide 1 := ⟨by decide, by decide, by decide +kernel⟩
abbrev m_X0_outAfter : ms_D := (yX0_outAfter, cX0_outAfter, 3, (some .int), 5, 120, [], none)
theorem mw_X0_outAfter : ∀ w ∈ [Cond.instanceMethod yX0_outAfter, Cond.selects RX0 yX0_outAfter yX0_outAfter, Cond.initialized RX0, ms_cd m_X0_outAfter], w ∈ ms_big := ms_sub _ [460, 461, 27, 462] (by decide +kernel) (by decide +kernel)
theorem my_X0_outAfter : ms_okY m_X0_outAfter 1 := ⟨by decide, by decide, by decide +kernel⟩
abbrev m_X0_ticksTillOut : ms_D := (yX0_ticksTillOut, cX0_ticksTillOut, 5, (some .int), 5, 120, [], none)
theorem mw_X0_ticksTillOut : ∀ w ∈ [Cond.instanceMethod yX0_ticksTillOut, Cond.selects RX0 yX0_ticksTillOut yX0_ticksTillOut, Cond.initialized RX0, ms_cd m_X0_ticksTillOut], w ∈ ms_big := ms_sub _ [423, 424, 27, 425] (by decide +kernel) (by decide +kernel)
theorem my_X0_ticksTillOut : ms_okY m_X0_ticksTillOut 2 := ⟨by decide, by decide, by decide +kernel⟩
abbrev m_X0_ticksTillJam : ms_D := (yX0_ticksTillJam, cX0_ticksTillJam, 3, (some .int), 5, 120, [], none)
theorem mw_X0_ticksTillJam : ∀ w ∈ [Cond.instanceMethod yX0_ticksTillJam, Cond.selects RX0 yX0_ticksTillJam yX0_ticksTillJam, Cond.initialized RX0, ms_cd m_X0_ticksTillJam], w ∈ ms_big := ms_sub _ [469, 470, 27, 471] (by decide +kernel) (by decide +kernel)
theorem my_X0_ticksTillJam : ms_okY m_X0_ticksTillJam 1 := ⟨by decide, by decide, by decide +kernel⟩
abbrev m_X0_isJammed : ms_D := (yX0_isJammed, cX0_isJammed, 2, (some .boolean), 1, 20, [], none)
theorem mw_X0_isJammed : ∀ w ∈ [Cond.instanceMethod yX0_isJammed, Cond.selects RX0 yX0_isJammed yX0_isJammed, Cond.initialized RX0, ms_cd m_X0_isJammed], w ∈ ms_big := ms_sub _ [290, 291, 27, 292] (by decide +kernel) (by decide +kernel)
theorem my_X0_isJammed : ms_okY m_X0_isJammed 1 := ⟨by decide, by decide, by decide +kernel⟩
abbrev m_X0_hasJam : ms_D := (yX0_hasJam, cX0_hasJam, 2, (some .boolean), 2, 41, [], none)
theorem mw_X0_hasJam : ∀ w ∈ [Cond.instanceMethod yX0_hasJam, Cond.selects RX0 yX0_hasJam yX0_hasJam, Cond.initialized RX0, ms_cd m_X0_hasJam], w ∈ ms_big := ms_sub _ [474, 17, 27, 475] (by decide +kernel) (by decide +kernel)
theorem my_X0_hasJam : ms_okY m_X0_hasJam 0 := ⟨by decide, by decide, by decide +kernel⟩
abbrev m_X0_step : ms_D := (yX0_step, cX0_step, 3, none, 4, 98, [], none)
theorem mw_X0_step : ∀ w ∈ [Cond.instanceMethod yX0_step, Cond.selects RX0 yX0_step yX0_step, Cond.initialized RX0, ms_cd m_X0_step], w ∈ ms_big := ms_sub _ [428, 12, 27, 429] (by decide +kernel) (by decide +kernel)
theorem my_X0_step : ms_okY m_X0_step 0 := ⟨by decide, by decide, by decide +kernel⟩
abbrev m_X0_aim : ms_D := (yX0_aim, cX0_aim, 3, none, 1, 23, [], none)
theorem mw_X0_aim : ∀ w ∈ [Cond.instanceMethod yX0_aim, Cond.selects RX0 yX0_aim yX0_aim, Cond.initialized RX0, ms_cd m_X0_aim], w ∈ ms_big := ms_sub _ [438, 13, 27, 439] (by decide +kernel) (by decide +kernel)
theorem my_X0_aim : ms_okY m_X0_aim 2 := ⟨by decide, by decide, by decide +kernel⟩
abbrev m_X0_claim : ms_D := (yX0_claim, cX0_claim, 4, none, 1, 22, [], none)
theorem mw_X0_claim : ∀ w ∈ [Cond.instanceMethod yX0_claim, Cond.selects RX0 yX0_claim yX0_claim, Cond.initialized RX0, ms_cd m_X0_claim], w ∈ ms_big := ms_sub _ [443, 14, 27, 444] (by decide +kernel) (by decide +kernel)
theorem my_X0_claim : ms_okY m_X0_claim 1 := ⟨by decide, by decide, by decide +kernel⟩
abbrev m_X0_goOrWait : ms_D := (yX0_goOrWait, cX0_goOrWait, 3, none, 3, 65, [], none)
theorem mw_X0_goOrWait : ∀ w ∈ [Cond.instanceMethod yX0_goOrWait, Cond.selects RX0 yX0_goOrWait yX0_goOrWait, Cond.initialized RX0, ms_cd m_X0_goOrWait], w ∈ ms_big := ms_sub _ [447, 15, 27, 448] (by decide +kernel) (by decide +kernel)
theorem my_X0_goOrWait : ms_okY m_X0_goOrWait 1 := ⟨by decide, by decide, by decide +kernel⟩
abbrev m_X0_go : ms_D := (yX0_go, cX0_go, 3, none, 2, 43, [], none)
theorem mw_X0_go : ∀ w ∈ [Cond.instanceMethod yX0_go, Cond.selects RX0 yX0_go yX0_go, Cond.initialized RX0, ms_cd m_X0_go], w ∈ ms_big := ms_sub _ [451, 16, 27, 452] (by decide +kernel) (by decide +kernel)
theorem my_X0_go : ms_okY m_X0_go 2 := ⟨by decide, by decide, by decide +kernel⟩
abbrev m_X1_init : ms_D := (yX1_init, cX1_init, 1, none, 1, 20, [], none)
theorem mw_X1_init : ∀ w ∈ [Cond.instanceMethod yX1_init, Cond.initialized RX1, ms_cd m_X1_init], w ∈ ms_big := ms_sub _ [508, 25, 509] (by decide +kernel) (by decide +kernel)
theorem my_X1_init : ms_okY m_X1_init 0 := ⟨by decide, by decide, by decide +kernel⟩
abbrev m_X1_shape : ms_D := (yX1_shape, cX1_shape, 5, none, 2, 47, [], none)
theorem mw_X1_shape : ∀ w ∈ [Cond.instanceMethod yX1_shape, Cond.selects RX1 yX1_shape yX1_shape, Cond.initialized RX1, ms_cd m_X1_shape], w ∈ ms_big := ms_sub _ [672, 673, 25, 674] (by decide +kernel) (by decide +kernel)
theorem my_X1_shape : ms_okY m_X1_shape 2 := ⟨by decide, by decide, by decide +kernel⟩
abbrev m_X1_link : ms_D := (yX1_link, cX1_link, 5, none, 1, 23, [], none)
theorem mw_X1_link : ∀ w ∈ [Cond.instanceMethod yX1_link, Cond.selects RX1 yX1_link yX1_link, Cond.initialized RX1, ms_cd m_X1_link], w ∈ ms_big := ms_sub _ [677, 21, 25, 678] (by decide +kernel) (by decide +kernel)
theorem my_X1_link : ms_okY m_X1_link 2 := ⟨by decide, by decide, by decide +kernel⟩
abbrev m_X1_has : ms_D := (yX1_has, cX1_has, 2, (some .boolean), 0, 0, [], none)
theorem mw_X1_has : ∀ w ∈ [Cond.instanceMethod yX1_has, Cond.selects RX1 yX1_has yX1_has, Cond.initialized RX1, ms_cd m_X1_has], w ∈ ms_big := ms_sub _ [152, 153, 25, 154] (by decide +kernel) (by decide +kernel)
theorem my_X1_has : ms_okY m_X1_has 1 := ⟨by decide, by decide, by decide +kernel⟩
abbrev m_X1_number : ms_D := (yX1_number, cX1_number, 4, (some .int), 0, 0, [], none)
theorem mw_X1_number : ∀ w ∈ [Cond.instanceMethod yX1_number, Cond.selects RX1 yX1_number yX1_number, Cond.initialized RX1, ms_cd m_X1_number], w ∈ ms_big := ms_sub _ [43, 44, 25, 45] (by decide +kernel) (by decide +kernel)
theorem my_X1_number : ms_okY m_X1_number 2 := ⟨by decide, by decide, by decide +kernel⟩
abbrev m_X1_next : ms_D := (yX1_next, cX1_next, 4, (some .int), 0, 0, [], none)
theorem mw_X1_next : ∀ w ∈ [Cond.instanceMethod yX1_next, Cond.selects RX1 yX1_next yX1_next, Cond.initialized RX1, ms_cd m_X1_next], w ∈ ms_big := ms_sub _ [188, 189, 25, 190] (by decide +kernel) (by decide +kernel)
theorem my_X1_next : ms_okY m_X1_next 2 := ⟨by decide, by decide, by decide +kernel⟩
abbrev m_X2_init : ms_D := (yX2_init, cX2_init, 1, none, 1, 20, [], none)
theorem mw_X2_init : ∀ w ∈ [Cond.instanceMethod yX2_init, Cond.initialized RX2, ms_cd m_X2_init], w ∈ ms_big := ms_sub _ [646, 29, 647] (by decide +kernel) (by decide +kernel)
theorem my_X2_init : ms_okY m_X2_init 0 := ⟨by decide, by decide, by decide +kernel⟩
abbrev m_X2_find : ms_D := (yX2_find, cX2_find, 3, none, 5, 114, [], none)
theorem mw_X2_find : ∀ w ∈ [Cond.instanceMethod yX2_find, Cond.selects RX2 yX2_find yX2_find, Cond.initialized RX2, ms_cd m_X2_find], w ∈ ms_big := ms_sub _ [280, 281, 29, 282] (by decide +kernel) (by decide +kernel)
theorem my_X2_find : ms_okY m_X2_find 1 := ⟨by decide, by decide, by decide +kernel⟩
abbrev m_X2_isNewOne : ms_D := (yX2_isNewOne, cX2_isNewOne, 3, (some .boolean), 2, 41, [], none)
theorem mw_X2_isNewOne : ∀ w ∈ [Cond.instanceMethod yX2_isNewOne, Cond.selects RX2 yX2_isNewOne yX2_isNewOne, Cond.initialized RX2, ms_cd m_X2_isNewOne], w ∈ ms_big := ms_sub _ [285, 5, 29, 287] (by decide +kernel) (by decide +kernel)
theorem my_X2_isNewOne : ms_okY m_X2_isNewOne 2 := ⟨by decide, by decide, by decide +kernel⟩
abbrev m_X2_gather : ms_D := (yX2_gather, cX2_gather, 5, (some .int), 4, 90, [], none)
theorem mw_X2_gather : ∀ w ∈ [Cond.instanceMethod yX2_gather, Cond.selects RX2 yX2_gather yX2_gather, Cond.initialized RX2, ms_cd m_X2_gather], w ∈ ms_big := ms_sub _ [299, 6, 29, 300] (by decide +kernel) (by decide +kernel)
theorem my_X2_gather : ms_okY m_X2_gather 2 := ⟨by decide, by decide, by decide +kernel⟩
abbrev m_X2_gatherBeside : ms_D := (yX2_gatherBeside, cX2_gatherBeside, 8, (some .int), 3, 63, [], none)
theorem mw_X2_gatherBeside : ∀ w ∈ [Cond.instanceMethod yX2_gatherBeside, Cond.selects RX2 yX2_gatherBeside yX2_gatherBeside, Cond.initialized RX2, ms_cd m_X2_gatherBeside], w ∈ ms_big := ms_sub _ [303, 7, 29, 304] (by decide +kernel) (by decide +kernel)
theorem my_X2_gatherBeside : ms_okY m_X2_gatherBeside 3 := ⟨by decide, by decide, by decide +kernel⟩
abbrev m_X2_greatest : ms_D := (yX2_greatest, cX2_greatest, 3, (some .int), 1, 21, [], none)
theorem mw_X2_greatest : ∀ w ∈ [Cond.instanceMethod yX2_greatest, Cond.selects RX2 yX2_greatest yX2_greatest, Cond.initialized RX2, ms_cd m_X2_greatest], w ∈ ms_big := ms_sub _ [322, 323, 29, 324] (by decide +kernel) (by decide +kernel)
theorem my_X2_greatest : ms_okY m_X2_greatest 0 := ⟨by decide, by decide, by decide +kernel⟩
abbrev m_X2_sizeAround : ms_D := (yX2_sizeAround, cX2_sizeAround, 3, (some .int), 0, 0, [], none)
theorem mw_X2_sizeAround : ∀ w ∈ [Cond.instanceMethod yX2_sizeAround, Cond.selects RX2 yX2_sizeAround yX2_sizeAround, Cond.initialized RX2, ms_cd m_X2_sizeAround], w ∈ ms_big := ms_sub _ [388, 389, 29, 390] (by decide +kernel) (by decide +kernel)
theorem my_X2_sizeAround : ms_okY m_X2_sizeAround 1 := ⟨by decide, by decide, by decide +kernel⟩
abbrev m_X3_init : ms_D := (yX3_init, cX3_init, 2, none, 1, 20, [], none)
theorem mw_X3_init : ∀ w ∈ [Cond.instanceMethod yX3_init, Cond.initialized RX3, ms_cd m_X3_init], w ∈ ms_big := ms_sub _ [530, 26, 531] (by decide +kernel) (by decide +kernel)
theorem my_X3_init : ms_okY m_X3_init 1 := ⟨by decide, by decide, by decide +kernel⟩
abbrev m_X3_clear : ms_D := (yX3_clear, cX3_clear, 2, none, 0, 0, [], none)
theorem mw_X3_clear : ∀ w ∈ [Cond.instanceMethod yX3_clear, Cond.selects RX3 yX3_clear yX3_clear, Cond.initialized RX3, ms_cd m_X3_clear], w ∈ ms_big := ms_sub _ [686, 687, 26, 688] (by decide +kernel) (by decide +kernel)
theorem my_X3_clear : ms_okY m_X3_clear 0 := ⟨by decide, by decide, by decide +kernel⟩
abbrev m_X3_copyFrom : ms_D := (yX3_copyFrom, cX3_copyFrom, 2, none, 1, 48, [], none)
theorem mw_X3_copyFrom : ∀ w ∈ [Cond.instanceMethod yX3_copyFrom, Cond.selects RX3 yX3_copyFrom yX3_copyFrom, Cond.initialized RX3, ms_cd m_X3_copyFrom], w ∈ ms_big := ms_sub _ [404, 405, 26, 406] (by decide +kernel) (by decide +kernel)
theorem my_X3_copyFrom : ms_okY m_X3_copyFrom 1 := ⟨by decide, by decide, by decide +kernel⟩
abbrev m_X3_isFree : ms_D := (yX3_isFree, cX3_isFree, 2, (some .boolean), 1, 21, [], none)
theorem mw_X3_isFree : ∀ w ∈ [Cond.instanceMethod yX3_isFree, Cond.selects RX3 yX3_isFree yX3_isFree, Cond.initialized RX3, ms_cd m_X3_isFree], w ∈ ms_big := ms_sub _ [164, 165, 26, 166] (by decide +kernel) (by decide +kernel)
theorem my_X3_isFree : ms_okY m_X3_isFree 1 := ⟨by decide, by decide, by decide +kernel⟩
abbrev m_X3_isMarked : ms_D := (yX3_isMarked, cX3_isMarked, 3, (some .boolean), 1, 21, [], none)
theorem mw_X3_isMarked : ∀ w ∈ [Cond.instanceMethod yX3_isMarked, Cond.selects RX3 yX3_isMarked yX3_isMarked, Cond.initialized RX3, ms_cd m_X3_isMarked], w ∈ ms_big := ms_sub _ [168, 169, 26, 170] (by decide +kernel) (by decide +kernel)
theorem my_X3_isMarked : ms_okY m_X3_isMarked 2 := ⟨by decide, by decide, by decide +kernel⟩
abbrev m_X3_distance : ms_D := (yX3_distance, cX3_distance, 3, (some .int), 1, 21, [], none)
theorem mw_X3_distance : ∀ w ∈ [Cond.instanceMethod yX3_distance, Cond.selects RX3 yX3_distance yX3_distance, Cond.initialized RX3, ms_cd m_X3_distance], w ∈ ms_big := ms_sub _ [192, 193, 26, 194] (by decide +kernel) (by decide +kernel)
theorem my_X3_distance : ms_okY m_X3_distance 2 := ⟨by decide, by decide, by decide +kernel⟩
abbrev m_X3_build : ms_D := (yX3_build, cX3_build, 3, none, 1, 21, [], none)
theorem mw_X3_build : ∀ w ∈ [Cond.instanceMethod yX3_build, Cond.selects RX3 yX3_build yX3_build, Cond.initialized RX3, ms_cd m_X3_build], w ∈ ms_big := ms_sub _ [148, 149, 26, 150] (by decide +kernel) (by decide +kernel)
theorem my_X3_build : ms_okY m_X3_build 2 := ⟨by decide, by decide, by decide +kernel⟩
abbrev m_X3_turnMark : ms_D := (yX3_turnMark, cX3_turnMark, 3, none, 1, 21, [], none)
theorem mw_X3_turnMark : ∀ w ∈ [Cond.instanceMethod yX3_turnMark, Cond.selects RX3 yX3_turnMark yX3_turnMark, Cond.initialized RX3, ms_cd m_X3_turnMark], w ∈ ms_big := ms_sub _ [212, 213, 26, 214] (by decide +kernel) (by decide +kernel)
theorem my_X3_turnMark : ms_okY m_X3_turnMark 2 := ⟨by decide, by decide, by decide +kernel⟩
abbrev m_X3_countWalls : ms_D := (yX3_countWalls, cX3_countWalls, 3, (some .int), 2, 42, [], none)
theorem mw_X3_countWalls : ∀ w ∈ [Cond.instanceMethod yX3_countWalls, Cond.selects RX3 yX3_countWalls yX3_countWalls, Cond.initialized RX3, ms_cd m_X3_countWalls], w ∈ ms_big := ms_sub _ [196, 197, 26, 198] (by decide +kernel) (by decide +kernel)
theorem my_X3_countWalls : ms_okY m_X3_countWalls 0 := ⟨by decide, by decide, by decide +kernel⟩
abbrev m_X3_countMarks : ms_D := (yX3_countMarks, cX3_countMarks, 4, (some .int), 2, 43, [], none)
theorem mw_X3_countMarks : ∀ w ∈ [Cond.instanceMethod yX3_countMarks, Cond.selects RX3 yX3_countMarks yX3_countMarks, Cond.initialized RX3, ms_cd m_X3_countMarks], w ∈ ms_big := ms_sub _ [217, 218, 26, 219] (by decide +kernel) (by decide +kernel)
theorem my_X3_countMarks : ms_okY m_X3_countMarks 1 := ⟨by decide, by decide, by decide +kernel⟩
abbrev m_X3_greatestDistance : ms_D := (yX3_greatestDistance, cX3_greatestDistance, 4, (some .int), 2, 43, [], none)
theorem mw_X3_greatestDistance : ∀ w ∈ [Cond.instanceMethod yX3_greatestDistance, Cond.selects RX3 yX3_greatestDistance yX3_greatestDistance, Cond.initialized RX3, ms_cd m_X3_greatestDistance], w ∈ ms_big := ms_sub _ [266, 267, 26, 268] (by decide +kernel) (by decide +kernel)
theorem my_X3_greatestDistance : ms_okY m_X3_greatestDistance 1 := ⟨by decide, by decide, by decide +kernel⟩
abbrev m_X3_measureAll : ms_D := (yX3_measureAll, cX3_measureAll, 2, none, 4, 94, [], none)
theorem mw_X3_measureAll : ∀ w ∈ [Cond.instanceMethod yX3_measureAll, Cond.selects RX3 yX3_measureAll yX3_measureAll, Cond.initialized RX3, ms_cd m_X3_measureAll], w ∈ ms_big := ms_sub _ [156, 157, 26, 158] (by decide +kernel) (by decide +kernel)
theorem my_X3_measureAll : ms_okY m_X3_measureAll 0 := ⟨by decide, by decide, by decide +kernel⟩
abbrev m_X3_measure : ms_D := (yX3_measure, cX3_measure, 5, none, 3, 70, [], none)
theorem mw_X3_measure : ∀ w ∈ [Cond.instanceMethod yX3_measure, Cond.selects RX3 yX3_measure yX3_measure, Cond.initialized RX3, ms_cd m_X3_measure], w ∈ ms_big := ms_sub _ [160, 161, 26, 162] (by decide +kernel) (by decide +kernel)
theorem my_X3_measure : ms_okY m_X3_measure 1 := ⟨by decide, by decide, by decide +kernel⟩
abbrev m_X3_spread : ms_D := (yX3_spread, cX3_spread, 7, (some .int), 2, 44, [], none)
theorem mw_X3_spread : ∀ w ∈ [Cond.instanceMethod yX3_spread, Cond.selects RX3 yX3_spread yX3_spread, Cond.initialized RX3, ms_cd m_X3_spread], w ∈ ms_big := ms_sub _ [185, 3, 26, 186] (by decide +kernel) (by decide +kernel)
theorem my_X3_spread : ms_okY m_X3_spread 3 := ⟨by decide, by decide, by decide +kernel⟩
abbrev m_X3_keepDistance : ms_D := (yX3_keepDistance, cX3_keepDistance, 4, none, 1, 21, [], none)
theorem mw_X3_keepDistance : ∀ w ∈ [Cond.instanceMethod yX3_keepDistance, Cond.selects RX3 yX3_keepDistance yX3_keepDistance, Cond.initialized RX3, ms_cd m_X3_keepDistance], w ∈ ms_big := ms_sub _ [176, 1, 26, 178] (by decide +kernel) (by decide +kernel)
theorem my_X3_keepDistance : ms_okY m_X3_keepDistance 3 := ⟨by decide, by decide, by decide +kernel⟩
abbrev m_X3_enqueue : ms_D := (yX3_enqueue, cX3_enqueue, 3, (some .int), 0, 0, [], none)
theorem mw_X3_enqueue : ∀ w ∈ [Cond.instanceMethod yX3_enqueue, Cond.selects RX3 yX3_enqueue yX3_enqueue, Cond.initialized RX3, ms_cd m_X3_enqueue], w ∈ ms_big := ms_sub _ [181, 2, 26, 182] (by decide +kernel) (by decide +kernel)
theorem my_X3_enqueue : ms_okY m_X3_enqueue 2 := ⟨by decide, by decide, by decide +kernel⟩
abbrev m_X3_fieldOnWay : ms_D := (yX3_fieldOnWay, cX3_fieldOnWay, 7, (some .int), 3, 68, [], none)
theorem mw_X3_fieldOnWay : ∀ w ∈ [Cond.instanceMethod yX3_fieldOnWay, Cond.selects RX3 yX3_fieldOnWay yX3_fieldOnWay, Cond.initialized RX3, ms_cd m_X3_fieldOnWay], w ∈ ms_big := ms_sub _ [376, 377, 26, 378] (by decide +kernel) (by decide +kernel)
theorem my_X3_fieldOnWay : ms_okY m_X3_fieldOnWay 3 := ⟨by decide, by decide, by decide +kernel⟩
abbrev m_X3_nearer : ms_D := (yX3_nearer, cX3_nearer, 6, (some .int), 2, 43, [], none)
theorem mw_X3_nearer : ∀ w ∈ [Cond.instanceMethod yX3_nearer, Cond.selects RX3 yX3_nearer yX3_nearer, Cond.initialized RX3, ms_cd m_X3_nearer], w ∈ ms_big := ms_sub _ [381, 10, 26, 382] (by decide +kernel) (by decide +kernel)
theorem my_X3_nearer : ms_okY m_X3_nearer 2 := ⟨by decide, by decide, by decide +kernel⟩
abbrev m_X4_init : ms_D := (yX4_init, cX4_init, 1, none, 1, 20, [], none)
theorem mw_X4_init : ∀ w ∈ [Cond.instanceMethod yX4_init, Cond.initialized RX4, ms_cd m_X4_init], w ∈ ms_big := ms_sub _ [558, 28, 559] (by decide +kernel) (by decide +kernel)
theorem my_X4_init : ms_okY m_X4_init 0 := ⟨by decide, by decide, by decide +kernel⟩
abbrev m_X4_come : ms_D := (yX4_come, cX4_come, 5, none, 0, 0, [], none)
theorem mw_X4_come : ∀ w ∈ [Cond.instanceMethod yX4_come, Cond.selects RX4 yX4_come yX4_come, Cond.initialized RX4, ms_cd m_X4_come], w ∈ ms_big := ms_sub _ [871, 872, 28, 873] (by decide +kernel) (by decide +kernel)
theorem my_X4_come : ms_okY m_X4_come 4 := ⟨by decide, by decide, by decide +kernel⟩
abbrev m_X4_copyFrom : ms_D := (yX4_copyFrom, cX4_copyFrom, 2, none, 0, 0, [], none)
theorem mw_X4_copyFrom : ∀ w ∈ [Cond.instanceMethod yX4_copyFrom, Cond.selects RX4 yX4_copyFrom yX4_copyFrom, Cond.initialized RX4, ms_cd m_X4_copyFrom], w ∈ ms_big := ms_sub _ [419, 420, 28, 421] (by decide +kernel) (by decide +kernel)
theorem my_X4_copyFrom : ms_okY m_X4_copyFrom 1 := ⟨by decide, by decide, by decide +kernel⟩
abbrev m_X4_isOut : ms_D := (yX4_isOut, cX4_isOut, 1, (some .boolean), 0, 0, [], none)
theorem mw_X4_isOut : ∀ w ∈ [Cond.instanceMethod yX4_isOut, Cond.selects RX4 yX4_isOut yX4_isOut, Cond.initialized RX4, ms_cd m_X4_isOut], w ∈ ms_big := ms_sub _ [294, 295, 28, 296] (by decide +kernel) (by decide +kernel)
theorem my_X4_isOut : ms_okY m_X4_isOut 0 := ⟨by decide, by decide, by decide +kernel⟩
abbrev m_X4_isTurnAt : ms_D := (yX4_isTurnAt, cX4_isTurnAt, 2, (some .boolean), 1, 20, [], none)
theorem mw_X4_isTurnAt : ∀ w ∈ [Cond.instanceMethod yX4_isTurnAt, Cond.selects RX4 yX4_isTurnAt yX4_isTurnAt, Cond.initialized RX4, ms_cd m_X4_isTurnAt], w ∈ ms_big := ms_sub _ [431, 432, 28, 433] (by decide +kernel) (by decide +kernel)
theorem my_X4_isTurnAt : ms_okY m_X4_isTurnAt 1 := ⟨by decide, by decide, by decide +kernel⟩
abbrev m_X5_init : ms_D := (yX5_init, cX5_init, 1, none, 4, 93, [], none)
theorem mw_X5_init : ∀ w ∈ [Cond.instanceMethod yX5_init, Cond.initialized RX5, ms_cd m_X5_init], w ∈ ms_big := ms_sub _ [502, 24, 503] (by decide +kernel) (by decide +kernel)
theorem my_X5_init : ms_okY m_X5_init 0 := ⟨by decide, by decide, by decide +kernel⟩
abbrev m_X5_reset : ms_D := (yX5_reset, cX5_reset, 3, (some .int), 6, 93, [], none)
theorem mw_X5_reset : ∀ w ∈ [Cond.instanceMethod yX5_reset, Cond.selects RX5 yX5_reset yX5_reset, Cond.initialized RX5, ms_cd m_X5_reset], w ∈ ms_big := ms_sub _ [822, 823, 24, 824] (by decide +kernel) (by decide +kernel)
theorem my_X5_reset : ms_okY m_X5_reset 2 := ⟨by decide, by decide, by decide +kernel⟩
abbrev m_X5_wall : ms_D := (yX5_wall, cX5_wall, 12, (some .int), 6, 115, [], none)
theorem mw_X5_wall : ∀ w ∈ [Cond.instanceMethod yX5_wall, Cond.selects RX5 yX5_wall yX5_wall, Cond.initialized RX5, ms_cd m_X5_wall], w ∈ ms_big := ms_sub _ [39, 40, 24, 41] (by decide +kernel) (by decide +kernel)
theorem my_X5_wall : ms_okY m_X5_wall 5 := ⟨by decide, by decide, by decide +kernel⟩
abbrev m_X5_mark : ms_D := (yX5_mark, cX5_mark, 6, (some .int), 6, 94, [], none)
theorem mw_X5_mark : ∀ w ∈ [Cond.instanceMethod yX5_mark, Cond.selects RX5 yX5_mark yX5_mark, Cond.initialized RX5, ms_cd m_X5_mark], w ∈ ms_big := ms_sub _ [200, 201, 24, 202] (by decide +kernel) (by decide +kernel)
theorem my_X5_mark : ms_okY m_X5_mark 3 := ⟨by decide, by decide, by decide +kernel⟩
abbrev m_X5_set : ms_D := (yX5_set, cX5_set, 4, (some .int), 6, 90, [], none)
theorem mw_X5_set : ∀ w ∈ [Cond.instanceMethod yX5_set, Cond.selects RX5 yX5_set yX5_set, Cond.initialized RX5, ms_cd m_X5_set], w ∈ ms_big := ms_sub _ [831, 832, 24, 833] (by decide +kernel) (by decide +kernel)
theorem my_X5_set : ms_okY m_X5_set 2 := ⟨by decide, by decide, by decide +kernel⟩
abbrev m_X5_field : ms_D := (yX5_field, cX5_field, 5, (some .int), 6, 90, [], none)
theorem mw_X5_field : ∀ w ∈ [Cond.instanceMethod yX5_field, Cond.selects RX5 yX5_field yX5_field, Cond.initialized RX5, ms_cd m_X5_field], w ∈ ms_big := ms_sub _ [221, 222, 24, 223] (by decide +kernel) (by decide +kernel)
theorem my_X5_field : ms_okY m_X5_field 3 := ⟨by decide, by decide, by decide +kernel⟩
abbrev m_X5_far : ms_D := (yX5_far, cX5_far, 5, (some .int), 6, 90, [], none)
theorem mw_X5_far : ∀ w ∈ [Cond.instanceMethod yX5_far, Cond.selects RX5 yX5_far yX5_far, Cond.initialized RX5, ms_cd m_X5_far], w ∈ ms_big := ms_sub _ [256, 257, 24, 258] (by decide +kernel) (by decide +kernel)
theorem my_X5_far : ms_okY m_X5_far 3 := ⟨by decide, by decide, by decide +kernel⟩
abbrev m_X5_farthest : ms_D := (yX5_farthest, cX5_farthest, 2, (some .int), 6, 90, [], none)
theorem mw_X5_farthest : ∀ w ∈ [Cond.instanceMethod yX5_farthest, Cond.selects RX5 yX5_farthest yX5_farthest, Cond.initialized RX5, ms_cd m_X5_farthest], w ∈ ms_big := ms_sub _ [261, 262, 24, 263] (by decide +kernel) (by decide +kernel)
theorem my_X5_farthest : ms_okY m_X5_farthest 1 := ⟨by decide, by decide, by decide +kernel⟩
abbrev m_X5_walker : ms_D := (yX5_walker, cX5_walker, 8, (some .int), 6, 90, [], none)
theorem mw_X5_walker : ∀ w ∈ [Cond.instanceMethod yX5_walker, Cond.selects RX5 yX5_walker yX5_walker, Cond.initialized RX5, ms_cd m_X5_walker], w ∈ ms_big := ms_sub _ [857, 858, 24, 859] (by decide +kernel) (by decide +kernel)
theorem my_X5_walker : ms_okY m_X5_walker 5 := ⟨by decide, by decide, by decide +kernel⟩
abbrev m_X5_turnTo : ms_D := (yX5_turnTo, cX5_turnTo, 6, (some .int), 6, 90, [], none)
theorem mw_X5_turnTo : ∀ w ∈ [Cond.instanceMethod yX5_turnTo, Cond.selects RX5 yX5_turnTo yX5_turnTo, Cond.initialized RX5, ms_cd m_X5_turnTo], w ∈ ms_big := ms_sub _ [884, 885, 24, 886] (by decide +kernel) (by decide +kernel)
theorem my_X5_turnTo : ms_okY m_X5_turnTo 3 := ⟨by decide, by decide, by decide +kernel⟩
abbrev m_X5_tick : ms_D := (yX5_tick, cX5_tick, 3, (some .int), 6, 142, [], none)
theorem mw_X5_tick : ∀ w ∈ [Cond.instanceMethod yX5_tick, Cond.selects RX5 yX5_tick yX5_tick, Cond.initialized RX5, ms_cd m_X5_tick], w ∈ ms_big := ms_sub _ [808, 809, 24, 810] (by decide +kernel) (by decide +kernel)
theorem my_X5_tick : ms_okY m_X5_tick 1 := ⟨by decide, by decide, by decide +kernel⟩
abbrev m_X5_clock : ms_D := (yX5_clock, cX5_clock, 1, (some .int), 0, 0, [], none)
theorem mw_X5_clock : ∀ w ∈ [Cond.instanceMethod yX5_clock, Cond.selects RX5 yX5_clock yX5_clock, Cond.initialized RX5, ms_cd m_X5_clock], w ∈ ms_big := ms_sub _ [271, 272, 24, 273] (by decide +kernel) (by decide +kernel)
theorem my_X5_clock : ms_okY m_X5_clock 0 := ⟨by decide, by decide, by decide +kernel⟩
abbrev m_X5_many : ms_D := (yX5_many, cX5_many, 2, (some .int), 6, 136, [], none)
theorem mw_X5_many : ∀ w ∈ [Cond.instanceMethod yX5_many, Cond.selects RX5 yX5_many yX5_many, Cond.initialized RX5, ms_cd m_X5_many], w ∈ ms_big := ms_sub _ [275, 276, 24, 277] (by decide +kernel) (by decide +kernel)
theorem my_X5_many : ms_okY m_X5_many 1 := ⟨by decide, by decide, by decide +kernel⟩
abbrev m_X5_ofWalker : ms_D := (yX5_ofWalker, cX5_ofWalker, 4, (some .int), 6, 90, [], none)
theorem mw_X5_ofWalker : ∀ w ∈ [Cond.instanceMethod yX5_ofWalker, Cond.selects RX5 yX5_ofWalker yX5_ofWalker, Cond.initialized RX5, ms_cd m_X5_ofWalker], w ∈ ms_big := ms_sub _ [336, 337, 24, 338] (by decide +kernel) (by decide +kernel)
theorem my_X5_ofWalker : ms_okY m_X5_ofWalker 2 := ⟨by decide, by decide, by decide +kernel⟩
abbrev m_X5_cost : ms_D := (yX5_cost, cX5_cost, 4, (some .int), 6, 90, [], none)
theorem mw_X5_cost : ∀ w ∈ [Cond.instanceMethod yX5_cost, Cond.selects RX5 yX5_cost yX5_cost, Cond.initialized RX5, ms_cd m_X5_cost], w ∈ ms_big := ms_sub _ [345, 346, 24, 347] (by decide +kernel) (by decide +kernel)
theorem my_X5_cost : ms_okY m_X5_cost 2 := ⟨by decide, by decide, by decide +kernel⟩
abbrev m_X5_wants : ms_D := (yX5_wants, cX5_wants, 3, (some .int), 6, 98, [], none)
theorem mw_X5_wants : ∀ w ∈ [Cond.instanceMethod yX5_wants, Cond.selects RX5 yX5_wants yX5_wants, Cond.initialized RX5, ms_cd m_X5_wants], w ∈ ms_big := ms_sub _ [362, 363, 24, 364] (by decide +kernel) (by decide +kernel)
theorem my_X5_wants : ms_okY m_X5_wants 1 := ⟨by decide, by decide, by decide +kernel⟩
abbrev m_X5_way : ms_D := (yX5_way, cX5_way, 4, (some .int), 6, 94, [], none)
theorem mw_X5_way : ∀ w ∈ [Cond.instanceMethod yX5_way, Cond.selects RX5 yX5_way yX5_way, Cond.initialized RX5, ms_cd m_X5_way], w ∈ ms_big := ms_sub _ [371, 372, 24, 373] (by decide +kernel) (by decide +kernel)
theorem my_X5_way : ms_okY m_X5_way 2 := ⟨by decide, by decide, by decide +kernel⟩
abbrev m_X5_jam : ms_D := (yX5_jam, cX5_jam, 2, (some .int), 6, 136, [], none)
theorem mw_X5_jam : ∀ w ∈ [Cond.instanceMethod yX5_jam, Cond.selects RX5 yX5_jam yX5_jam, Cond.initialized RX5, ms_cd m_X5_jam], w ∈ ms_big := ms_sub _ [384, 385, 24, 386] (by decide +kernel) (by decide +kernel)
theorem my_X5_jam : ms_okY m_X5_jam 1 := ⟨by decide, by decide, by decide +kernel⟩
abbrev m_X5_outIn : ms_D := (yX5_outIn, cX5_outIn, 3, (some .int), 6, 144, [], none)
theorem mw_X5_outIn : ∀ w ∈ [Cond.instanceMethod yX5_outIn, Cond.selects RX5 yX5_outIn yX5_outIn, Cond.initialized RX5, ms_cd m_X5_outIn], w ∈ ms_big := ms_sub _ [392, 393, 24, 394] (by decide +kernel) (by decide +kernel)
theorem my_X5_outIn : ms_okY m_X5_outIn 2 := ⟨by decide, by decide, by decide +kernel⟩
abbrev m_X5_outWith : ms_D := (yX5_outWith, cX5_outWith, 3, (some .int), 6, 142, [], none)
theorem mw_X5_outWith : ∀ w ∈ [Cond.instanceMethod yX5_outWith, Cond.selects RX5 yX5_outWith yX5_outWith, Cond.initialized RX5, ms_cd m_X5_outWith], w ∈ ms_big := ms_sub _ [455, 456, 24, 457] (by decide +kernel) (by decide +kernel)
theorem my_X5_outWith : ms_okY m_X5_outWith 2 := ⟨by decide, by decide, by decide +kernel⟩
abbrev m_X5_jamIn : ms_D := (yX5_jamIn, cX5_jamIn, 2, (some .int), 6, 142, [], none)
theorem mw_X5_jamIn : ∀ w ∈ [Cond.instanceMethod yX5_jamIn, Cond.selects RX5 yX5_jamIn yX5_jamIn, Cond.initialized RX5, ms_cd m_X5_jamIn], w ∈ ms_big := ms_sub _ [465, 466, 24, 467] (by decide +kernel) (by decide +kernel)
theorem my_X5_jamIn : ms_okY m_X5_jamIn 1 := ⟨by decide, by decide, by decide +kernel⟩
abbrev m_X5_digest : ms_D := (yX5_digest, cX5_digest, 4, (some .long), 6, 136, [], none)
theorem mw_X5_digest : ∀ w ∈ [Cond.instanceMethod yX5_digest, Cond.selects RX5 yX5_digest yX5_digest, Cond.initialized RX5, ms_cd m_X5_digest], w ∈ ms_big := ms_sub _ [478, 479, 24, 480] (by decide +kernel) (by decide +kernel)
theorem my_X5_digest : ms_okY m_X5_digest 0 := ⟨by decide, by decide, by decide +kernel⟩
abbrev m_X5_makeNew : ms_D := (yX5_makeNew, cX5_makeNew, 3, none, 3, 71, [], none)
theorem mw_X5_makeNew : ∀ w ∈ [Cond.instanceMethod yX5_makeNew, Cond.selects RX5 yX5_makeNew yX5_makeNew, Cond.initialized RX5, ms_cd m_X5_makeNew], w ∈ ms_big := ms_sub _ [669, 20, 24, 670] (by decide +kernel) (by decide +kernel)
theorem my_X5_makeNew : ms_okY m_X5_makeNew 2 := ⟨by decide, by decide, by decide +kernel⟩
abbrev m_X5_copyToTrial : ms_D := (yX5_copyToTrial, cX5_copyToTrial, 1, none, 3, 70, [], none)
theorem mw_X5_copyToTrial : ∀ w ∈ [Cond.instanceMethod yX5_copyToTrial, Cond.selects RX5 yX5_copyToTrial yX5_copyToTrial, Cond.initialized RX5, ms_cd m_X5_copyToTrial], w ∈ ms_big := ms_sub _ [401, 11, 24, 402] (by decide +kernel) (by decide +kernel)
theorem my_X5_copyToTrial : ms_okY m_X5_copyToTrial 0 := ⟨by decide, by decide, by decide +kernel⟩
abbrev m_X5_fieldFigure : ms_D := (yX5_fieldFigure, cX5_fieldFigure, 3, (some .int), 2, 46, [], none)
theorem mw_X5_fieldFigure : ∀ w ∈ [Cond.instanceMethod yX5_fieldFigure, Cond.selects RX5 yX5_fieldFigure yX5_fieldFigure, Cond.initialized RX5, ms_cd m_X5_fieldFigure], w ∈ ms_big := ms_sub _ [242, 4, 24, 244] (by decide +kernel) (by decide +kernel)
theorem my_X5_fieldFigure : ms_okY m_X5_fieldFigure 2 := ⟨by decide, by decide, by decide +kernel⟩
abbrev m_X5_crowdFigure : ms_D := (yX5_crowdFigure, cX5_crowdFigure, 2, (some .int), 3, 66, [], none)
theorem mw_X5_crowdFigure : ∀ w ∈ [Cond.instanceMethod yX5_crowdFigure, Cond.selects RX5 yX5_crowdFigure yX5_crowdFigure, Cond.initialized RX5, ms_cd m_X5_crowdFigure], w ∈ ms_big := ms_sub _ [309, 8, 24, 310] (by decide +kernel) (by decide +kernel)
theorem my_X5_crowdFigure : ms_okY m_X5_crowdFigure 1 := ⟨by decide, by decide, by decide +kernel⟩
abbrev m_X5_mixWalker : ms_D := (yX5_mixWalker, cX5_mixWalker, 8, (some .long), 3, 73, [], none)
theorem mw_X5_mixWalker : ∀ w ∈ [Cond.instanceMethod yX5_mixWalker, Cond.selects RX5 yX5_mixWalker yX5_mixWalker, Cond.initialized RX5, ms_cd m_X5_mixWalker], w ∈ ms_big := ms_sub _ [488, 18, 24, 489] (by decide +kernel) (by decide +kernel)
theorem my_X5_mixWalker : ms_okY m_X5_mixWalker 2 := ⟨by decide, by decide, by decide +kernel⟩
abbrev m_X5_mixField : ms_D := (yX5_mixField, cX5_mixField, 7, (some .long), 3, 68, [], none)
theorem mw_X5_mixField : ∀ w ∈ [Cond.instanceMethod yX5_mixField, Cond.selects RX5 yX5_mixField yX5_mixField, Cond.initialized RX5, ms_cd m_X5_mixField], w ∈ ms_big := ms_sub _ [492, 19, 24, 493] (by decide +kernel) (by decide +kernel)
theorem my_X5_mixField : ms_okY m_X5_mixField 2 := ⟨by decide, by decide, by decide +kernel⟩
abbrev m_X5_mix : ms_D := (yX5_mix, cX5_mix, 3, (some .long), 0, 0, [], none)
theorem mw_X5_mix : ∀ w ∈ [Cond.static yX5_mix, Cond.initialized RX5, ms_cd m_X5_mix], w ∈ ms_big := ms_sub _ [483, 24, 484] (by decide +kernel) (by decide +kernel)
theorem my_X5_mix : ms_okY m_X5_mix 2 := ⟨by decide, by decide, by decide +kernel⟩
abbrev m_X5_isGoal : ms_D := (yX5_isGoal, cX5_isGoal, 1, (some .boolean), 0, 0, [], none)
theorem mw_X5_isGoal : ∀ w ∈ [Cond.static yX5_isGoal, Cond.initialized RX5, ms_cd m_X5_isGoal], w ∈ ms_big := ms_sub _ [172, 24, 173] (by decide +kernel) (by decide +kernel)
theorem my_X5_isGoal : ms_okY m_X5_isGoal 1 := ⟨by decide, by decide, by decide +kernel⟩
abbrev m_X5_isMood : ms_D := (yX5_isMood, cX5_isMood, 1, (some .boolean), 0, 0, [], none)
theorem mw_X5_isMood : ∀ w ∈ [Cond.static yX5_isMood, Cond.initialized RX5, ms_cd m_X5_isMood], w ∈ ms_big := ms_sub _ [861, 24, 862] (by decide +kernel) (by decide +kernel)
theorem my_X5_isMood : ms_okY m_X5_isMood 1 := ⟨by decide, by decide, by decide +kernel⟩
abbrev m_X5_isAhead : ms_D := (yX5_isAhead, cX5_isAhead, 1, (some .boolean), 0, 0, [], none)
theorem mw_X5_isAhead : ∀ w ∈ [Cond.static yX5_isAhead, Cond.initialized RX5, ms_cd m_X5_isAhead], w ∈ ms_big := ms_sub _ [396, 24, 397] (by decide +kernel) (by decide +kernel)
theorem my_X5_isAhead : ms_okY m_X5_isAhead 1 := ⟨by decide, by decide, by decide +kernel⟩
abbrev m_X6_init : ms_D := (yX6_init, cX6_init, 3, none, 5, 113, [], none)
theorem mw_X6_init : ∀ w ∈ [Cond.instanceMethod yX6_init, Cond.initialized RX6, ms_cd m_X6_init], w ∈ ms_big := ms_sub _ [497, 23, 498] (by decide +kernel) (by decide +kernel)
theorem my_X6_init : ms_okY m_X6_init 2 := ⟨by decide, by decide, by decide +kernel⟩
abbrev m_X6_draw : ms_D := (yX6_draw, cX6_draw, 3, (some .int), 1, 21, [], none)
theorem mw_X6_draw : ∀ w ∈ [Cond.instanceMethod yX6_draw, Cond.selects RX6 yX6_draw yX6_draw, Cond.initialized RX6, ms_cd m_X6_draw], w ∈ ms_big := ms_sub _ [752, 753, 23, 754] (by decide +kernel) (by decide +kernel)
theorem my_X6_draw : ms_okY m_X6_draw 1 := ⟨by decide, by decide, by decide +kernel⟩
abbrev m_X6_reset : ms_D := (yX6_reset, cX6_reset, 1, (some .boolean), 7, 115, [], none)
theorem mw_X6_reset : ∀ w ∈ [Cond.instanceMethod yX6_reset, Cond.selects RX6 yX6_reset yX6_reset, Cond.initialized RX6, ms_cd m_X6_reset], w ∈ ms_big := ms_sub _ [818, 819, 23, 820] (by decide +kernel) (by decide +kernel)
theorem my_X6_reset : ms_okY m_X6_reset 0 := ⟨by decide, by decide, by decide +kernel⟩
abbrev m_X6_isOn : ms_D := (yX6_isOn, cX6_isOn, 7, (some .boolean), 0, 0, [], none)
theorem mw_X6_isOn : ∀ w ∈ [Cond.instanceMethod yX6_isOn, Cond.selects RX6 yX6_isOn yX6_isOn, Cond.initialized RX6, ms_cd m_X6_isOn], w ∈ ms_big := ms_sub _ [764, 765, 23, 766] (by decide +kernel) (by decide +kernel)
theorem my_X6_isOn : ms_okY m_X6_isOn 2 := ⟨by decide, by decide, by decide +kernel⟩
abbrev m_X6_walls : ms_D := (yX6_walls, cX6_walls, 10, (some .int), 0, 0, [], none)
theorem mw_X6_walls : ∀ w ∈ [Cond.instanceMethod yX6_walls, Cond.selects RX6 yX6_walls yX6_walls, Cond.initialized RX6, ms_cd m_X6_walls], w ∈ ms_big := ms_sub _ [849, 850, 23, 851] (by decide +kernel) (by decide +kernel)
theorem my_X6_walls : ms_okY m_X6_walls 0 := ⟨by decide, by decide, by decide +kernel⟩
abbrev m_X6_wall : ms_D := (yX6_wall, cX6_wall, 10, (some .boolean), 7, 146, [(153, 175, 261, 86), (176, 260, 261, 86)], none)
theorem mw_X6_wall : ∀ w ∈ [Cond.instanceMethod yX6_wall, Cond.selects RX6 yX6_wall yX6_wall, Cond.initialized RX6, ms_cd m_X6_wall], w ∈ ms_big := ms_sub _ [842, 843, 23, 844] (by decide +kernel) (by decide +kernel)
theorem my_X6_wall : ms_okY m_X6_wall 0 := ⟨by decide, by decide, by decide +kernel⟩
abbrev m_X6_mark : ms_D := (yX6_mark, cX6_mark, 15, (some .boolean), 7, 119, [(95, 113, 233, 86), (114, 232, 233, 86)], none)
theorem mw_X6_mark : ∀ w ∈ [Cond.instanceMethod yX6_mark, Cond.selects RX6 yX6_mark yX6_mark, Cond.initialized RX6, ms_cd m_X6_mark], w ∈ ms_big := ms_sub _ [836, 837, 23, 838] (by decide +kernel) (by decide +kernel)
theorem my_X6_mark : ms_okY m_X6_mark 0 := ⟨by decide, by decide, by decide +kernel⟩
abbrev m_X6_set : ms_D := (yX6_set, cX6_set, 2, (some .boolean), 7, 113, [], none)
theorem mw_X6_set : ∀ w ∈ [Cond.instanceMethod yX6_set, Cond.selects RX6 yX6_set yX6_set, Cond.initialized RX6, ms_cd m_X6_set], w ∈ ms_big := ms_sub _ [827, 828, 23, 829] (by decide +kernel) (by decide +kernel)
theorem my_X6_set : ms_okY m_X6_set 0 := ⟨by decide, by decide, by decide +kernel⟩
abbrev m_X6_add : ms_D := (yX6_add, cX6_add, 10, (some .boolean), 7, 117, [(129, 151, 261, 86), (152, 260, 261, 86)], none)
theorem mw_X6_add : ∀ w ∈ [Cond.instanceMethod yX6_add, Cond.selects RX6 yX6_add yX6_add, Cond.initialized RX6, ms_cd m_X6_add], w ∈ ms_big := ms_sub _ [853, 854, 23, 855] (by decide +kernel) (by decide +kernel)
theorem my_X6_add : ms_okY m_X6_add 0 := ⟨by decide, by decide, by decide +kernel⟩
abbrev m_X6_turnTo : ms_D := (yX6_turnTo, cX6_turnTo, 8, (some .boolean), 7, 115, [(76, 94, 124, 86), (95, 123, 124, 86)], none)
theorem mw_X6_turnTo : ∀ w ∈ [Cond.instanceMethod yX6_turnTo, Cond.selects RX6 yX6_turnTo yX6_turnTo, Cond.initialized RX6, ms_cd m_X6_turnTo], w ∈ ms_big := ms_sub _ [880, 881, 23, 882] (by decide +kernel) (by decide +kernel)
theorem my_X6_turnTo : ms_okY m_X6_turnTo 0 := ⟨by decide, by decide, by decide +kernel⟩
abbrev m_X6_sideX : ms_D := (yX6_sideX, cX6_sideX, 1, (some .int), 0, 0, [], none)
theorem mw_X6_sideX : ∀ w ∈ [Cond.static yX6_sideX, Cond.initialized RX6, ms_cd m_X6_sideX], w ∈ ms_big := ms_sub _ [786, 23, 787] (by decide +kernel) (by decide +kernel)
theorem my_X6_sideX : ms_okY m_X6_sideX 1 := ⟨by decide, by decide, by decide +kernel⟩
abbrev m_X6_sideY : ms_D := (yX6_sideY, cX6_sideY, 1, (some .int), 0, 0, [], none)
theorem mw_X6_sideY : ∀ w ∈ [Cond.static yX6_sideY, Cond.initialized RX6, ms_cd m_X6_sideY], w ∈ ms_big := ms_sub _ [789, 23, 790] (by decide +kernel) (by decide +kernel)
theorem my_X6_sideY : ms_okY m_X6_sideY 1 := ⟨by decide, by decide, by decide +kernel⟩
abbrev m_X6_isFree : ms_D := (yX6_isFree, cX6_isFree, 3, (some .boolean), 0, 0, [], none)
theorem mw_X6_isFree : ∀ w ∈ [Cond.instanceMethod yX6_isFree, Cond.selects RX6 yX6_isFree yX6_isFree, Cond.initialized RX6, ms_cd m_X6_isFree], w ∈ ms_big := ms_sub _ [782, 783, 23, 784] (by decide +kernel) (by decide +kernel)
theorem my_X6_isFree : ms_okY m_X6_isFree 2 := ⟨by decide, by decide, by decide +kernel⟩
abbrev m_X6_far : ms_D := (yX6_far, cX6_far, 9, (some (.array (.array .int))), 1, 22, [], none)
theorem mw_X6_far : ∀ w ∈ [Cond.instanceMethod yX6_far, Cond.selects RX6 yX6_far yX6_far, Cond.initialized RX6, ms_cd m_X6_far], w ∈ ms_big := ms_sub _ [778, 779, 23, 780] (by decide +kernel) (by decide +kernel)
theorem my_X6_far : ms_okY m_X6_far 1 := ⟨by decide, by decide, by decide +kernel⟩
abbrev m_X6_areNear : ms_D := (yX6_areNear, cX6_areNear, 3, (some .boolean), 0, 0, [], none)
theorem mw_X6_areNear : ∀ w ∈ [Cond.static yX6_areNear, Cond.initialized RX6, ms_cd m_X6_areNear], w ∈ ms_big := ms_sub _ [805, 23, 806] (by decide +kernel) (by decide +kernel)
theorem my_X6_areNear : ms_okY m_X6_areNear 3 := ⟨by decide, by decide, by decide +kernel⟩
abbrev m_X6_round : ms_D := (yX6_round, cX6_round, 6, (some .int), 1, 22, [], none)
theorem mw_X6_round : ∀ w ∈ [Cond.instanceMethod yX6_round, Cond.selects RX6 yX6_round yX6_round, Cond.initialized RX6, ms_cd m_X6_round], w ∈ ms_big := ms_sub _ [801, 802, 23, 803] (by decide +kernel) (by decide +kernel)
theorem my_X6_round : ms_okY m_X6_round 3 := ⟨by decide, by decide, by decide +kernel⟩
abbrev m_X6_cost : ms_D := (yX6_cost, cX6_cost, 9, (some .int), 2, 47, [], none)
theorem mw_X6_cost : ∀ w ∈ [Cond.instanceMethod yX6_cost, Cond.selects RX6 yX6_cost yX6_cost, Cond.initialized RX6, ms_cd m_X6_cost], w ∈ ms_big := ms_sub _ [796, 797, 23, 798] (by decide +kernel) (by decide +kernel)
theorem my_X6_cost : ms_okY m_X6_cost 3 := ⟨by decide, by decide, by decide +kernel⟩
abbrev m_X6_wants : ms_D := (yX6_wants, cX6_wants, 5, (some .int), 3, 75, [], none)
theorem mw_X6_wants : ∀ w ∈ [Cond.instanceMethod yX6_wants, Cond.selects RX6 yX6_wants yX6_wants, Cond.initialized RX6, ms_cd m_X6_wants], w ∈ ms_big := ms_sub _ [792, 793, 23, 794] (by decide +kernel) (by decide +kernel)
theorem my_X6_wants : ms_okY m_X6_wants 2 := ⟨by decide, by decide, by decide +kernel⟩
abbrev m_X6_tick : ms_D := (yX6_tick, cX6_tick, 9, (some .int), 4, 99, [], none)
theorem mw_X6_tick : ∀ w ∈ [Cond.instanceMethod yX6_tick, Cond.selects RX6 yX6_tick yX6_tick, Cond.initialized RX6, ms_cd m_X6_tick], w ∈ ms_big := ms_sub _ [773, 774, 23, 775] (by decide +kernel) (by decide +kernel)
theorem my_X6_tick : ms_okY m_X6_tick 0 := ⟨by decide, by decide, by decide +kernel⟩
abbrev m_X6_tick_ : ms_D := (yX6_tick_, cX6_tick_, 5, (some .boolean), 7, 164, [], none)
theorem mw_X6_tick_ : ∀ w ∈ [Cond.instanceMethod yX6_tick_, Cond.selects RX6 yX6_tick_ yX6_tick_, Cond.initialized RX6, ms_cd m_X6_tick_], w ∈ ms_big := ms_sub _ [768, 769, 23, 770] (by decide +kernel) (by decide +kernel)
theorem my_X6_tick_ : ms_okY m_X6_tick_ 1 := ⟨by decide, by decide, by decide +kernel⟩
abbrev m_X6_found : ms_D := (yX6_found, cX6_found, 2, (some .boolean), 8, 175, [], none)
theorem mw_X6_found : ∀ w ∈ [Cond.instanceMethod yX6_found, Cond.selects RX6 yX6_found yX6_found, Cond.initialized RX6, ms_cd m_X6_found], w ∈ ms_big := ms_sub _ [814, 815, 23, 816] (by decide +kernel) (by decide +kernel)
theorem my_X6_found : ms_okY m_X6_found 0 := ⟨by decide, by decide, by decide +kernel⟩
abbrev m_X6_act : ms_D := (yX6_act, cX6_act, 1, (some .boolean), 8, 188, [], none)
theorem mw_X6_act : ∀ w ∈ [Cond.instanceMethod yX6_act, Cond.selects RX6 yX6_act yX6_act, Cond.initialized RX6, ms_cd m_X6_act], w ∈ ms_big := ms_sub _ [876, 877, 23, 878] (by decide +kernel) (by decide +kernel)
theorem my_X6_act : ms_okY m_X6_act 0 := ⟨by decide, by decide, by decide +kernel⟩
abbrev m_L_below : ms_D := (yL_below, cL_below, 2, (some .int), 0, 0, [], none)
theorem mw_L_below : ∀ w ∈ [Cond.static yL_below, Cond.initialized RL, ms_cd m_L_below], w ∈ ms_big := ms_sub _ [760, 22, 761] (by decide +kernel) (by decide +kernel)
theorem my_L_below : ms_okY m_L_below 2 := ⟨by decide, by decide, by decide +kernel⟩
abbrev m_L_cell : ms_D := (yL_cell, cL_cell, 2, (some .int), 0, 0, [], none)
theorem mw_L_cell : ∀ w ∈ [Cond.static yL_cell, Cond.initialized RL, ms_cd m_L_cell], w ∈ ms_big := ms_sub _ [756, 22, 757] (by decide +kernel) (by decide +kernel)
theorem my_L_cell : ms_okY m_L_cell 2 := ⟨by decide, by decide, by decide +kernel⟩
theorem cin_X0_42 : ms_okIN RX0 42 m_X4_init RX5 0 := ⟨by decide +kernel, mw_X4_init, rfl, my_X4_init, rfl, rfl⟩
theorem cv_X0_55 : ms_okV RX0 55 m_X0_get 0 1 := ⟨(ms_at 315 (by decide +kernel) rfl), mw_X0_get, ⟨TX0, 10, rfl⟩, my_X0_get, rfl⟩
theorem cs_X0_59 : ms_okS RX0 59 m_X0_copyWalker 2 := ⟨rfl, (ms_at 415 (by decide +kernel) rfl), mw_X0_copyWalker, my_X0_copyWalker⟩
theorem cv_X0_63 : ms_okV RX0 63 m_X4_copyFrom 4 1 := ⟨(ms_at 418 (by decide +kernel) rfl), mw_X4_copyFrom, ⟨TX4, 11, rfl⟩, my_X4_copyFrom, rfl⟩
theorem cv_X0_67 : ms_okV RX0 67 m_X1_number 1 2 := ⟨(ms_at 126 (by decide +kernel) rfl), mw_X1_number, ⟨TX1, 4, rfl⟩, my_X1_number, rfl⟩
theorem cv_X0_73 : ms_okV RX0 73 m_X0_numberOn 0 1 := ⟨(ms_at 127 (by decide +kernel) rfl), mw_X0_numberOn, ⟨TX0, 10, rfl⟩, my_X0_numberOn, rfl⟩
theorem cv_X0_77 : ms_okV RX0 77 m_X1_has 1 1 := ⟨(ms_at 440 (by decide +kernel) rfl), mw_X1_has, ⟨TX1, 4, rfl⟩, my_X1_has, rfl⟩
theorem cv_X0_81 : ms_okV RX0 81 m_X4_come 4 4 := ⟨(ms_at 870 (by decide +kernel) rfl), mw_X4_come, ⟨TX4, 11, rfl⟩, my_X4_come, rfl⟩
theorem cv_X0_88 : ms_okV RX0 88 m_X0_heatOf 0 1 := ⟨(ms_at 334 (by decide +kernel) rfl), mw_X0_heatOf, ⟨TX0, 10, rfl⟩, my_X0_heatOf, rfl⟩
theorem cv_X0_91 : ms_okV RX0 91 m_X4_isOut 4 0 := ⟨(ms_at 293 (by decide +kernel) rfl), mw_X4_isOut, ⟨TX4, 11, rfl⟩, my_X4_isOut, rfl⟩
theorem cv_X0_101 : ms_okV RX0 101 m_X3_distance 3 2 := ⟨(ms_at 320 (by decide +kernel) rfl), mw_X3_distance, ⟨TX3, 5, rfl⟩, my_X3_distance, rfl⟩
theorem cv_X0_124 : ms_okV RX0 124 m_X1_next 1 2 := ⟨(ms_at 254 (by decide +kernel) rfl), mw_X1_next, ⟨TX1, 4, rfl⟩, my_X1_next, rfl⟩
theorem cv_X0_127 : ms_okV RX0 127 m_X0_countRound 0 1 := ⟨(ms_at 355 (by decide +kernel) rfl), mw_X0_countRound, ⟨TX0, 10, rfl⟩, my_X0_countRound, rfl⟩
theorem cv_X0_130 : ms_okV RX0 130 m_X0_countFacing 0 2 := ⟨(ms_at 356 (by decide +kernel) rfl), mw_X0_countFacing, ⟨TX0, 10, rfl⟩, my_X0_countFacing, rfl⟩
theorem cv_X0_133 : ms_okV RX0 133 m_X0_costOf 0 2 := ⟨(ms_at 369 (by decide +kernel) rfl), mw_X0_costOf, ⟨TX0, 10, rfl⟩, my_X0_costOf, rfl⟩
theorem cv_X0_137 : ms_okV RX0 137 m_X0_step 0 0 := ⟨(ms_at 426 (by decide +kernel) rfl), mw_X0_step, ⟨TX0, 10, rfl⟩, my_X0_step, rfl⟩
theorem cv_X0_140 : ms_okV RX0 140 m_X0_countOut 0 0 := ⟨(ms_at 463 (by decide +kernel) rfl), mw_X0_countOut, ⟨TX0, 10, rfl⟩, my_X0_countOut, rfl⟩
theorem cv_X0_144 : ms_okV RX0 144 m_X0_hasJam 0 0 := ⟨(ms_at 472 (by decide +kernel) rfl), mw_X0_hasJam, ⟨TX0, 10, rfl⟩, my_X0_hasJam, rfl⟩
theorem cv_X0_147 : ms_okV RX0 147 m_X0_isJammed 0 1 := ⟨(ms_at 476 (by decide +kernel) rfl), mw_X0_isJammed, ⟨TX0, 10, rfl⟩, my_X0_isJammed, rfl⟩
theorem cv_X0_151 : ms_okV RX0 151 m_X4_isTurnAt 4 1 := ⟨(ms_at 430 (by decide +kernel) rfl), mw_X4_isTurnAt, ⟨TX4, 11, rfl⟩, my_X4_isTurnAt, rfl⟩
theorem cv_X0_158 : ms_okV RX0 158 m_X0_bestSide 0 1 := ⟨(ms_at 435 (by decide +kernel) rfl), mw_X0_bestSide, ⟨TX0, 10, rfl⟩, my_X0_bestSide, rfl⟩
theorem cv_X0_162 : ms_okV RX0 162 m_X0_aim 0 2 := ⟨(ms_at 436 (by decide +kernel) rfl), mw_X0_aim, ⟨TX0, 10, rfl⟩, my_X0_aim, rfl⟩
theorem cv_X0_166 : ms_okV RX0 166 m_X0_claim 0 1 := ⟨(ms_at 441 (by decide +kernel) rfl), mw_X0_claim, ⟨TX0, 10, rfl⟩, my_X0_claim, rfl⟩
theorem cv_X0_170 : ms_okV RX0 170 m_X0_goOrWait 0 1 := ⟨(ms_at 445 (by decide +kernel) rfl), mw_X0_goOrWait, ⟨TX0, 10, rfl⟩, my_X0_goOrWait, rfl⟩
theorem cv_X0_179 : ms_okV RX0 179 m_X0_go 0 2 := ⟨(ms_at 449 (by decide +kernel) rfl), mw_X0_go, ⟨TX0, 10, rfl⟩, my_X0_go, rfl⟩
theorem cv_X0_182 : ms_okV RX0 182 m_X3_isMarked 3 2 := ⟨(ms_at 453 (by decide +kernel) rfl), mw_X3_isMarked, ⟨TX3, 5, rfl⟩, my_X3_isMarked, rfl⟩
theorem cv_X1_25 : ms_okV RX1 25 m_X1_link 1 2 := ⟨(ms_at 675 (by decide +kernel) rfl), mw_X1_link, ⟨TX1, 4, rfl⟩, my_X1_link, rfl⟩
theorem cv_X1_29 : ms_okV RX1 29 m_X1_number 1 2 := ⟨(ms_at 679 (by decide +kernel) rfl), mw_X1_number, ⟨TX1, 4, rfl⟩, my_X1_number, rfl⟩
theorem cv_X1_33 : ms_okV RX1 33 m_X1_has 1 1 := ⟨(ms_at 680 (by decide +kernel) rfl), mw_X1_has, ⟨TX1, 4, rfl⟩, my_X1_has, rfl⟩
theorem cv_X2_31 : ms_okV RX2 31 m_X2_isNewOne 2 2 := ⟨(ms_at 283 (by decide +kernel) rfl), mw_X2_isNewOne, ⟨TX2, 5, rfl⟩, my_X2_isNewOne, rfl⟩
theorem cv_X2_35 : ms_okV RX2 35 m_X2_gather 2 2 := ⟨(ms_at 297 (by decide +kernel) rfl), mw_X2_gather, ⟨TX2, 5, rfl⟩, my_X2_gather, rfl⟩
theorem cv_X2_39 : ms_okV RX2 39 m_X0_get 0 1 := ⟨(ms_at 288 (by decide +kernel) rfl), mw_X0_get, ⟨TX0, 10, rfl⟩, my_X0_get, rfl⟩
theorem cv_X2_43 : ms_okV RX2 43 m_X0_isJammed 0 1 := ⟨(ms_at 289 (by decide +kernel) rfl), mw_X0_isJammed, ⟨TX0, 10, rfl⟩, my_X0_isJammed, rfl⟩
theorem cv_X2_47 : ms_okV RX2 47 m_X2_gatherBeside 2 3 := ⟨(ms_at 301 (by decide +kernel) rfl), mw_X2_gatherBeside, ⟨TX2, 5, rfl⟩, my_X2_gatherBeside, rfl⟩
theorem cv_X2_60 : ms_okV RX2 60 m_X1_next 1 2 := ⟨(ms_at 305 (by decide +kernel) rfl), mw_X1_next, ⟨TX1, 4, rfl⟩, my_X1_next, rfl⟩
theorem cv_X2_66 : ms_okV RX2 66 m_X0_numberOn 0 1 := ⟨(ms_at 306 (by decide +kernel) rfl), mw_X0_numberOn, ⟨TX0, 10, rfl⟩, my_X0_numberOn, rfl⟩
theorem cv_X3_34 : ms_okV RX3 34 m_X1_has 1 1 := ⟨(ms_at 151 (by decide +kernel) rfl), mw_X1_has, ⟨TX1, 4, rfl⟩, my_X1_has, rfl⟩
theorem csn_X3_40 : ms_okSN RX3 40 m_X5_isGoal RX5 1 := ⟨by decide +kernel, mw_X5_isGoal, my_X5_isGoal, rfl⟩
theorem cv_X3_47 : ms_okV RX3 47 m_X3_isFree 3 1 := ⟨(ms_at 163 (by decide +kernel) rfl), mw_X3_isFree, ⟨TX3, 5, rfl⟩, my_X3_isFree, rfl⟩
theorem cv_X3_50 : ms_okV RX3 50 m_X3_isMarked 3 2 := ⟨(ms_at 167 (by decide +kernel) rfl), mw_X3_isMarked, ⟨TX3, 5, rfl⟩, my_X3_isMarked, rfl⟩
theorem cv_X3_54 : ms_okV RX3 54 m_X3_distance 3 2 := ⟨(ms_at 191 (by decide +kernel) rfl), mw_X3_distance, ⟨TX3, 5, rfl⟩, my_X3_distance, rfl⟩
theorem cv_X3_63 : ms_okV RX3 63 m_X3_measure 3 1 := ⟨(ms_at 159 (by decide +kernel) rfl), mw_X3_measure, ⟨TX3, 5, rfl⟩, my_X3_measure, rfl⟩
theorem cv_X3_67 : ms_okV RX3 67 m_X3_keepDistance 3 3 := ⟨(ms_at 174 (by decide +kernel) rfl), mw_X3_keepDistance, ⟨TX3, 5, rfl⟩, my_X3_keepDistance, rfl⟩
theorem cv_X3_71 : ms_okV RX3 71 m_X3_enqueue 3 2 := ⟨(ms_at 179 (by decide +kernel) rfl), mw_X3_enqueue, ⟨TX3, 5, rfl⟩, my_X3_enqueue, rfl⟩
theorem cv_X3_74 : ms_okV RX3 74 m_X3_spread 3 3 := ⟨(ms_at 183 (by decide +kernel) rfl), mw_X3_spread, ⟨TX3, 5, rfl⟩, my_X3_spread, rfl⟩
theorem cv_X3_78 : ms_okV RX3 78 m_X1_next 1 2 := ⟨(ms_at 187 (by decide +kernel) rfl), mw_X1_next, ⟨TX1, 4, rfl⟩, my_X1_next, rfl⟩
theorem cv_X3_81 : ms_okV RX3 81 m_X3_nearer 3 2 := ⟨(ms_at 379 (by decide +kernel) rfl), mw_X3_nearer, ⟨TX3, 5, rfl⟩, my_X3_nearer, rfl⟩
theorem cv_X4_36 : ms_okV RX4 36 m_X4_isOut 4 0 := ⟨(ms_at 434 (by decide +kernel) rfl), mw_X4_isOut, ⟨TX4, 11, rfl⟩, my_X4_isOut, rfl⟩
theorem cin_X5_9 : ms_okIN RX5 9 m_X1_init RX5 0 := ⟨by decide +kernel, mw_X1_init, rfl, my_X1_init, rfl, rfl⟩
theorem ci_X5_18 : ms_okI RX5 18 m_X3_init 1 := ⟨(ms_at 529 (by decide +kernel) rfl), mw_X3_init, rfl, my_X3_init, rfl, rfl⟩
theorem ci_X5_27 : ms_okI RX5 27 m_X0_init 2 := ⟨(ms_at 550 (by decide +kernel) rfl), mw_X0_init, rfl, my_X0_init, rfl, rfl⟩
theorem cin_X5_36 : ms_okIN RX5 36 m_X2_init RX5 0 := ⟨by decide +kernel, mw_X2_init, rfl, my_X2_init, rfl, rfl⟩
theorem cv_X5_47 : ms_okV RX5 47 m_X5_makeNew 5 2 := ⟨(ms_at 667 (by decide +kernel) rfl), mw_X5_makeNew, ⟨TX5, 6, rfl⟩, my_X5_makeNew, rfl⟩
theorem cv_X5_62 : ms_okV RX5 62 m_X1_number 1 2 := ⟨(ms_at 42 (by decide +kernel) rfl), mw_X1_number, ⟨TX1, 4, rfl⟩, my_X1_number, rfl⟩
theorem cv_X5_79 : ms_okV RX5 79 m_X0_isAnyoneIn 0 4 := ⟨(ms_at 122 (by decide +kernel) rfl), mw_X0_isAnyoneIn, ⟨TX0, 10, rfl⟩, my_X0_isAnyoneIn, rfl⟩
theorem cv_X5_88 : ms_okV RX5 88 m_X3_build 3 2 := ⟨(ms_at 147 (by decide +kernel) rfl), mw_X3_build, ⟨TX3, 5, rfl⟩, my_X3_build, rfl⟩
theorem cv_X5_92 : ms_okV RX5 92 m_X3_measureAll 3 0 := ⟨(ms_at 155 (by decide +kernel) rfl), mw_X3_measureAll, ⟨TX3, 5, rfl⟩, my_X3_measureAll, rfl⟩
theorem cv_X5_95 : ms_okV RX5 95 m_X3_countWalls 3 0 := ⟨(ms_at 195 (by decide +kernel) rfl), mw_X3_countWalls, ⟨TX3, 5, rfl⟩, my_X3_countWalls, rfl⟩
theorem cs_X5_99 : ms_okS RX5 99 m_X5_isGoal 1 := ⟨rfl, (ms_at 203 (by decide +kernel) rfl), mw_X5_isGoal, my_X5_isGoal⟩
theorem cv_X5_105 : ms_okV RX5 105 m_X0_numberOn 0 1 := ⟨(ms_at 205 (by decide +kernel) rfl), mw_X0_numberOn, ⟨TX0, 10, rfl⟩, my_X0_numberOn, rfl⟩
theorem cv_X5_109 : ms_okV RX5 109 m_X0_get 0 1 := ⟨(ms_at 206 (by decide +kernel) rfl), mw_X0_get, ⟨TX0, 10, rfl⟩, my_X0_get, rfl⟩
theorem cv_X5_120 : ms_okV RX5 120 m_X3_turnMark 3 2 := ⟨(ms_at 211 (by decide +kernel) rfl), mw_X3_turnMark, ⟨TX3, 5, rfl⟩, my_X3_turnMark, rfl⟩
theorem cv_X5_123 : ms_okV RX5 123 m_X3_measure 3 1 := ⟨(ms_at 215 (by decide +kernel) rfl), mw_X3_measure, ⟨TX3, 5, rfl⟩, my_X3_measure, rfl⟩
theorem cv_X5_127 : ms_okV RX5 127 m_X3_countMarks 3 1 := ⟨(ms_at 216 (by decide +kernel) rfl), mw_X3_countMarks, ⟨TX3, 5, rfl⟩, my_X3_countMarks, rfl⟩
theorem cv_X5_140 : ms_okV RX5 140 m_X5_fieldFigure 5 2 := ⟨(ms_at 240 (by decide +kernel) rfl), mw_X5_fieldFigure, ⟨TX5, 6, rfl⟩, my_X5_fieldFigure, rfl⟩
theorem cv_X5_143 : ms_okV RX5 143 m_X3_distance 3 2 := ⟨(ms_at 259 (by decide +kernel) rfl), mw_X3_distance, ⟨TX3, 5, rfl⟩, my_X3_distance, rfl⟩
theorem cv_X5_148 : ms_okV RX5 148 m_X3_greatestDistance 3 1 := ⟨(ms_at 265 (by decide +kernel) rfl), mw_X3_greatestDistance, ⟨TX3, 5, rfl⟩, my_X3_greatestDistance, rfl⟩
theorem cs_X5_151 : ms_okS RX5 151 m_X5_isMood 1 := ⟨rfl, (ms_at 860 (by decide +kernel) rfl), mw_X5_isMood, my_X5_isMood⟩
theorem cv_X5_156 : ms_okV RX5 156 m_X3_isFree 3 1 := ⟨(ms_at 245 (by decide +kernel) rfl), mw_X3_isFree, ⟨TX3, 5, rfl⟩, my_X3_isFree, rfl⟩
theorem cv_X5_159 : ms_okV RX5 159 m_X3_isMarked 3 2 := ⟨(ms_at 864 (by decide +kernel) rfl), mw_X3_isMarked, ⟨TX3, 5, rfl⟩, my_X3_isMarked, rfl⟩
theorem cv_X5_168 : ms_okV RX5 168 m_X0_add 0 4 := ⟨(ms_at 866 (by decide +kernel) rfl), mw_X0_add, ⟨TX0, 10, rfl⟩, my_X0_add, rfl⟩
theorem cv_X5_176 : ms_okV RX5 176 m_X4_isOut 4 0 := ⟨(ms_at 348 (by decide +kernel) rfl), mw_X4_isOut, ⟨TX4, 11, rfl⟩, my_X4_isOut, rfl⟩
theorem cv_X5_190 : ms_okV RX5 190 m_X0_countOut 0 0 := ⟨(ms_at 311 (by decide +kernel) rfl), mw_X0_countOut, ⟨TX0, 10, rfl⟩, my_X0_countOut, rfl⟩
theorem cv_X5_193 : ms_okV RX5 193 m_X0_outAfter 0 1 := ⟨(ms_at 459 (by decide +kernel) rfl), mw_X0_outAfter, ⟨TX0, 10, rfl⟩, my_X0_outAfter, rfl⟩
theorem cv_X5_201 : ms_okV RX5 201 m_X2_find 2 1 := ⟨(ms_at 279 (by decide +kernel) rfl), mw_X2_find, ⟨TX2, 5, rfl⟩, my_X2_find, rfl⟩
theorem cv_X5_205 : ms_okV RX5 205 m_X5_crowdFigure 5 1 := ⟨(ms_at 307 (by decide +kernel) rfl), mw_X5_crowdFigure, ⟨TX5, 6, rfl⟩, my_X5_crowdFigure, rfl⟩
theorem cv_X5_210 : ms_okV RX5 210 m_X0_walkerFigure 0 2 := ⟨(ms_at 340 (by decide +kernel) rfl), mw_X0_walkerFigure, ⟨TX0, 10, rfl⟩, my_X0_walkerFigure, rfl⟩
theorem cv_X5_218 : ms_okV RX5 218 m_X0_costOf 0 2 := ⟨(ms_at 351 (by decide +kernel) rfl), mw_X0_costOf, ⟨TX0, 10, rfl⟩, my_X0_costOf, rfl⟩
theorem cv_X5_221 : ms_okV RX5 221 m_X0_bestSide 0 1 := ⟨(ms_at 365 (by decide +kernel) rfl), mw_X0_bestSide, ⟨TX0, 10, rfl⟩, my_X0_bestSide, rfl⟩
theorem cv_X5_227 : ms_okV RX5 227 m_X3_fieldOnWay 3 3 := ⟨(ms_at 375 (by decide +kernel) rfl), mw_X3_fieldOnWay, ⟨TX3, 5, rfl⟩, my_X3_fieldOnWay, rfl⟩
theorem cv_X5_231 : ms_okV RX5 231 m_X2_sizeAround 2 1 := ⟨(ms_at 387 (by decide +kernel) rfl), mw_X2_sizeAround, ⟨TX2, 5, rfl⟩, my_X2_sizeAround, rfl⟩
theorem cs_X5_238 : ms_okS RX5 238 m_X5_isAhead 1 := ⟨rfl, (ms_at 395 (by decide +kernel) rfl), mw_X5_isAhead, my_X5_isAhead⟩
theorem cv_X5_243 : ms_okV RX5 243 m_X5_copyToTrial 5 0 := ⟨(ms_at 399 (by decide +kernel) rfl), mw_X5_copyToTrial, ⟨TX5, 6, rfl⟩, my_X5_copyToTrial, rfl⟩
theorem cv_X5_246 : ms_okV RX5 246 m_X0_ticksTillOut 0 2 := ⟨(ms_at 422 (by decide +kernel) rfl), mw_X0_ticksTillOut, ⟨TX0, 10, rfl⟩, my_X0_ticksTillOut, rfl⟩
theorem cv_X5_251 : ms_okV RX5 251 m_X0_ticksTillJam 0 1 := ⟨(ms_at 468 (by decide +kernel) rfl), mw_X0_ticksTillJam, ⟨TX0, 10, rfl⟩, my_X0_ticksTillJam, rfl⟩
theorem cs_X5_263 : ms_okS RX5 263 m_X5_mix 2 := ⟨rfl, (ms_at 482 (by decide +kernel) rfl), mw_X5_mix, my_X5_mix⟩
theorem cv_X5_267 : ms_okV RX5 267 m_X5_mixWalker 5 2 := ⟨(ms_at 486 (by decide +kernel) rfl), mw_X5_mixWalker, ⟨TX5, 6, rfl⟩, my_X5_mixWalker, rfl⟩
theorem cv_X5_270 : ms_okV RX5 270 m_X5_mixField 5 2 := ⟨(ms_at 490 (by decide +kernel) rfl), mw_X5_mixField, ⟨TX5, 6, rfl⟩, my_X5_mixField, rfl⟩
theorem cv_X5_273 : ms_okV RX5 273 m_X1_shape 1 2 := ⟨(ms_at 671 (by decide +kernel) rfl), mw_X1_shape, ⟨TX1, 4, rfl⟩, my_X1_shape, rfl⟩
theorem cv_X5_276 : ms_okV RX5 276 m_X3_clear 3 0 := ⟨(ms_at 685 (by decide +kernel) rfl), mw_X3_clear, ⟨TX3, 5, rfl⟩, my_X3_clear, rfl⟩
theorem cv_X5_279 : ms_okV RX5 279 m_X0_clear 0 0 := ⟨(ms_at 689 (by decide +kernel) rfl), mw_X0_clear, ⟨TX0, 10, rfl⟩, my_X0_clear, rfl⟩
theorem cv_X5_254 : ms_okV RX5 254 m_X3_copyFrom 3 1 := ⟨(ms_at 403 (by decide +kernel) rfl), mw_X3_copyFrom, ⟨TX3, 5, rfl⟩, my_X3_copyFrom, rfl⟩
theorem cv_X5_280 : ms_okV RX5 280 m_X0_copyFrom 0 1 := ⟨(ms_at 410 (by decide +kernel) rfl), mw_X0_copyFrom, ⟨TX0, 10, rfl⟩, my_X0_copyFrom, rfl⟩
theorem cv_X5_282 : ms_okV RX5 282 m_X0_heatOf 0 1 := ⟨(ms_at 246 (by decide +kernel) rfl), mw_X0_heatOf, ⟨TX0, 10, rfl⟩, my_X0_heatOf, rfl⟩
theorem cv_X5_285 : ms_okV RX5 285 m_X0_countRound 0 1 := ⟨(ms_at 250 (by decide +kernel) rfl), mw_X0_countRound, ⟨TX0, 10, rfl⟩, my_X0_countRound, rfl⟩
theorem cv_X5_288 : ms_okV RX5 288 m_X0_countLost 0 0 := ⟨(ms_at 316 (by decide +kernel) rfl), mw_X0_countLost, ⟨TX0, 10, rfl⟩, my_X0_countLost, rfl⟩
theorem cv_X5_295 : ms_okV RX5 295 m_X2_greatest 2 0 := ⟨(ms_at 321 (by decide +kernel) rfl), mw_X2_greatest, ⟨TX2, 5, rfl⟩, my_X2_greatest, rfl⟩
theorem cv_X5_234 : ms_okV RX5 234 m_X0_countSteps 0 1 := ⟨(ms_at 326 (by decide +kernel) rfl), mw_X0_countSteps, ⟨TX0, 10, rfl⟩, my_X0_countSteps, rfl⟩
theorem cv_X5_298 : ms_okV RX5 298 m_X0_hottest 0 0 := ⟨(ms_at 330 (by decide +kernel) rfl), mw_X0_hottest, ⟨TX0, 10, rfl⟩, my_X0_hottest, rfl⟩
theorem ci_X6_9 : ms_okI RX6 9 m_X5_init 0 := ⟨(ms_at 501 (by decide +kernel) rfl), mw_X5_init, rfl, my_X5_init, rfl, rfl⟩
theorem csn_X6_46 : ms_okSN RX6 46 m_L_cell RL 2 := ⟨by decide +kernel, mw_L_cell, my_L_cell, rfl⟩
theorem csn_X6_52 : ms_okSN RX6 52 m_L_below RL 2 := ⟨by decide +kernel, mw_L_below, my_L_below, rfl⟩
theorem cv_X6_56 : ms_okV RX6 56 m_X6_draw 6 1 := ⟨(ms_at 771 (by decide +kernel) rfl), mw_X6_draw, ⟨TX6, 10, rfl⟩, my_X6_draw, rfl⟩
theorem cv_X6_63 : ms_okV RX6 63 m_X5_reset 5 2 := ⟨(ms_at 821 (by decide +kernel) rfl), mw_X5_reset, ⟨TX5, 6, rfl⟩, my_X5_reset, rfl⟩
theorem cv_X6_74 : ms_okV RX6 74 m_X6_isOn 6 2 := ⟨(ms_at 799 (by decide +kernel) rfl), mw_X6_isOn, ⟨TX6, 10, rfl⟩, my_X6_isOn, rfl⟩
theorem cv_X6_78 : ms_okV RX6 78 m_X5_wall 5 5 := ⟨(ms_at 847 (by decide +kernel) rfl), mw_X5_wall, ⟨TX5, 6, rfl⟩, my_X5_wall, rfl⟩
theorem cv_X6_82 : ms_okV RX6 82 m_X6_walls 6 0 := ⟨(ms_at 848 (by decide +kernel) rfl), mw_X6_walls, ⟨TX6, 10, rfl⟩, my_X6_walls, rfl⟩
theorem cv_X6_88 : ms_okV RX6 88 m_X5_mark 5 3 := ⟨(ms_at 840 (by decide +kernel) rfl), mw_X5_mark, ⟨TX5, 6, rfl⟩, my_X5_mark, rfl⟩
theorem cv_X6_92 : ms_okV RX6 92 m_X5_set 5 2 := ⟨(ms_at 830 (by decide +kernel) rfl), mw_X5_set, ⟨TX5, 6, rfl⟩, my_X5_set, rfl⟩
theorem cv_X6_95 : ms_okV RX6 95 m_X5_walker 5 5 := ⟨(ms_at 856 (by decide +kernel) rfl), mw_X5_walker, ⟨TX5, 6, rfl⟩, my_X5_walker, rfl⟩
theorem cv_X6_105 : ms_okV RX6 105 m_X5_turnTo 5 3 := ⟨(ms_at 883 (by decide +kernel) rfl), mw_X5_turnTo, ⟨TX5, 6, rfl⟩, my_X5_turnTo, rfl⟩
theorem cv_X6_109 : ms_okV RX6 109 m_X6_isFree 6 2 := ⟨(ms_at 781 (by decide +kernel) rfl), mw_X6_isFree, ⟨TX6, 10, rfl⟩, my_X6_isFree, rfl⟩
theorem cs_X6_112 : ms_okS RX6 112 m_X6_sideX 1 := ⟨rfl, (ms_at 785 (by decide +kernel) rfl), mw_X6_sideX, my_X6_sideX⟩
theorem cs_X6_115 : ms_okS RX6 115 m_X6_sideY 1 := ⟨rfl, (ms_at 788 (by decide +kernel) rfl), mw_X6_sideY, my_X6_sideY⟩
theorem cs_X6_118 : ms_okS RX6 118 m_X6_areNear 3 := ⟨rfl, (ms_at 804 (by decide +kernel) rfl), mw_X6_areNear, my_X6_areNear⟩
theorem cv_X6_122 : ms_okV RX6 122 m_X6_round 6 3 := ⟨(ms_at 800 (by decide +kernel) rfl), mw_X6_round, ⟨TX6, 10, rfl⟩, my_X6_round, rfl⟩
theorem cv_X6_125 : ms_okV RX6 125 m_X6_cost 6 3 := ⟨(ms_at 795 (by decide +kernel) rfl), mw_X6_cost, ⟨TX6, 10, rfl⟩, my_X6_cost, rfl⟩
theorem cv_X6_129 : ms_okV RX6 129 m_X6_far 6 1 := ⟨(ms_at 777 (by decide +kernel) rfl), mw_X6_far, ⟨TX6, 10, rfl⟩, my_X6_far, rfl⟩
theorem cv_X6_133 : ms_okV RX6 133 m_X6_wants 6 2 := ⟨(ms_at 791 (by decide +kernel) rfl), mw_X6_wants, ⟨TX6, 10, rfl⟩, my_X6_wants, rfl⟩
theorem cv_X6_137 : ms_okV RX6 137 m_X6_tick 6 0 := ⟨(ms_at 772 (by decide +kernel) rfl), mw_X6_tick, ⟨TX6, 10, rfl⟩, my_X6_tick, rfl⟩
theorem cv_X6_140 : ms_okV RX6 140 m_X5_tick 5 1 := ⟨(ms_at 807 (by decide +kernel) rfl), mw_X5_tick, ⟨TX5, 6, rfl⟩, my_X5_tick, rfl⟩
theorem cv_X6_142 : ms_okV RX6 142 m_X6_reset 6 0 := ⟨(ms_at 817 (by decide +kernel) rfl), mw_X6_reset, ⟨TX6, 10, rfl⟩, my_X6_reset, rfl⟩
theorem cv_X6_145 : ms_okV RX6 145 m_X6_set 6 0 := ⟨(ms_at 826 (by decide +kernel) rfl), mw_X6_set, ⟨TX6, 10, rfl⟩, my_X6_set, rfl⟩
theorem cvh_X6_147 : ms_okVH RX6 147 m_X6_mark 6 0 := ⟨(ms_at 835 (by decide +kernel) rfl), mw_X6_mark, ⟨TX6, 10, rfl⟩, my_X6_mark, fun h => by cases h⟩
theorem cvh_X6_149 : ms_okVH RX6 149 m_X6_wall 6 0 := ⟨(ms_at 841 (by decide +kernel) rfl), mw_X6_wall, ⟨TX6, 10, rfl⟩, my_X6_wall, fun h => by cases h⟩
theorem cvh_X6_151 : ms_okVH RX6 151 m_X6_add 6 0 := ⟨(ms_at 852 (by decide +kernel) rfl), mw_X6_add, ⟨TX6, 10, rfl⟩, my_X6_add, fun h => by cases h⟩
theorem cvh_X6_154 : ms_okVH RX6 154 m_X6_turnTo 6 0 := ⟨(ms_at 879 (by decide +kernel) rfl), mw_X6_turnTo, ⟨TX6, 10, rfl⟩, my_X6_turnTo, fun h => by cases h⟩
theorem cv_X6_156 : ms_okV RX6 156 m_X6_tick_ 6 1 := ⟨(ms_at 890 (by decide +kernel) rfl), mw_X6_tick_, ⟨TX6, 10, rfl⟩, my_X6_tick_, rfl⟩
theorem ci_L_11 : ms_okI RL 11 m_X6_init 2 := ⟨(ms_at 496 (by decide +kernel) rfl), mw_X6_init, rfl, my_X6_init, rfl, rfl⟩
theorem cv_L_18 : ms_okV RL 18 m_X6_found 6 0 := ⟨(ms_at 813 (by decide +kernel) rfl), mw_X6_found, ⟨TX6, 10, rfl⟩, my_X6_found, rfl⟩
theorem cv_L_22 : ms_okV RL 22 m_X6_act 6 0 := ⟨(ms_at 875 (by decide +kernel) rfl), mw_X6_act, ⟨TX6, 10, rfl⟩, my_X6_act, rfl⟩
theorem cv_L_25 : ms_okV RL 25 m_X6_tick_ 6 1 := ⟨(ms_at 767 (by decide +kernel) rfl), mw_X6_tick_, ⟨TX6, 10, rfl⟩, my_X6_tick_, rfl⟩
theorem cv_L_29 : ms_okV RL 29 m_X5_digest 5 0 := ⟨(ms_at 477 (by decide +kernel) rfl), mw_X5_digest, ⟨TX5, 6, rfl⟩, my_X5_digest, rfl⟩
theorem cv_L_42 : ms_okV RL 42 m_X5_field 5 3 := ⟨(ms_at 220 (by decide +kernel) rfl), mw_X5_field, ⟨TX5, 6, rfl⟩, my_X5_field, rfl⟩
theorem cv_L_46 : ms_okV RL 46 m_X5_ofWalker 5 2 := ⟨(ms_at 335 (by decide +kernel) rfl), mw_X5_ofWalker, ⟨TX5, 6, rfl⟩, my_X5_ofWalker, rfl⟩
theorem cv_L_50 : ms_okV RL 50 m_X5_many 5 1 := ⟨(ms_at 274 (by decide +kernel) rfl), mw_X5_many, ⟨TX5, 6, rfl⟩, my_X5_many, rfl⟩
theorem cv_L_54 : ms_okV RL 54 m_X5_far 5 3 := ⟨(ms_at 255 (by decide +kernel) rfl), mw_X5_far, ⟨TX5, 6, rfl⟩, my_X5_far, rfl⟩
theorem cv_L_57 : ms_okV RL 57 m_X5_farthest 5 1 := ⟨(ms_at 260 (by decide +kernel) rfl), mw_X5_farthest, ⟨TX5, 6, rfl⟩, my_X5_farthest, rfl⟩
theorem cv_L_65 : ms_okV RL 65 m_X5_jam 5 1 := ⟨(ms_at 383 (by decide +kernel) rfl), mw_X5_jam, ⟨TX5, 6, rfl⟩, my_X5_jam, rfl⟩
theorem cv_L_68 : ms_okV RL 68 m_X5_clock 5 0 := ⟨(ms_at 270 (by decide +kernel) rfl), mw_X5_clock, ⟨TX5, 6, rfl⟩, my_X5_clock, rfl⟩
theorem cv_L_72 : ms_okV RL 72 m_X5_outIn 5 2 := ⟨(ms_at 391 (by decide +kernel) rfl), mw_X5_outIn, ⟨TX5, 6, rfl⟩, my_X5_outIn, rfl⟩
theorem cv_L_75 : ms_okV RL 75 m_X5_wants 5 1 := ⟨(ms_at 361 (by decide +kernel) rfl), mw_X5_wants, ⟨TX5, 6, rfl⟩, my_X5_wants, rfl⟩
theorem cv_L_78 : ms_okV RL 78 m_X5_cost 5 2 := ⟨(ms_at 344 (by decide +kernel) rfl), mw_X5_cost, ⟨TX5, 6, rfl⟩, my_X5_cost, rfl⟩
theorem cv_L_81 : ms_okV RL 81 m_X5_way 5 2 := ⟨(ms_at 370 (by decide +kernel) rfl), mw_X5_way, ⟨TX5, 6, rfl⟩, my_X5_way, rfl⟩
theorem cv_L_84 : ms_okV RL 84 m_X5_jamIn 5 1 := ⟨(ms_at 464 (by decide +kernel) rfl), mw_X5_jamIn, ⟨TX5, 6, rfl⟩, my_X5_jamIn, rfl⟩
theorem cv_L_90 : ms_okV RL 90 m_X5_outWith 5 2 := ⟨(ms_at 454 (by decide +kernel) rfl), mw_X5_outWith, ⟨TX5, 6, rfl⟩, my_X5_outWith, rfl⟩
theorem cv_L_93 : ms_okV RL 93 m_X6_draw 6 1 := ⟨(ms_at 751 (by decide +kernel) rfl), mw_X6_draw, ⟨TX6, 10, rfl⟩, my_X6_draw, rfl⟩
theorem cv_L_96 : ms_okV RL 96 m_X5_wall 5 5 := ⟨(ms_at 38 (by decide +kernel) rfl), mw_X5_wall, ⟨TX5, 6, rfl⟩, my_X5_wall, rfl⟩
theorem cv_L_100 : ms_okV RL 100 m_X6_isOn 6 2 := ⟨(ms_at 763 (by decide +kernel) rfl), mw_X6_isOn, ⟨TX6, 10, rfl⟩, my_X6_isOn, rfl⟩
theorem cv_L_104 : ms_okV RL 104 m_X5_mark 5 3 := ⟨(ms_at 199 (by decide +kernel) rfl), mw_X5_mark, ⟨TX5, 6, rfl⟩, my_X5_mark, rfl⟩
theorem lc_X5_261 : Cond.constantLong RX5 261 967 ∈ ms_big := (ms_at 481 (by decide +kernel) rfl)
theorem lc_X5_301 : Cond.constantLong RX5 301 31 ∈ ms_big := (ms_at 485 (by decide +kernel) rfl)
theorem li_L_8 : Cond.constant RL 8 790386105 ∈ ms_big := (ms_at 758 (by decide +kernel) rfl)
theorem li_L_7 : Cond.constant RL 7 2147483647 ∈ ms_big := (ms_at 762 (by decide +kernel) rfl)
theorem oi_X5_1 : ∀ w ∈ [Cond.methodLink RX5 1 Lib.objectInit, Cond.instanceMethod Lib.objectInit, Cond.code Lib.objectInit ⟨#[0xb1]⟩ 1 none], w ∈ ms_big := ms_sub _ [504, 72, 73] (by decide +kernel) (by decide +kernel)
theorem mm_X5_71 : ∀ w ∈ [Cond.methodLink RX5 71 Lib.Math.min.name, Cond.static Lib.Math.min.name, Cond.initialized "java/lang/Math", Cond.code Lib.Math.min.name Lib.Math.min.code 2 (some .int)], w ∈ ms_big := ms_sub _ [116, 117, 36, 118] (by decide +kernel) (by decide +kernel)
theorem mm_X5_76 : ∀ w ∈ [Cond.methodLink RX5 76 Lib.Math.max.name, Cond.static Lib.Math.max.name, Cond.initialized "java/lang/Math", Cond.code Lib.Math.max.name Lib.Math.max.code 2 (some .int)], w ∈ ms_big := ms_sub _ [119, 120, 36, 121] (by decide +kernel) (by decide +kernel)
theorem oi_X0_3 : ∀ w ∈ [Cond.methodLink RX0 3 Lib.objectInit, Cond.instanceMethod Lib.objectInit, Cond.code Lib.objectInit ⟨#[0xb1]⟩ 1 none], w ∈ ms_big := ms_sub _ [553, 72, 73] (by decide +kernel) (by decide +kernel)
theorem ac_X0_49 : ∀ w ∈ [Cond.methodLink RX0 49 arraycopyName, Cond.native arraycopyName, Cond.static arraycopyName, Cond.initialized "java/lang/System"], w ∈ ms_big := ms_sub _ [414, 409, 408, 37] (by decide +kernel) (by decide +kernel)
theorem oi_X1_3 : ∀ w ∈ [Cond.methodLink RX1 3 Lib.objectInit, Cond.instanceMethod Lib.objectInit, Cond.code Lib.objectInit ⟨#[0xb1]⟩ 1 none], w ∈ ms_big := ms_sub _ [510, 72, 73] (by decide +kernel) (by decide +kernel)
theorem oi_X2_3 : ∀ w ∈ [Cond.methodLink RX2 3 Lib.objectInit, Cond.instanceMethod Lib.objectInit, Cond.code Lib.objectInit ⟨#[0xb1]⟩ 1 none], w ∈ ms_big := ms_sub _ [648, 72, 73] (by decide +kernel) (by decide +kernel)
theorem mm_X2_70 : ∀ w ∈ [Cond.methodLink RX2 70 Lib.Math.max.name, Cond.static Lib.Math.max.name, Cond.initialized "java/lang/Math", Cond.code Lib.Math.max.name Lib.Math.max.code 2 (some .int)], w ∈ ms_big := ms_sub _ [325, 120, 36, 121] (by decide +kernel) (by decide +kernel)
theorem oi_X3_3 : ∀ w ∈ [Cond.methodLink RX3 3 Lib.objectInit, Cond.instanceMethod Lib.objectInit, Cond.code Lib.objectInit ⟨#[0xb1]⟩ 1 none], w ∈ ms_big := ms_sub _ [532, 72, 73] (by decide +kernel) (by decide +kernel)
theorem ac_X3_28 : ∀ w ∈ [Cond.methodLink RX3 28 arraycopyName, Cond.native arraycopyName, Cond.static arraycopyName, Cond.initialized "java/lang/System"], w ∈ ms_big := ms_sub _ [407, 409, 408, 37] (by decide +kernel) (by decide +kernel)
theorem mm_X3_58 : ∀ w ∈ [Cond.methodLink RX3 58 Lib.Math.max.name, Cond.static Lib.Math.max.name, Cond.initialized "java/lang/Math", Cond.code Lib.Math.max.name Lib.Math.max.code 2 (some .int)], w ∈ ms_big := ms_sub _ [269, 120, 36, 121] (by decide +kernel) (by decide +kernel)
theorem oi_X4_3 : ∀ w ∈ [Cond.methodLink RX4 3 Lib.objectInit, Cond.instanceMethod Lib.objectInit, Cond.code Lib.objectInit ⟨#[0xb1]⟩ 1 none], w ∈ ms_big := ms_sub _ [560, 72, 73] (by decide +kernel) (by decide +kernel)
theorem mm_L_60 : ∀ w ∈ [Cond.methodLink RL 60 Lib.Math.abs.name, Cond.static Lib.Math.abs.name, Cond.initialized "java/lang/Math", Cond.code Lib.Math.abs.name Lib.Math.abs.code 1 (some .int)], w ∈ ms_big := ms_sub _ [891, 892, 36, 893] (by decide +kernel) (by decide +kernel)
theorem oi_X6_1 : ∀ w ∈ [Cond.methodLink RX6 1 Lib.objectInit, Cond.instanceMethod Lib.objectInit, Cond.code Lib.objectInit ⟨#[0xb1]⟩ 1 none], w ∈ ms_big := ms_sub _ [499, 72, 73] (by decide +kernel) (by decide +kernel)
theorem mm_X6_66 : ∀ w ∈ [Cond.methodLink RX6 66 Lib.Math.min.name, Cond.static Lib.Math.min.name, Cond.initialized "java/lang/Math", Cond.code Lib.Math.min.name Lib.Math.min.code 2 (some .int)], w ∈ ms_big := ms_sub _ [845, 117, 36, 118] (by decide +kernel) (by decide +kernel)
theorem mm_X6_71 : ∀ w ∈ [Cond.methodLink RX6 71 Lib.Math.max.name, Cond.static Lib.Math.max.name, Cond.initialized "java/lang/Math", Cond.code Lib.Math.max.name Lib.Math.max.code 2 (some .int)], w ∈ ms_big := ms_sub _ [846, 120, 36, 121] (by decide +kernel) (by decide +kernel)
theorem ac_X6_99 : ∀ w ∈ [Cond.methodLink RX6 99 arraycopyName, Cond.native arraycopyName, Cond.static arraycopyName, Cond.initialized "java/lang/System"], w ∈ ms_big := ms_sub _ [874, 409, 408, 37] (by decide +kernel) (by decide +kernel)
theorem aw_int : Cond.arrayClass .int ∈ ms_big := (ms_at 527 (by decide +kernel) rfl)
theorem aw_boolean : Cond.arrayClass .boolean ∈ ms_big := (ms_at 812 (by decide +kernel) rfl)
theorem al_X0_18 : Cond.classLink RX0 18 "StarlingSquare$Walker" ∈ ms_big := (ms_at 554 (by decide +kernel) rfl)
theorem al_X6_29 : Cond.classLink RX6 29 "[[[I" ∈ ms_big := (ms_at 712 (by decide +kernel) rfl)
theorem al_X6_34 : Cond.classLink RX6 34 "[I" ∈ ms_big := (ms_at 715 (by decide +kernel) rfl)
theorem al_X6_108 : Cond.classLink RX6 108 "[[I" ∈ ms_big := (ms_at 776 (by decide +kernel) rfl)
theorem thw_X5_51_55 : ∀ w ∈ Cond.classLink RX5 51 "java/lang/IllegalArgumentException" :: Cond.initialized "java/lang/IllegalArgumentException" :: (vx_atS RX5 55 "java/lang/IllegalArgumentException" ms_names).filter goodWord, w ∈ ms_big := fun w h => by
  have h1 : ∀ w ∈ Cond.classLink RX5 51 "java/lang/IllegalArgumentException" :: Cond.initialized "java/lang/IllegalArgumentException" :: (vx_atS RX5 55 "java/lang/IllegalArgumentException" ms_names).filter goodWord, w ∈ lw_tbl ∧ goodWord w = true := by decide +kernel
  exact ms_big_in (h1 w h).1 (h1 w h).2
theorem thn_X5_51_55 : ∀ w ∈ (vx_atS RX5 55 "java/lang/IllegalArgumentException" ms_names).filter (fun w => !goodWord w), w ∈ Cond.castable "java/lang/IllegalArgumentException" "java/lang/IllegalArgumentException" :: ms_dcl.map Cond.declares := by decide +kernel
theorem thw_X5_66_70 : ∀ w ∈ Cond.classLink RX5 66 "java/lang/IndexOutOfBoundsException" :: Cond.initialized "java/lang/IndexOutOfBoundsException" :: (vx_atS RX5 70 "java/lang/IndexOutOfBoundsException" ms_names).filter goodWord, w ∈ ms_big := fun w h => by
  have h1 : ∀ w ∈ Cond.classLink RX5 66 "java/lang/IndexOutOfBoundsException" :: Cond.initialized "java/lang/IndexOutOfBoundsException" :: (vx_atS RX5 70 "java/lang/IndexOutOfBoundsException" ms_names).filter goodWord, w ∈ lw_tbl ∧ goodWord w = true := by decide +kernel
  exact ms_big_in (h1 w h).1 (h1 w h).2
theorem thn_X5_66_70 : ∀ w ∈ (vx_atS RX5 70 "java/lang/IndexOutOfBoundsException" ms_names).filter (fun w => !goodWord w), w ∈ Cond.castable "java/lang/IndexOutOfBoundsException" "java/lang/IndexOutOfBoundsException" :: ms_dcl.map Cond.declares := by decide +kernel
theorem thw_X5_83_87 : ∀ w ∈ Cond.classLink RX5 83 "java/lang/IllegalStateException" :: Cond.initialized "java/lang/IllegalStateException" :: (vx_atS RX5 87 "java/lang/IllegalStateException" ms_names).filter goodWord, w ∈ ms_big := fun w h => by
  have h1 : ∀ w ∈ Cond.classLink RX5 83 "java/lang/IllegalStateException" :: Cond.initialized "java/lang/IllegalStateException" :: (vx_atS RX5 87 "java/lang/IllegalStateException" ms_names).filter goodWord, w ∈ lw_tbl ∧ goodWord w = true := by decide +kernel
  exact ms_big_in (h1 w h).1 (h1 w h).2
theorem thn_X5_83_87 : ∀ w ∈ (vx_atS RX5 87 "java/lang/IllegalStateException" ms_names).filter (fun w => !goodWord w), w ∈ Cond.castable "java/lang/IllegalStateException" "java/lang/IllegalStateException" :: ms_dcl.map Cond.declares := by decide +kernel
theorem th_X5_51_53_55 : ms_okT RX5 51 53 55 "java/lang/IllegalArgumentException" "an edge is 2 to 14" := ⟨by decide +kernel, by decide +kernel, thw_X5_51_55, by decide +kernel, thn_X5_51_55, by decide +kernel⟩
theorem th_X5_51_130_55 : ms_okT RX5 51 130 55 "java/lang/IllegalArgumentException" "draw is 0 to 9, jam 1 to 20" := ⟨by decide +kernel, by decide +kernel, thw_X5_51_55, by decide +kernel, thn_X5_51_55, by decide +kernel⟩
theorem th_X5_51_138_55 : ms_okT RX5 51 138 55 "java/lang/IllegalArgumentException" "what is 0 to 3" := ⟨by decide +kernel, by decide +kernel, thw_X5_51_55, by decide +kernel, thn_X5_51_55, by decide +kernel⟩
theorem th_X5_51_154_55 : ms_okT RX5 51 154 55 "java/lang/IllegalArgumentException" "pace is 1 to 3, mood 0 to 9" := ⟨by decide +kernel, by decide +kernel, thw_X5_51_55, by decide +kernel, thn_X5_51_55, by decide +kernel⟩
theorem th_X5_51_174_55 : ms_okT RX5 51 174 55 "java/lang/IllegalArgumentException" "mood is 0 to 9" := ⟨by decide +kernel, by decide +kernel, thw_X5_51_55, by decide +kernel, thn_X5_51_55, by decide +kernel⟩
theorem th_X5_51_188_55 : ms_okT RX5 51 188 55 "java/lang/IllegalArgumentException" "ticks is 1 to 20" := ⟨by decide +kernel, by decide +kernel, thw_X5_51_55, by decide +kernel, thn_X5_51_55, by decide +kernel⟩
theorem th_X5_51_199_55 : ms_okT RX5 51 199 55 "java/lang/IllegalArgumentException" "what is 0 to 8" := ⟨by decide +kernel, by decide +kernel, thw_X5_51_55, by decide +kernel, thn_X5_51_55, by decide +kernel⟩
theorem th_X5_51_216_55 : ms_okT RX5 51 216 55 "java/lang/IllegalArgumentException" "side is 0 to 4" := ⟨by decide +kernel, by decide +kernel, thw_X5_51_55, by decide +kernel, thn_X5_51_55, by decide +kernel⟩
theorem th_X5_51_225_55 : ms_okT RX5 51 225 55 "java/lang/IllegalArgumentException" "k is below 0" := ⟨by decide +kernel, by decide +kernel, thw_X5_51_55, by decide +kernel, thn_X5_51_55, by decide +kernel⟩
theorem th_X5_51_241_55 : ms_okT RX5 51 241 55 "java/lang/IllegalArgumentException" "ticks is 1 to 60" := ⟨by decide +kernel, by decide +kernel, thw_X5_51_55, by decide +kernel, thn_X5_51_55, by decide +kernel⟩
theorem th_X5_51_249_55 : ms_okT RX5 51 249 55 "java/lang/IllegalArgumentException" "ticks is 1 to 60, draw 0 to 9" := ⟨by decide +kernel, by decide +kernel, thw_X5_51_55, by decide +kernel, thn_X5_51_55, by decide +kernel⟩
theorem th_X5_66_68_70 : ms_okT RX5 66 68 70 "java/lang/IndexOutOfBoundsException" "no such field" := ⟨by decide +kernel, by decide +kernel, thw_X5_66_70, by decide +kernel, thn_X5_66_70, by decide +kernel⟩
theorem th_X5_66_103_70 : ms_okT RX5 66 103 70 "java/lang/IndexOutOfBoundsException" "no such goal or field" := ⟨by decide +kernel, by decide +kernel, thw_X5_66_70, by decide +kernel, thn_X5_66_70, by decide +kernel⟩
theorem th_X5_66_146_70 : ms_okT RX5 66 146 70 "java/lang/IndexOutOfBoundsException" "no such goal" := ⟨by decide +kernel, by decide +kernel, thw_X5_66_70, by decide +kernel, thn_X5_66_70, by decide +kernel⟩
theorem th_X5_66_172_70 : ms_okT RX5 66 172 70 "java/lang/IndexOutOfBoundsException" "no such walker or goal" := ⟨by decide +kernel, by decide +kernel, thw_X5_66_70, by decide +kernel, thn_X5_66_70, by decide +kernel⟩
theorem th_X5_66_208_70 : ms_okT RX5 66 208 70 "java/lang/IndexOutOfBoundsException" "no such walker" := ⟨by decide +kernel, by decide +kernel, thw_X5_66_70, by decide +kernel, thn_X5_66_70, by decide +kernel⟩
theorem th_X5_66_214_70 : ms_okT RX5 66 214 70 "java/lang/IndexOutOfBoundsException" "no such walker, or it is out" := ⟨by decide +kernel, by decide +kernel, thw_X5_66_70, by decide +kernel, thn_X5_66_70, by decide +kernel⟩
theorem th_X5_83_85_87 : ms_okT RX5 83 85 87 "java/lang/IllegalStateException" "a walker is on it" := ⟨by decide +kernel, by decide +kernel, thw_X5_83_87, by decide +kernel, thn_X5_83_87, by decide +kernel⟩
theorem th_X5_83_118_87 : ms_okT RX5 83 118 87 "java/lang/IllegalStateException" "a walker with that goal is on it" := ⟨by decide +kernel, by decide +kernel, thw_X5_83_87, by decide +kernel, thn_X5_83_87, by decide +kernel⟩
theorem th_X5_83_166_87 : ms_okT RX5 83 166 87 "java/lang/IllegalStateException" "no walker can come there" := ⟨by decide +kernel, by decide +kernel, thw_X5_83_87, by decide +kernel, thn_X5_83_87, by decide +kernel⟩
theorem th_X5_83_183_87 : ms_okT RX5 83 183 87 "java/lang/IllegalStateException" "it is out, or at that goal" := ⟨by decide +kernel, by decide +kernel, thw_X5_83_87, by decide +kernel, thn_X5_83_87, by decide +kernel⟩
theorem hd_X6_wall_164 : ms_hd m_X6_wall "java/lang/IllegalStateException" 164 261 := by
  refine ⟨[], [⟨176, 260, 261, 86⟩], ⟨153, 175, 261, 86⟩, "java/lang/IllegalStateException", rfl, ?_, by decide, by decide, (ms_at 839 (by decide +kernel) rfl), rfl, by decide, rfl⟩
  exact fun z hz => by cases hz
theorem hd_X6_mark_102 : ms_hd m_X6_mark "java/lang/IllegalStateException" 102 233 := by
  refine ⟨[], [⟨114, 232, 233, 86⟩], ⟨95, 113, 233, 86⟩, "java/lang/IllegalStateException", rfl, ?_, by decide, by decide, (ms_at 839 (by decide +kernel) rfl), rfl, by decide, rfl⟩
  exact fun z hz => by cases hz
theorem hd_X6_add_140 : ms_hd m_X6_add "java/lang/IllegalStateException" 140 261 := by
  refine ⟨[], [⟨152, 260, 261, 86⟩], ⟨129, 151, 261, 86⟩, "java/lang/IllegalStateException", rfl, ?_, by decide, by decide, (ms_at 839 (by decide +kernel) rfl), rfl, by decide, rfl⟩
  exact fun z hz => by cases hz
theorem hd_X6_turnTo_83 : ms_hd m_X6_turnTo "java/lang/IllegalStateException" 83 124 := by
  refine ⟨[], [⟨95, 123, 124, 86⟩], ⟨76, 94, 124, 86⟩, "java/lang/IllegalStateException", rfl, ?_, by decide, by decide, (ms_at 839 (by decide +kernel) rfl), rfl, by decide, rfl⟩
  exact fun z hz => by cases hz
