/-! The law: its instructions -/
theorem nb_dL_law_598 : bls_w cL_law [(598, [29]), (599, [5]), (600, [96]), (601, [46]), (602, [182, 0, 76]), (605, [87]), (606, [167, 3, 17]), (609, [43]), (610, [42]), (611, [29]), (612, [4]), (613, [96])] := bls_of (by decide +kernel)
theorem dL_law_598 : decode cL_law 598 = .ok (.iload_n 3, 1) := op_29 nb_dL_law_598.1
theorem dL_law_599 : decode cL_law 599 = .ok (.iconst 2, 1) := op_5 nb_dL_law_598.2.1
theorem dL_law_600 : decode cL_law 600 = .ok (.iadd, 1) := op_96 nb_dL_law_598.2.2.1
theorem dL_law_601 : decode cL_law 601 = .ok (.iaload, 1) := op_46 nb_dL_law_598.2.2.2.1
set_option maxRecDepth 100000 in
theorem dL_law_602 : decode cL_law 602 = .ok (.invokevirtual 76, 3) := (op_182 nb_dL_law_598.2.2.2.2.1).trans rfl
theorem dL_law_605 : decode cL_law 605 = .ok (.pop, 1) := op_87 nb_dL_law_598.2.2.2.2.2.1
set_option maxRecDepth 100000 in
theorem dL_law_606 : decode cL_law 606 = .ok (.goto 785, 3) := (op_167 nb_dL_law_598.2.2.2.2.2.2.1).trans rfl
theorem dL_law_609 : decode cL_law 609 = .ok (.aload_n 1, 1) := op_43 nb_dL_law_598.2.2.2.2.2.2.2.1
theorem dL_law_610 : decode cL_law 610 = .ok (.aload_n 0, 1) := op_42 nb_dL_law_598.2.2.2.2.2.2.2.2.1
theorem dL_law_611 : decode cL_law 611 = .ok (.iload_n 3, 1) := op_29 nb_dL_law_598.2.2.2.2.2.2.2.2.2.1
theorem dL_law_612 : decode cL_law 612 = .ok (.iconst 1, 1) := op_4 nb_dL_law_598.2.2.2.2.2.2.2.2.2.2.1
theorem dL_law_613 : decode cL_law 613 = .ok (.iadd, 1) := op_96 nb_dL_law_598.2.2.2.2.2.2.2.2.2.2.2.1
theorem nb_dL_law_614 : bls_w cL_law [(614, [46]), (615, [42]), (616, [29]), (617, [5]), (618, [96]), (619, [46]), (620, [182, 0, 77]), (623, [87]), (624, [44]), (625, [42]), (626, [29]), (627, [4])] := bls_of (by decide +kernel)
theorem dL_law_614 : decode cL_law 614 = .ok (.iaload, 1) := op_46 nb_dL_law_614.1
theorem dL_law_615 : decode cL_law 615 = .ok (.aload_n 0, 1) := op_42 nb_dL_law_614.2.1
theorem dL_law_616 : decode cL_law 616 = .ok (.iload_n 3, 1) := op_29 nb_dL_law_614.2.2.1
theorem dL_law_617 : decode cL_law 617 = .ok (.iconst 2, 1) := op_5 nb_dL_law_614.2.2.2.1
theorem dL_law_618 : decode cL_law 618 = .ok (.iadd, 1) := op_96 nb_dL_law_614.2.2.2.2.1
theorem dL_law_619 : decode cL_law 619 = .ok (.iaload, 1) := op_46 nb_dL_law_614.2.2.2.2.2.1
set_option maxRecDepth 100000 in
theorem dL_law_620 : decode cL_law 620 = .ok (.invokevirtual 77, 3) := (op_182 nb_dL_law_614.2.2.2.2.2.2.1).trans rfl
theorem dL_law_623 : decode cL_law 623 = .ok (.pop, 1) := op_87 nb_dL_law_614.2.2.2.2.2.2.2.1
theorem dL_law_624 : decode cL_law 624 = .ok (.aload_n 2, 1) := op_44 nb_dL_law_614.2.2.2.2.2.2.2.2.1
theorem dL_law_625 : decode cL_law 625 = .ok (.aload_n 0, 1) := op_42 nb_dL_law_614.2.2.2.2.2.2.2.2.2.1
theorem dL_law_626 : decode cL_law 626 = .ok (.iload_n 3, 1) := op_29 nb_dL_law_614.2.2.2.2.2.2.2.2.2.2.1
theorem dL_law_627 : decode cL_law 627 = .ok (.iconst 1, 1) := op_4 nb_dL_law_614.2.2.2.2.2.2.2.2.2.2.2.1
theorem nb_dL_law_628 : bls_w cL_law [(628, [96]), (629, [46]), (630, [42]), (631, [29]), (632, [5]), (633, [96]), (634, [46]), (635, [182, 0, 80]), (638, [87]), (639, [167, 2, 240]), (642, [43]), (643, [42])] := bls_of (by decide +kernel)
theorem dL_law_628 : decode cL_law 628 = .ok (.iadd, 1) := op_96 nb_dL_law_628.1
theorem dL_law_629 : decode cL_law 629 = .ok (.iaload, 1) := op_46 nb_dL_law_628.2.1
theorem dL_law_630 : decode cL_law 630 = .ok (.aload_n 0, 1) := op_42 nb_dL_law_628.2.2.1
theorem dL_law_631 : decode cL_law 631 = .ok (.iload_n 3, 1) := op_29 nb_dL_law_628.2.2.2.1
theorem dL_law_632 : decode cL_law 632 = .ok (.iconst 2, 1) := op_5 nb_dL_law_628.2.2.2.2.1
theorem dL_law_633 : decode cL_law 633 = .ok (.iadd, 1) := op_96 nb_dL_law_628.2.2.2.2.2.1
theorem dL_law_634 : decode cL_law 634 = .ok (.iaload, 1) := op_46 nb_dL_law_628.2.2.2.2.2.2.1
set_option maxRecDepth 100000 in
theorem dL_law_635 : decode cL_law 635 = .ok (.invokevirtual 80, 3) := (op_182 nb_dL_law_628.2.2.2.2.2.2.2.1).trans rfl
theorem dL_law_638 : decode cL_law 638 = .ok (.pop, 1) := op_87 nb_dL_law_628.2.2.2.2.2.2.2.2.1
set_option maxRecDepth 100000 in
theorem dL_law_639 : decode cL_law 639 = .ok (.goto 752, 3) := (op_167 nb_dL_law_628.2.2.2.2.2.2.2.2.2.1).trans rfl
theorem dL_law_642 : decode cL_law 642 = .ok (.aload_n 1, 1) := op_43 nb_dL_law_628.2.2.2.2.2.2.2.2.2.2.1
theorem dL_law_643 : decode cL_law 643 = .ok (.aload_n 0, 1) := op_42 nb_dL_law_628.2.2.2.2.2.2.2.2.2.2.2.1
theorem nb_dL_law_644 : bls_w cL_law [(644, [29]), (645, [4]), (646, [96]), (647, [46]), (648, [42]), (649, [29]), (650, [5]), (651, [96]), (652, [46]), (653, [182, 0, 81]), (656, [87]), (657, [44])] := bls_of (by decide +kernel)
theorem dL_law_644 : decode cL_law 644 = .ok (.iload_n 3, 1) := op_29 nb_dL_law_644.1
theorem dL_law_645 : decode cL_law 645 = .ok (.iconst 1, 1) := op_4 nb_dL_law_644.2.1
theorem dL_law_646 : decode cL_law 646 = .ok (.iadd, 1) := op_96 nb_dL_law_644.2.2.1
theorem dL_law_647 : decode cL_law 647 = .ok (.iaload, 1) := op_46 nb_dL_law_644.2.2.2.1
theorem dL_law_648 : decode cL_law 648 = .ok (.aload_n 0, 1) := op_42 nb_dL_law_644.2.2.2.2.1
theorem dL_law_649 : decode cL_law 649 = .ok (.iload_n 3, 1) := op_29 nb_dL_law_644.2.2.2.2.2.1
theorem dL_law_650 : decode cL_law 650 = .ok (.iconst 2, 1) := op_5 nb_dL_law_644.2.2.2.2.2.2.1
theorem dL_law_651 : decode cL_law 651 = .ok (.iadd, 1) := op_96 nb_dL_law_644.2.2.2.2.2.2.2.1
theorem dL_law_652 : decode cL_law 652 = .ok (.iaload, 1) := op_46 nb_dL_law_644.2.2.2.2.2.2.2.2.1
set_option maxRecDepth 100000 in
theorem dL_law_653 : decode cL_law 653 = .ok (.invokevirtual 81, 3) := (op_182 nb_dL_law_644.2.2.2.2.2.2.2.2.2.1).trans rfl
theorem dL_law_656 : decode cL_law 656 = .ok (.pop, 1) := op_87 nb_dL_law_644.2.2.2.2.2.2.2.2.2.2.1
theorem dL_law_657 : decode cL_law 657 = .ok (.aload_n 2, 1) := op_44 nb_dL_law_644.2.2.2.2.2.2.2.2.2.2.2.1
theorem nb_dL_law_658 : bls_w cL_law [(658, [42]), (659, [29]), (660, [4]), (661, [96]), (662, [46]), (663, [42]), (664, [29]), (665, [5]), (666, [96]), (667, [46]), (668, [182, 0, 84]), (671, [87])] := bls_of (by decide +kernel)
theorem dL_law_658 : decode cL_law 658 = .ok (.aload_n 0, 1) := op_42 nb_dL_law_658.1
theorem dL_law_659 : decode cL_law 659 = .ok (.iload_n 3, 1) := op_29 nb_dL_law_658.2.1
theorem dL_law_660 : decode cL_law 660 = .ok (.iconst 1, 1) := op_4 nb_dL_law_658.2.2.1
theorem dL_law_661 : decode cL_law 661 = .ok (.iadd, 1) := op_96 nb_dL_law_658.2.2.2.1
theorem dL_law_662 : decode cL_law 662 = .ok (.iaload, 1) := op_46 nb_dL_law_658.2.2.2.2.1
theorem dL_law_663 : decode cL_law 663 = .ok (.aload_n 0, 1) := op_42 nb_dL_law_658.2.2.2.2.2.1
theorem dL_law_664 : decode cL_law 664 = .ok (.iload_n 3, 1) := op_29 nb_dL_law_658.2.2.2.2.2.2.1
theorem dL_law_665 : decode cL_law 665 = .ok (.iconst 2, 1) := op_5 nb_dL_law_658.2.2.2.2.2.2.2.1
theorem dL_law_666 : decode cL_law 666 = .ok (.iadd, 1) := op_96 nb_dL_law_658.2.2.2.2.2.2.2.2.1
theorem dL_law_667 : decode cL_law 667 = .ok (.iaload, 1) := op_46 nb_dL_law_658.2.2.2.2.2.2.2.2.2.1
set_option maxRecDepth 100000 in
theorem dL_law_668 : decode cL_law 668 = .ok (.invokevirtual 84, 3) := (op_182 nb_dL_law_658.2.2.2.2.2.2.2.2.2.2.1).trans rfl
theorem dL_law_671 : decode cL_law 671 = .ok (.pop, 1) := op_87 nb_dL_law_658.2.2.2.2.2.2.2.2.2.2.2.1
theorem nb_dL_law_672 : bls_w cL_law [(672, [167, 2, 207]), (675, [43]), (676, [42]), (677, [29]), (678, [4]), (679, [96]), (680, [46]), (681, [42]), (682, [29]), (683, [5]), (684, [96]), (685, [46])] := bls_of (by decide +kernel)
set_option maxRecDepth 100000 in
theorem dL_law_672 : decode cL_law 672 = .ok (.goto 719, 3) := (op_167 nb_dL_law_672.1).trans rfl
theorem dL_law_675 : decode cL_law 675 = .ok (.aload_n 1, 1) := op_43 nb_dL_law_672.2.1
theorem dL_law_676 : decode cL_law 676 = .ok (.aload_n 0, 1) := op_42 nb_dL_law_672.2.2.1
theorem dL_law_677 : decode cL_law 677 = .ok (.iload_n 3, 1) := op_29 nb_dL_law_672.2.2.2.1
theorem dL_law_678 : decode cL_law 678 = .ok (.iconst 1, 1) := op_4 nb_dL_law_672.2.2.2.2.1
theorem dL_law_679 : decode cL_law 679 = .ok (.iadd, 1) := op_96 nb_dL_law_672.2.2.2.2.2.1
theorem dL_law_680 : decode cL_law 680 = .ok (.iaload, 1) := op_46 nb_dL_law_672.2.2.2.2.2.2.1
theorem dL_law_681 : decode cL_law 681 = .ok (.aload_n 0, 1) := op_42 nb_dL_law_672.2.2.2.2.2.2.2.1
theorem dL_law_682 : decode cL_law 682 = .ok (.iload_n 3, 1) := op_29 nb_dL_law_672.2.2.2.2.2.2.2.2.1
theorem dL_law_683 : decode cL_law 683 = .ok (.iconst 2, 1) := op_5 nb_dL_law_672.2.2.2.2.2.2.2.2.2.1
theorem dL_law_684 : decode cL_law 684 = .ok (.iadd, 1) := op_96 nb_dL_law_672.2.2.2.2.2.2.2.2.2.2.1
theorem dL_law_685 : decode cL_law 685 = .ok (.iaload, 1) := op_46 nb_dL_law_672.2.2.2.2.2.2.2.2.2.2.2.1
theorem nb_dL_law_686 : bls_w cL_law [(686, [182, 0, 85]), (689, [87]), (690, [44]), (691, [42]), (692, [29]), (693, [4]), (694, [96]), (695, [46]), (696, [42]), (697, [29]), (698, [5]), (699, [96])] := bls_of (by decide +kernel)
set_option maxRecDepth 100000 in
theorem dL_law_686 : decode cL_law 686 = .ok (.invokevirtual 85, 3) := (op_182 nb_dL_law_686.1).trans rfl
theorem dL_law_689 : decode cL_law 689 = .ok (.pop, 1) := op_87 nb_dL_law_686.2.1
theorem dL_law_690 : decode cL_law 690 = .ok (.aload_n 2, 1) := op_44 nb_dL_law_686.2.2.1
theorem dL_law_691 : decode cL_law 691 = .ok (.aload_n 0, 1) := op_42 nb_dL_law_686.2.2.2.1
theorem dL_law_692 : decode cL_law 692 = .ok (.iload_n 3, 1) := op_29 nb_dL_law_686.2.2.2.2.1
theorem dL_law_693 : decode cL_law 693 = .ok (.iconst 1, 1) := op_4 nb_dL_law_686.2.2.2.2.2.1
theorem dL_law_694 : decode cL_law 694 = .ok (.iadd, 1) := op_96 nb_dL_law_686.2.2.2.2.2.2.1
theorem dL_law_695 : decode cL_law 695 = .ok (.iaload, 1) := op_46 nb_dL_law_686.2.2.2.2.2.2.2.1
theorem dL_law_696 : decode cL_law 696 = .ok (.aload_n 0, 1) := op_42 nb_dL_law_686.2.2.2.2.2.2.2.2.1
theorem dL_law_697 : decode cL_law 697 = .ok (.iload_n 3, 1) := op_29 nb_dL_law_686.2.2.2.2.2.2.2.2.2.1
theorem dL_law_698 : decode cL_law 698 = .ok (.iconst 2, 1) := op_5 nb_dL_law_686.2.2.2.2.2.2.2.2.2.2.1
theorem dL_law_699 : decode cL_law 699 = .ok (.iadd, 1) := op_96 nb_dL_law_686.2.2.2.2.2.2.2.2.2.2.2.1
theorem nb_dL_law_700 : bls_w cL_law [(700, [46]), (701, [182, 0, 88]), (704, [87]), (705, [167, 2, 174]), (708, [43]), (709, [42]), (710, [29]), (711, [4]), (712, [96]), (713, [46]), (714, [182, 0, 89]), (717, [87])] := bls_of (by decide +kernel)
theorem dL_law_700 : decode cL_law 700 = .ok (.iaload, 1) := op_46 nb_dL_law_700.1
set_option maxRecDepth 100000 in
theorem dL_law_701 : decode cL_law 701 = .ok (.invokevirtual 88, 3) := (op_182 nb_dL_law_700.2.1).trans rfl
theorem dL_law_704 : decode cL_law 704 = .ok (.pop, 1) := op_87 nb_dL_law_700.2.2.1
set_option maxRecDepth 100000 in
theorem dL_law_705 : decode cL_law 705 = .ok (.goto 686, 3) := (op_167 nb_dL_law_700.2.2.2.1).trans rfl
theorem dL_law_708 : decode cL_law 708 = .ok (.aload_n 1, 1) := op_43 nb_dL_law_700.2.2.2.2.1
theorem dL_law_709 : decode cL_law 709 = .ok (.aload_n 0, 1) := op_42 nb_dL_law_700.2.2.2.2.2.1
theorem dL_law_710 : decode cL_law 710 = .ok (.iload_n 3, 1) := op_29 nb_dL_law_700.2.2.2.2.2.2.1
theorem dL_law_711 : decode cL_law 711 = .ok (.iconst 1, 1) := op_4 nb_dL_law_700.2.2.2.2.2.2.2.1
theorem dL_law_712 : decode cL_law 712 = .ok (.iadd, 1) := op_96 nb_dL_law_700.2.2.2.2.2.2.2.2.1
theorem dL_law_713 : decode cL_law 713 = .ok (.iaload, 1) := op_46 nb_dL_law_700.2.2.2.2.2.2.2.2.2.1
set_option maxRecDepth 100000 in
theorem dL_law_714 : decode cL_law 714 = .ok (.invokevirtual 89, 3) := (op_182 nb_dL_law_700.2.2.2.2.2.2.2.2.2.2.1).trans rfl
theorem dL_law_717 : decode cL_law 717 = .ok (.pop, 1) := op_87 nb_dL_law_700.2.2.2.2.2.2.2.2.2.2.2.1
theorem nb_dL_law_718 : bls_w cL_law [(718, [44]), (719, [42]), (720, [29]), (721, [4]), (722, [96]), (723, [46]), (724, [182, 0, 92]), (727, [87]), (728, [167, 2, 151]), (731, [43]), (732, [42]), (733, [29])] := bls_of (by decide +kernel)
theorem dL_law_718 : decode cL_law 718 = .ok (.aload_n 2, 1) := op_44 nb_dL_law_718.1
theorem dL_law_719 : decode cL_law 719 = .ok (.aload_n 0, 1) := op_42 nb_dL_law_718.2.1
theorem dL_law_720 : decode cL_law 720 = .ok (.iload_n 3, 1) := op_29 nb_dL_law_718.2.2.1
theorem dL_law_721 : decode cL_law 721 = .ok (.iconst 1, 1) := op_4 nb_dL_law_718.2.2.2.1
theorem dL_law_722 : decode cL_law 722 = .ok (.iadd, 1) := op_96 nb_dL_law_718.2.2.2.2.1
theorem dL_law_723 : decode cL_law 723 = .ok (.iaload, 1) := op_46 nb_dL_law_718.2.2.2.2.2.1
set_option maxRecDepth 100000 in
theorem dL_law_724 : decode cL_law 724 = .ok (.invokevirtual 92, 3) := (op_182 nb_dL_law_718.2.2.2.2.2.2.1).trans rfl
theorem dL_law_727 : decode cL_law 727 = .ok (.pop, 1) := op_87 nb_dL_law_718.2.2.2.2.2.2.2.1
set_option maxRecDepth 100000 in
theorem dL_law_728 : decode cL_law 728 = .ok (.goto 663, 3) := (op_167 nb_dL_law_718.2.2.2.2.2.2.2.2.1).trans rfl
theorem dL_law_731 : decode cL_law 731 = .ok (.aload_n 1, 1) := op_43 nb_dL_law_718.2.2.2.2.2.2.2.2.2.1
theorem dL_law_732 : decode cL_law 732 = .ok (.aload_n 0, 1) := op_42 nb_dL_law_718.2.2.2.2.2.2.2.2.2.2.1
theorem dL_law_733 : decode cL_law 733 = .ok (.iload_n 3, 1) := op_29 nb_dL_law_718.2.2.2.2.2.2.2.2.2.2.2.1
theorem nb_dL_law_734 : bls_w cL_law [(734, [4]), (735, [96]), (736, [46]), (737, [42]), (738, [29]), (739, [5]), (740, [96]), (741, [46]), (742, [42]), (743, [29]), (744, [6]), (745, [96])] := bls_of (by decide +kernel)
theorem dL_law_734 : decode cL_law 734 = .ok (.iconst 1, 1) := op_4 nb_dL_law_734.1
theorem dL_law_735 : decode cL_law 735 = .ok (.iadd, 1) := op_96 nb_dL_law_734.2.1
theorem dL_law_736 : decode cL_law 736 = .ok (.iaload, 1) := op_46 nb_dL_law_734.2.2.1
theorem dL_law_737 : decode cL_law 737 = .ok (.aload_n 0, 1) := op_42 nb_dL_law_734.2.2.2.1
theorem dL_law_738 : decode cL_law 738 = .ok (.iload_n 3, 1) := op_29 nb_dL_law_734.2.2.2.2.1
theorem dL_law_739 : decode cL_law 739 = .ok (.iconst 2, 1) := op_5 nb_dL_law_734.2.2.2.2.2.1
theorem dL_law_740 : decode cL_law 740 = .ok (.iadd, 1) := op_96 nb_dL_law_734.2.2.2.2.2.2.1
theorem dL_law_741 : decode cL_law 741 = .ok (.iaload, 1) := op_46 nb_dL_law_734.2.2.2.2.2.2.2.1
theorem dL_law_742 : decode cL_law 742 = .ok (.aload_n 0, 1) := op_42 nb_dL_law_734.2.2.2.2.2.2.2.2.1
theorem dL_law_743 : decode cL_law 743 = .ok (.iload_n 3, 1) := op_29 nb_dL_law_734.2.2.2.2.2.2.2.2.2.1
theorem dL_law_744 : decode cL_law 744 = .ok (.iconst 3, 1) := op_6 nb_dL_law_734.2.2.2.2.2.2.2.2.2.2.1
theorem dL_law_745 : decode cL_law 745 = .ok (.iadd, 1) := op_96 nb_dL_law_734.2.2.2.2.2.2.2.2.2.2.2.1
theorem nb_dL_law_746 : bls_w cL_law [(746, [46]), (747, [182, 0, 93]), (750, [87]), (751, [44]), (752, [42]), (753, [29]), (754, [4]), (755, [96]), (756, [46]), (757, [42]), (758, [29]), (759, [5])] := bls_of (by decide +kernel)
theorem dL_law_746 : decode cL_law 746 = .ok (.iaload, 1) := op_46 nb_dL_law_746.1
set_option maxRecDepth 100000 in
theorem dL_law_747 : decode cL_law 747 = .ok (.invokevirtual 93, 3) := (op_182 nb_dL_law_746.2.1).trans rfl
theorem dL_law_750 : decode cL_law 750 = .ok (.pop, 1) := op_87 nb_dL_law_746.2.2.1
theorem dL_law_751 : decode cL_law 751 = .ok (.aload_n 2, 1) := op_44 nb_dL_law_746.2.2.2.1
theorem dL_law_752 : decode cL_law 752 = .ok (.aload_n 0, 1) := op_42 nb_dL_law_746.2.2.2.2.1
theorem dL_law_753 : decode cL_law 753 = .ok (.iload_n 3, 1) := op_29 nb_dL_law_746.2.2.2.2.2.1
theorem dL_law_754 : decode cL_law 754 = .ok (.iconst 1, 1) := op_4 nb_dL_law_746.2.2.2.2.2.2.1
theorem dL_law_755 : decode cL_law 755 = .ok (.iadd, 1) := op_96 nb_dL_law_746.2.2.2.2.2.2.2.1
theorem dL_law_756 : decode cL_law 756 = .ok (.iaload, 1) := op_46 nb_dL_law_746.2.2.2.2.2.2.2.2.1
theorem dL_law_757 : decode cL_law 757 = .ok (.aload_n 0, 1) := op_42 nb_dL_law_746.2.2.2.2.2.2.2.2.2.1
theorem dL_law_758 : decode cL_law 758 = .ok (.iload_n 3, 1) := op_29 nb_dL_law_746.2.2.2.2.2.2.2.2.2.2.1
theorem dL_law_759 : decode cL_law 759 = .ok (.iconst 2, 1) := op_5 nb_dL_law_746.2.2.2.2.2.2.2.2.2.2.2.1
theorem nb_dL_law_760 : bls_w cL_law [(760, [96]), (761, [46]), (762, [42]), (763, [29]), (764, [6]), (765, [96]), (766, [46]), (767, [182, 0, 96]), (770, [87]), (771, [167, 2, 108]), (774, [43]), (775, [42])] := bls_of (by decide +kernel)
theorem dL_law_760 : decode cL_law 760 = .ok (.iadd, 1) := op_96 nb_dL_law_760.1
theorem dL_law_761 : decode cL_law 761 = .ok (.iaload, 1) := op_46 nb_dL_law_760.2.1
theorem dL_law_762 : decode cL_law 762 = .ok (.aload_n 0, 1) := op_42 nb_dL_law_760.2.2.1
theorem dL_law_763 : decode cL_law 763 = .ok (.iload_n 3, 1) := op_29 nb_dL_law_760.2.2.2.1
theorem dL_law_764 : decode cL_law 764 = .ok (.iconst 3, 1) := op_6 nb_dL_law_760.2.2.2.2.1
theorem dL_law_765 : decode cL_law 765 = .ok (.iadd, 1) := op_96 nb_dL_law_760.2.2.2.2.2.1
theorem dL_law_766 : decode cL_law 766 = .ok (.iaload, 1) := op_46 nb_dL_law_760.2.2.2.2.2.2.1
set_option maxRecDepth 100000 in
theorem dL_law_767 : decode cL_law 767 = .ok (.invokevirtual 96, 3) := (op_182 nb_dL_law_760.2.2.2.2.2.2.2.1).trans rfl
theorem dL_law_770 : decode cL_law 770 = .ok (.pop, 1) := op_87 nb_dL_law_760.2.2.2.2.2.2.2.2.1
set_option maxRecDepth 100000 in
theorem dL_law_771 : decode cL_law 771 = .ok (.goto 620, 3) := (op_167 nb_dL_law_760.2.2.2.2.2.2.2.2.2.1).trans rfl
theorem dL_law_774 : decode cL_law 774 = .ok (.aload_n 1, 1) := op_43 nb_dL_law_760.2.2.2.2.2.2.2.2.2.2.1
theorem dL_law_775 : decode cL_law 775 = .ok (.aload_n 0, 1) := op_42 nb_dL_law_760.2.2.2.2.2.2.2.2.2.2.2.1
theorem nb_dL_law_776 : bls_w cL_law [(776, [29]), (777, [4]), (778, [96]), (779, [46]), (780, [42]), (781, [29]), (782, [5]), (783, [96]), (784, [46]), (785, [182, 0, 97]), (788, [87]), (789, [44])] := bls_of (by decide +kernel)
theorem dL_law_776 : decode cL_law 776 = .ok (.iload_n 3, 1) := op_29 nb_dL_law_776.1
theorem dL_law_777 : decode cL_law 777 = .ok (.iconst 1, 1) := op_4 nb_dL_law_776.2.1
theorem dL_law_778 : decode cL_law 778 = .ok (.iadd, 1) := op_96 nb_dL_law_776.2.2.1
theorem dL_law_779 : decode cL_law 779 = .ok (.iaload, 1) := op_46 nb_dL_law_776.2.2.2.1
theorem dL_law_780 : decode cL_law 780 = .ok (.aload_n 0, 1) := op_42 nb_dL_law_776.2.2.2.2.1
theorem dL_law_781 : decode cL_law 781 = .ok (.iload_n 3, 1) := op_29 nb_dL_law_776.2.2.2.2.2.1
theorem dL_law_782 : decode cL_law 782 = .ok (.iconst 2, 1) := op_5 nb_dL_law_776.2.2.2.2.2.2.1
theorem dL_law_783 : decode cL_law 783 = .ok (.iadd, 1) := op_96 nb_dL_law_776.2.2.2.2.2.2.2.1
theorem dL_law_784 : decode cL_law 784 = .ok (.iaload, 1) := op_46 nb_dL_law_776.2.2.2.2.2.2.2.2.1
set_option maxRecDepth 100000 in
theorem dL_law_785 : decode cL_law 785 = .ok (.invokevirtual 97, 3) := (op_182 nb_dL_law_776.2.2.2.2.2.2.2.2.2.1).trans rfl
theorem dL_law_788 : decode cL_law 788 = .ok (.pop, 1) := op_87 nb_dL_law_776.2.2.2.2.2.2.2.2.2.2.1
theorem dL_law_789 : decode cL_law 789 = .ok (.aload_n 2, 1) := op_44 nb_dL_law_776.2.2.2.2.2.2.2.2.2.2.2.1
theorem nb_dL_law_790 : bls_w cL_law [(790, [42]), (791, [29]), (792, [4]), (793, [96]), (794, [46]), (795, [42]), (796, [29]), (797, [5]), (798, [96]), (799, [46]), (800, [182, 0, 100]), (803, [87])] := bls_of (by decide +kernel)
theorem dL_law_790 : decode cL_law 790 = .ok (.aload_n 0, 1) := op_42 nb_dL_law_790.1
theorem dL_law_791 : decode cL_law 791 = .ok (.iload_n 3, 1) := op_29 nb_dL_law_790.2.1
theorem dL_law_792 : decode cL_law 792 = .ok (.iconst 1, 1) := op_4 nb_dL_law_790.2.2.1
theorem dL_law_793 : decode cL_law 793 = .ok (.iadd, 1) := op_96 nb_dL_law_790.2.2.2.1
theorem dL_law_794 : decode cL_law 794 = .ok (.iaload, 1) := op_46 nb_dL_law_790.2.2.2.2.1
theorem dL_law_795 : decode cL_law 795 = .ok (.aload_n 0, 1) := op_42 nb_dL_law_790.2.2.2.2.2.1
theorem dL_law_796 : decode cL_law 796 = .ok (.iload_n 3, 1) := op_29 nb_dL_law_790.2.2.2.2.2.2.1
theorem dL_law_797 : decode cL_law 797 = .ok (.iconst 2, 1) := op_5 nb_dL_law_790.2.2.2.2.2.2.2.1
theorem dL_law_798 : decode cL_law 798 = .ok (.iadd, 1) := op_96 nb_dL_law_790.2.2.2.2.2.2.2.2.1
theorem dL_law_799 : decode cL_law 799 = .ok (.iaload, 1) := op_46 nb_dL_law_790.2.2.2.2.2.2.2.2.2.1
set_option maxRecDepth 100000 in
theorem dL_law_800 : decode cL_law 800 = .ok (.invokevirtual 100, 3) := (op_182 nb_dL_law_790.2.2.2.2.2.2.2.2.2.2.1).trans rfl
theorem dL_law_803 : decode cL_law 803 = .ok (.pop, 1) := op_87 nb_dL_law_790.2.2.2.2.2.2.2.2.2.2.2.1
theorem nb_dL_law_804 : bls_w cL_law [(804, [167, 2, 75]), (807, [43]), (808, [42]), (809, [29]), (810, [4]), (811, [96]), (812, [46]), (813, [42]), (814, [29]), (815, [5]), (816, [96]), (817, [46])] := bls_of (by decide +kernel)
set_option maxRecDepth 100000 in
theorem dL_law_804 : decode cL_law 804 = .ok (.goto 587, 3) := (op_167 nb_dL_law_804.1).trans rfl
theorem dL_law_807 : decode cL_law 807 = .ok (.aload_n 1, 1) := op_43 nb_dL_law_804.2.1
theorem dL_law_808 : decode cL_law 808 = .ok (.aload_n 0, 1) := op_42 nb_dL_law_804.2.2.1
theorem dL_law_809 : decode cL_law 809 = .ok (.iload_n 3, 1) := op_29 nb_dL_law_804.2.2.2.1
theorem dL_law_810 : decode cL_law 810 = .ok (.iconst 1, 1) := op_4 nb_dL_law_804.2.2.2.2.1
theorem dL_law_811 : decode cL_law 811 = .ok (.iadd, 1) := op_96 nb_dL_law_804.2.2.2.2.2.1
theorem dL_law_812 : decode cL_law 812 = .ok (.iaload, 1) := op_46 nb_dL_law_804.2.2.2.2.2.2.1
theorem dL_law_813 : decode cL_law 813 = .ok (.aload_n 0, 1) := op_42 nb_dL_law_804.2.2.2.2.2.2.2.1
theorem dL_law_814 : decode cL_law 814 = .ok (.iload_n 3, 1) := op_29 nb_dL_law_804.2.2.2.2.2.2.2.2.1
theorem dL_law_815 : decode cL_law 815 = .ok (.iconst 2, 1) := op_5 nb_dL_law_804.2.2.2.2.2.2.2.2.2.1
theorem dL_law_816 : decode cL_law 816 = .ok (.iadd, 1) := op_96 nb_dL_law_804.2.2.2.2.2.2.2.2.2.2.1
theorem dL_law_817 : decode cL_law 817 = .ok (.iaload, 1) := op_46 nb_dL_law_804.2.2.2.2.2.2.2.2.2.2.2.1
theorem nb_dL_law_818 : bls_w cL_law [(818, [182, 0, 101]), (821, [87]), (822, [44]), (823, [42]), (824, [29]), (825, [4]), (826, [96]), (827, [46]), (828, [42]), (829, [29]), (830, [5]), (831, [96])] := bls_of (by decide +kernel)
set_option maxRecDepth 100000 in
theorem dL_law_818 : decode cL_law 818 = .ok (.invokevirtual 101, 3) := (op_182 nb_dL_law_818.1).trans rfl
theorem dL_law_821 : decode cL_law 821 = .ok (.pop, 1) := op_87 nb_dL_law_818.2.1
theorem dL_law_822 : decode cL_law 822 = .ok (.aload_n 2, 1) := op_44 nb_dL_law_818.2.2.1
theorem dL_law_823 : decode cL_law 823 = .ok (.aload_n 0, 1) := op_42 nb_dL_law_818.2.2.2.1
theorem dL_law_824 : decode cL_law 824 = .ok (.iload_n 3, 1) := op_29 nb_dL_law_818.2.2.2.2.1
theorem dL_law_825 : decode cL_law 825 = .ok (.iconst 1, 1) := op_4 nb_dL_law_818.2.2.2.2.2.1
theorem dL_law_826 : decode cL_law 826 = .ok (.iadd, 1) := op_96 nb_dL_law_818.2.2.2.2.2.2.1
theorem dL_law_827 : decode cL_law 827 = .ok (.iaload, 1) := op_46 nb_dL_law_818.2.2.2.2.2.2.2.1
theorem dL_law_828 : decode cL_law 828 = .ok (.aload_n 0, 1) := op_42 nb_dL_law_818.2.2.2.2.2.2.2.2.1
theorem dL_law_829 : decode cL_law 829 = .ok (.iload_n 3, 1) := op_29 nb_dL_law_818.2.2.2.2.2.2.2.2.2.1
theorem dL_law_830 : decode cL_law 830 = .ok (.iconst 2, 1) := op_5 nb_dL_law_818.2.2.2.2.2.2.2.2.2.2.1
theorem dL_law_831 : decode cL_law 831 = .ok (.iadd, 1) := op_96 nb_dL_law_818.2.2.2.2.2.2.2.2.2.2.2.1
theorem nb_dL_law_832 : bls_w cL_law [(832, [46]), (833, [182, 0, 104]), (836, [87]), (837, [167, 2, 42]), (840, [43]), (841, [42]), (842, [29]), (843, [4]), (844, [96]), (845, [46]), (846, [42]), (847, [29])] := bls_of (by decide +kernel)
theorem dL_law_832 : decode cL_law 832 = .ok (.iaload, 1) := op_46 nb_dL_law_832.1
set_option maxRecDepth 100000 in
theorem dL_law_833 : decode cL_law 833 = .ok (.invokevirtual 104, 3) := (op_182 nb_dL_law_832.2.1).trans rfl
theorem dL_law_836 : decode cL_law 836 = .ok (.pop, 1) := op_87 nb_dL_law_832.2.2.1
set_option maxRecDepth 100000 in
theorem dL_law_837 : decode cL_law 837 = .ok (.goto 554, 3) := (op_167 nb_dL_law_832.2.2.2.1).trans rfl
theorem dL_law_840 : decode cL_law 840 = .ok (.aload_n 1, 1) := op_43 nb_dL_law_832.2.2.2.2.1
theorem dL_law_841 : decode cL_law 841 = .ok (.aload_n 0, 1) := op_42 nb_dL_law_832.2.2.2.2.2.1
theorem dL_law_842 : decode cL_law 842 = .ok (.iload_n 3, 1) := op_29 nb_dL_law_832.2.2.2.2.2.2.1
theorem dL_law_843 : decode cL_law 843 = .ok (.iconst 1, 1) := op_4 nb_dL_law_832.2.2.2.2.2.2.2.1
theorem dL_law_844 : decode cL_law 844 = .ok (.iadd, 1) := op_96 nb_dL_law_832.2.2.2.2.2.2.2.2.1
theorem dL_law_845 : decode cL_law 845 = .ok (.iaload, 1) := op_46 nb_dL_law_832.2.2.2.2.2.2.2.2.2.1
theorem dL_law_846 : decode cL_law 846 = .ok (.aload_n 0, 1) := op_42 nb_dL_law_832.2.2.2.2.2.2.2.2.2.2.1
theorem dL_law_847 : decode cL_law 847 = .ok (.iload_n 3, 1) := op_29 nb_dL_law_832.2.2.2.2.2.2.2.2.2.2.2.1
theorem nb_dL_law_848 : bls_w cL_law [(848, [5]), (849, [96]), (850, [46]), (851, [182, 0, 105]), (854, [87]), (855, [44]), (856, [42]), (857, [29]), (858, [4]), (859, [96]), (860, [46]), (861, [42])] := bls_of (by decide +kernel)
theorem dL_law_848 : decode cL_law 848 = .ok (.iconst 2, 1) := op_5 nb_dL_law_848.1
theorem dL_law_849 : decode cL_law 849 = .ok (.iadd, 1) := op_96 nb_dL_law_848.2.1
theorem dL_law_850 : decode cL_law 850 = .ok (.iaload, 1) := op_46 nb_dL_law_848.2.2.1
set_option maxRecDepth 100000 in
theorem dL_law_851 : decode cL_law 851 = .ok (.invokevirtual 105, 3) := (op_182 nb_dL_law_848.2.2.2.1).trans rfl
theorem dL_law_854 : decode cL_law 854 = .ok (.pop, 1) := op_87 nb_dL_law_848.2.2.2.2.1
theorem dL_law_855 : decode cL_law 855 = .ok (.aload_n 2, 1) := op_44 nb_dL_law_848.2.2.2.2.2.1
theorem dL_law_856 : decode cL_law 856 = .ok (.aload_n 0, 1) := op_42 nb_dL_law_848.2.2.2.2.2.2.1
theorem dL_law_857 : decode cL_law 857 = .ok (.iload_n 3, 1) := op_29 nb_dL_law_848.2.2.2.2.2.2.2.1
theorem dL_law_858 : decode cL_law 858 = .ok (.iconst 1, 1) := op_4 nb_dL_law_848.2.2.2.2.2.2.2.2.1
theorem dL_law_859 : decode cL_law 859 = .ok (.iadd, 1) := op_96 nb_dL_law_848.2.2.2.2.2.2.2.2.2.1
theorem dL_law_860 : decode cL_law 860 = .ok (.iaload, 1) := op_46 nb_dL_law_848.2.2.2.2.2.2.2.2.2.2.1
theorem dL_law_861 : decode cL_law 861 = .ok (.aload_n 0, 1) := op_42 nb_dL_law_848.2.2.2.2.2.2.2.2.2.2.2.1
theorem nb_dL_law_862 : bls_w cL_law [(862, [29]), (863, [5]), (864, [96]), (865, [46]), (866, [182, 0, 108]), (869, [87]), (870, [167, 2, 9]), (873, [43]), (874, [42]), (875, [29]), (876, [4]), (877, [96])] := bls_of (by decide +kernel)
theorem dL_law_862 : decode cL_law 862 = .ok (.iload_n 3, 1) := op_29 nb_dL_law_862.1
theorem dL_law_863 : decode cL_law 863 = .ok (.iconst 2, 1) := op_5 nb_dL_law_862.2.1
theorem dL_law_864 : decode cL_law 864 = .ok (.iadd, 1) := op_96 nb_dL_law_862.2.2.1
theorem dL_law_865 : decode cL_law 865 = .ok (.iaload, 1) := op_46 nb_dL_law_862.2.2.2.1
set_option maxRecDepth 100000 in
theorem dL_law_866 : decode cL_law 866 = .ok (.invokevirtual 108, 3) := (op_182 nb_dL_law_862.2.2.2.2.1).trans rfl
theorem dL_law_869 : decode cL_law 869 = .ok (.pop, 1) := op_87 nb_dL_law_862.2.2.2.2.2.1
set_option maxRecDepth 100000 in
theorem dL_law_870 : decode cL_law 870 = .ok (.goto 521, 3) := (op_167 nb_dL_law_862.2.2.2.2.2.2.1).trans rfl
theorem dL_law_873 : decode cL_law 873 = .ok (.aload_n 1, 1) := op_43 nb_dL_law_862.2.2.2.2.2.2.2.1
theorem dL_law_874 : decode cL_law 874 = .ok (.aload_n 0, 1) := op_42 nb_dL_law_862.2.2.2.2.2.2.2.2.1
theorem dL_law_875 : decode cL_law 875 = .ok (.iload_n 3, 1) := op_29 nb_dL_law_862.2.2.2.2.2.2.2.2.2.1
theorem dL_law_876 : decode cL_law 876 = .ok (.iconst 1, 1) := op_4 nb_dL_law_862.2.2.2.2.2.2.2.2.2.2.1
theorem dL_law_877 : decode cL_law 877 = .ok (.iadd, 1) := op_96 nb_dL_law_862.2.2.2.2.2.2.2.2.2.2.2.1
theorem nb_dL_law_878 : bls_w cL_law [(878, [46]), (879, [42]), (880, [29]), (881, [5]), (882, [96]), (883, [46]), (884, [42]), (885, [29]), (886, [6]), (887, [96]), (888, [46]), (889, [182, 0, 109])] := bls_of (by decide +kernel)
theorem dL_law_878 : decode cL_law 878 = .ok (.iaload, 1) := op_46 nb_dL_law_878.1
theorem dL_law_879 : decode cL_law 879 = .ok (.aload_n 0, 1) := op_42 nb_dL_law_878.2.1
theorem dL_law_880 : decode cL_law 880 = .ok (.iload_n 3, 1) := op_29 nb_dL_law_878.2.2.1
theorem dL_law_881 : decode cL_law 881 = .ok (.iconst 2, 1) := op_5 nb_dL_law_878.2.2.2.1
theorem dL_law_882 : decode cL_law 882 = .ok (.iadd, 1) := op_96 nb_dL_law_878.2.2.2.2.1
theorem dL_law_883 : decode cL_law 883 = .ok (.iaload, 1) := op_46 nb_dL_law_878.2.2.2.2.2.1
theorem dL_law_884 : decode cL_law 884 = .ok (.aload_n 0, 1) := op_42 nb_dL_law_878.2.2.2.2.2.2.1
theorem dL_law_885 : decode cL_law 885 = .ok (.iload_n 3, 1) := op_29 nb_dL_law_878.2.2.2.2.2.2.2.1
theorem dL_law_886 : decode cL_law 886 = .ok (.iconst 3, 1) := op_6 nb_dL_law_878.2.2.2.2.2.2.2.2.1
theorem dL_law_887 : decode cL_law 887 = .ok (.iadd, 1) := op_96 nb_dL_law_878.2.2.2.2.2.2.2.2.2.1
theorem dL_law_888 : decode cL_law 888 = .ok (.iaload, 1) := op_46 nb_dL_law_878.2.2.2.2.2.2.2.2.2.2.1
set_option maxRecDepth 100000 in
theorem dL_law_889 : decode cL_law 889 = .ok (.invokevirtual 109, 3) := (op_182 nb_dL_law_878.2.2.2.2.2.2.2.2.2.2.2.1).trans rfl
theorem nb_dL_law_892 : bls_w cL_law [(892, [87]), (893, [44]), (894, [42]), (895, [29]), (896, [4]), (897, [96]), (898, [46]), (899, [42]), (900, [29]), (901, [5]), (902, [96]), (903, [46])] := bls_of (by decide +kernel)
theorem dL_law_892 : decode cL_law 892 = .ok (.pop, 1) := op_87 nb_dL_law_892.1
theorem dL_law_893 : decode cL_law 893 = .ok (.aload_n 2, 1) := op_44 nb_dL_law_892.2.1
theorem dL_law_894 : decode cL_law 894 = .ok (.aload_n 0, 1) := op_42 nb_dL_law_892.2.2.1
theorem dL_law_895 : decode cL_law 895 = .ok (.iload_n 3, 1) := op_29 nb_dL_law_892.2.2.2.1
theorem dL_law_896 : decode cL_law 896 = .ok (.iconst 1, 1) := op_4 nb_dL_law_892.2.2.2.2.1
theorem dL_law_897 : decode cL_law 897 = .ok (.iadd, 1) := op_96 nb_dL_law_892.2.2.2.2.2.1
theorem dL_law_898 : decode cL_law 898 = .ok (.iaload, 1) := op_46 nb_dL_law_892.2.2.2.2.2.2.1
theorem dL_law_899 : decode cL_law 899 = .ok (.aload_n 0, 1) := op_42 nb_dL_law_892.2.2.2.2.2.2.2.1
theorem dL_law_900 : decode cL_law 900 = .ok (.iload_n 3, 1) := op_29 nb_dL_law_892.2.2.2.2.2.2.2.2.1
theorem dL_law_901 : decode cL_law 901 = .ok (.iconst 2, 1) := op_5 nb_dL_law_892.2.2.2.2.2.2.2.2.2.1
theorem dL_law_902 : decode cL_law 902 = .ok (.iadd, 1) := op_96 nb_dL_law_892.2.2.2.2.2.2.2.2.2.2.1
theorem dL_law_903 : decode cL_law 903 = .ok (.iaload, 1) := op_46 nb_dL_law_892.2.2.2.2.2.2.2.2.2.2.2.1
theorem nb_dL_law_904 : bls_w cL_law [(904, [42]), (905, [29]), (906, [6]), (907, [96]), (908, [46]), (909, [182, 0, 112]), (912, [87]), (913, [167, 1, 222]), (916, [43]), (917, [42]), (918, [29]), (919, [4])] := bls_of (by decide +kernel)
theorem dL_law_904 : decode cL_law 904 = .ok (.aload_n 0, 1) := op_42 nb_dL_law_904.1
theorem dL_law_905 : decode cL_law 905 = .ok (.iload_n 3, 1) := op_29 nb_dL_law_904.2.1
theorem dL_law_906 : decode cL_law 906 = .ok (.iconst 3, 1) := op_6 nb_dL_law_904.2.2.1
theorem dL_law_907 : decode cL_law 907 = .ok (.iadd, 1) := op_96 nb_dL_law_904.2.2.2.1
theorem dL_law_908 : decode cL_law 908 = .ok (.iaload, 1) := op_46 nb_dL_law_904.2.2.2.2.1
set_option maxRecDepth 100000 in
theorem dL_law_909 : decode cL_law 909 = .ok (.invokevirtual 112, 3) := (op_182 nb_dL_law_904.2.2.2.2.2.1).trans rfl
theorem dL_law_912 : decode cL_law 912 = .ok (.pop, 1) := op_87 nb_dL_law_904.2.2.2.2.2.2.1
set_option maxRecDepth 100000 in
theorem dL_law_913 : decode cL_law 913 = .ok (.goto 478, 3) := (op_167 nb_dL_law_904.2.2.2.2.2.2.2.1).trans rfl
theorem dL_law_916 : decode cL_law 916 = .ok (.aload_n 1, 1) := op_43 nb_dL_law_904.2.2.2.2.2.2.2.2.1
theorem dL_law_917 : decode cL_law 917 = .ok (.aload_n 0, 1) := op_42 nb_dL_law_904.2.2.2.2.2.2.2.2.2.1
theorem dL_law_918 : decode cL_law 918 = .ok (.iload_n 3, 1) := op_29 nb_dL_law_904.2.2.2.2.2.2.2.2.2.2.1
theorem dL_law_919 : decode cL_law 919 = .ok (.iconst 1, 1) := op_4 nb_dL_law_904.2.2.2.2.2.2.2.2.2.2.2.1
theorem nb_dL_law_920 : bls_w cL_law [(920, [96]), (921, [46]), (922, [42]), (923, [29]), (924, [5]), (925, [96]), (926, [46]), (927, [182, 0, 113]), (930, [44]), (931, [42]), (932, [29]), (933, [4])] := bls_of (by decide +kernel)
theorem dL_law_920 : decode cL_law 920 = .ok (.iadd, 1) := op_96 nb_dL_law_920.1
theorem dL_law_921 : decode cL_law 921 = .ok (.iaload, 1) := op_46 nb_dL_law_920.2.1
theorem dL_law_922 : decode cL_law 922 = .ok (.aload_n 0, 1) := op_42 nb_dL_law_920.2.2.1
theorem dL_law_923 : decode cL_law 923 = .ok (.iload_n 3, 1) := op_29 nb_dL_law_920.2.2.2.1
theorem dL_law_924 : decode cL_law 924 = .ok (.iconst 2, 1) := op_5 nb_dL_law_920.2.2.2.2.1
theorem dL_law_925 : decode cL_law 925 = .ok (.iadd, 1) := op_96 nb_dL_law_920.2.2.2.2.2.1
theorem dL_law_926 : decode cL_law 926 = .ok (.iaload, 1) := op_46 nb_dL_law_920.2.2.2.2.2.2.1
set_option maxRecDepth 100000 in
theorem dL_law_927 : decode cL_law 927 = .ok (.invokevirtual 113, 3) := (op_182 nb_dL_law_920.2.2.2.2.2.2.2.1).trans rfl
theorem dL_law_930 : decode cL_law 930 = .ok (.aload_n 2, 1) := op_44 nb_dL_law_920.2.2.2.2.2.2.2.2.1
theorem dL_law_931 : decode cL_law 931 = .ok (.aload_n 0, 1) := op_42 nb_dL_law_920.2.2.2.2.2.2.2.2.2.1
theorem dL_law_932 : decode cL_law 932 = .ok (.iload_n 3, 1) := op_29 nb_dL_law_920.2.2.2.2.2.2.2.2.2.2.1
theorem dL_law_933 : decode cL_law 933 = .ok (.iconst 1, 1) := op_4 nb_dL_law_920.2.2.2.2.2.2.2.2.2.2.2.1
theorem nb_dL_law_934 : bls_w cL_law [(934, [96]), (935, [46]), (936, [42]), (937, [29]), (938, [5]), (939, [96]), (940, [46]), (941, [182, 0, 116]), (944, [159, 1, 191]), (947, [3]), (948, [172]), (949, [43])] := bls_of (by decide +kernel)
theorem dL_law_934 : decode cL_law 934 = .ok (.iadd, 1) := op_96 nb_dL_law_934.1
theorem dL_law_935 : decode cL_law 935 = .ok (.iaload, 1) := op_46 nb_dL_law_934.2.1
theorem dL_law_936 : decode cL_law 936 = .ok (.aload_n 0, 1) := op_42 nb_dL_law_934.2.2.1
theorem dL_law_937 : decode cL_law 937 = .ok (.iload_n 3, 1) := op_29 nb_dL_law_934.2.2.2.1
theorem dL_law_938 : decode cL_law 938 = .ok (.iconst 2, 1) := op_5 nb_dL_law_934.2.2.2.2.1
theorem dL_law_939 : decode cL_law 939 = .ok (.iadd, 1) := op_96 nb_dL_law_934.2.2.2.2.2.1
theorem dL_law_940 : decode cL_law 940 = .ok (.iaload, 1) := op_46 nb_dL_law_934.2.2.2.2.2.2.1
set_option maxRecDepth 100000 in
theorem dL_law_941 : decode cL_law 941 = .ok (.invokevirtual 116, 3) := (op_182 nb_dL_law_934.2.2.2.2.2.2.2.1).trans rfl
set_option maxRecDepth 100000 in
theorem dL_law_944 : decode cL_law 944 = .ok (.if_icmp .eq 447, 3) := (op_159 nb_dL_law_934.2.2.2.2.2.2.2.2.1).trans rfl
theorem dL_law_947 : decode cL_law 947 = .ok (.iconst 0, 1) := op_3 nb_dL_law_934.2.2.2.2.2.2.2.2.2.1
theorem dL_law_948 : decode cL_law 948 = .ok (.ireturn, 1) := op_172 nb_dL_law_934.2.2.2.2.2.2.2.2.2.2.1
theorem dL_law_949 : decode cL_law 949 = .ok (.aload_n 1, 1) := op_43 nb_dL_law_934.2.2.2.2.2.2.2.2.2.2.2.1
theorem nb_dL_law_950 : bls_w cL_law [(950, [182, 0, 117]), (953, [87]), (954, [44]), (955, [182, 0, 120]), (958, [87]), (959, [167, 1, 176]), (962, [43]), (963, [182, 0, 121]), (966, [87]), (967, [44]), (968, [182, 0, 124]), (971, [87])] := bls_of (by decide +kernel)
set_option maxRecDepth 100000 in
theorem dL_law_950 : decode cL_law 950 = .ok (.invokevirtual 117, 3) := (op_182 nb_dL_law_950.1).trans rfl
theorem dL_law_953 : decode cL_law 953 = .ok (.pop, 1) := op_87 nb_dL_law_950.2.1
theorem dL_law_954 : decode cL_law 954 = .ok (.aload_n 2, 1) := op_44 nb_dL_law_950.2.2.1
set_option maxRecDepth 100000 in
theorem dL_law_955 : decode cL_law 955 = .ok (.invokevirtual 120, 3) := (op_182 nb_dL_law_950.2.2.2.1).trans rfl
theorem dL_law_958 : decode cL_law 958 = .ok (.pop, 1) := op_87 nb_dL_law_950.2.2.2.2.1
set_option maxRecDepth 100000 in
theorem dL_law_959 : decode cL_law 959 = .ok (.goto 432, 3) := (op_167 nb_dL_law_950.2.2.2.2.2.1).trans rfl
theorem dL_law_962 : decode cL_law 962 = .ok (.aload_n 1, 1) := op_43 nb_dL_law_950.2.2.2.2.2.2.1
set_option maxRecDepth 100000 in
theorem dL_law_963 : decode cL_law 963 = .ok (.invokevirtual 121, 3) := (op_182 nb_dL_law_950.2.2.2.2.2.2.2.1).trans rfl
theorem dL_law_966 : decode cL_law 966 = .ok (.pop, 1) := op_87 nb_dL_law_950.2.2.2.2.2.2.2.2.1
theorem dL_law_967 : decode cL_law 967 = .ok (.aload_n 2, 1) := op_44 nb_dL_law_950.2.2.2.2.2.2.2.2.2.1
set_option maxRecDepth 100000 in
theorem dL_law_968 : decode cL_law 968 = .ok (.invokevirtual 124, 3) := (op_182 nb_dL_law_950.2.2.2.2.2.2.2.2.2.2.1).trans rfl
theorem dL_law_971 : decode cL_law 971 = .ok (.pop, 1) := op_87 nb_dL_law_950.2.2.2.2.2.2.2.2.2.2.2.1
theorem nb_dL_law_972 : bls_w cL_law [(972, [167, 1, 163]), (975, [43]), (976, [182, 0, 125]), (979, [87]), (980, [44]), (981, [182, 0, 128]), (984, [87]), (985, [167, 1, 150]), (988, [43]), (989, [182, 0, 129]), (992, [87]), (993, [44])] := bls_of (by decide +kernel)
set_option maxRecDepth 100000 in
theorem dL_law_972 : decode cL_law 972 = .ok (.goto 419, 3) := (op_167 nb_dL_law_972.1).trans rfl
theorem dL_law_975 : decode cL_law 975 = .ok (.aload_n 1, 1) := op_43 nb_dL_law_972.2.1
set_option maxRecDepth 100000 in
theorem dL_law_976 : decode cL_law 976 = .ok (.invokevirtual 125, 3) := (op_182 nb_dL_law_972.2.2.1).trans rfl
theorem dL_law_979 : decode cL_law 979 = .ok (.pop, 1) := op_87 nb_dL_law_972.2.2.2.1
theorem dL_law_980 : decode cL_law 980 = .ok (.aload_n 2, 1) := op_44 nb_dL_law_972.2.2.2.2.1
set_option maxRecDepth 100000 in
theorem dL_law_981 : decode cL_law 981 = .ok (.invokevirtual 128, 3) := (op_182 nb_dL_law_972.2.2.2.2.2.1).trans rfl
theorem dL_law_984 : decode cL_law 984 = .ok (.pop, 1) := op_87 nb_dL_law_972.2.2.2.2.2.2.1
set_option maxRecDepth 100000 in
theorem dL_law_985 : decode cL_law 985 = .ok (.goto 406, 3) := (op_167 nb_dL_law_972.2.2.2.2.2.2.2.1).trans rfl
theorem dL_law_988 : decode cL_law 988 = .ok (.aload_n 1, 1) := op_43 nb_dL_law_972.2.2.2.2.2.2.2.2.1
set_option maxRecDepth 100000 in
theorem dL_law_989 : decode cL_law 989 = .ok (.invokevirtual 129, 3) := (op_182 nb_dL_law_972.2.2.2.2.2.2.2.2.2.1).trans rfl
theorem dL_law_992 : decode cL_law 992 = .ok (.pop, 1) := op_87 nb_dL_law_972.2.2.2.2.2.2.2.2.2.2.1
theorem dL_law_993 : decode cL_law 993 = .ok (.aload_n 2, 1) := op_44 nb_dL_law_972.2.2.2.2.2.2.2.2.2.2.2.1
theorem nb_dL_law_994 : bls_w cL_law [(994, [182, 0, 132]), (997, [87]), (998, [167, 1, 137]), (1001, [43]), (1002, [42]), (1003, [29]), (1004, [4]), (1005, [96]), (1006, [46]), (1007, [182, 0, 133]), (1010, [87]), (1011, [44])] := bls_of (by decide +kernel)
set_option maxRecDepth 100000 in
theorem dL_law_994 : decode cL_law 994 = .ok (.invokevirtual 132, 3) := (op_182 nb_dL_law_994.1).trans rfl
theorem dL_law_997 : decode cL_law 997 = .ok (.pop, 1) := op_87 nb_dL_law_994.2.1
set_option maxRecDepth 100000 in
theorem dL_law_998 : decode cL_law 998 = .ok (.goto 393, 3) := (op_167 nb_dL_law_994.2.2.1).trans rfl
theorem dL_law_1001 : decode cL_law 1001 = .ok (.aload_n 1, 1) := op_43 nb_dL_law_994.2.2.2.1
theorem dL_law_1002 : decode cL_law 1002 = .ok (.aload_n 0, 1) := op_42 nb_dL_law_994.2.2.2.2.1
theorem dL_law_1003 : decode cL_law 1003 = .ok (.iload_n 3, 1) := op_29 nb_dL_law_994.2.2.2.2.2.1
theorem dL_law_1004 : decode cL_law 1004 = .ok (.iconst 1, 1) := op_4 nb_dL_law_994.2.2.2.2.2.2.1
theorem dL_law_1005 : decode cL_law 1005 = .ok (.iadd, 1) := op_96 nb_dL_law_994.2.2.2.2.2.2.2.1
theorem dL_law_1006 : decode cL_law 1006 = .ok (.iaload, 1) := op_46 nb_dL_law_994.2.2.2.2.2.2.2.2.1
set_option maxRecDepth 100000 in
theorem dL_law_1007 : decode cL_law 1007 = .ok (.invokevirtual 133, 3) := (op_182 nb_dL_law_994.2.2.2.2.2.2.2.2.2.1).trans rfl
theorem dL_law_1010 : decode cL_law 1010 = .ok (.pop, 1) := op_87 nb_dL_law_994.2.2.2.2.2.2.2.2.2.2.1
theorem dL_law_1011 : decode cL_law 1011 = .ok (.aload_n 2, 1) := op_44 nb_dL_law_994.2.2.2.2.2.2.2.2.2.2.2.1
theorem nb_dL_law_1012 : bls_w cL_law [(1012, [42]), (1013, [29]), (1014, [4]), (1015, [96]), (1016, [46]), (1017, [182, 0, 136])] := bls_of (by decide +kernel)
theorem dL_law_1012 : decode cL_law 1012 = .ok (.aload_n 0, 1) := op_42 nb_dL_law_1012.1
theorem dL_law_1013 : decode cL_law 1013 = .ok (.iload_n 3, 1) := op_29 nb_dL_law_1012.2.1
theorem dL_law_1014 : decode cL_law 1014 = .ok (.iconst 1, 1) := op_4 nb_dL_law_1012.2.2.1
theorem dL_law_1015 : decode cL_law 1015 = .ok (.iadd, 1) := op_96 nb_dL_law_1012.2.2.2.1
theorem dL_law_1016 : decode cL_law 1016 = .ok (.iaload, 1) := op_46 nb_dL_law_1012.2.2.2.2.1
set_option maxRecDepth 100000 in
theorem dL_law_1017 : decode cL_law 1017 = .ok (.invokevirtual 136, 3) := (op_182 nb_dL_law_1012.2.2.2.2.2.1).trans rfl
