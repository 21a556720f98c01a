theorem dL_two_599 : decode cL_two 599 = .ok (.iconst 0, 1) := by decide +kernel
theorem dL_two_600 : decode cL_two 600 = .ok (.iconst 4, 1) := by decide +kernel
theorem dL_two_601 : decode cL_two 601 = .ok (.invokevirtual 19, 3) := by decide +kernel
theorem dL_two_604 : decode cL_two 604 = .ok (.iconst 2, 1) := by decide +kernel
theorem dL_two_605 : decode cL_two 605 = .ok (.if_icmp .ne 30, 3) := by decide +kernel
theorem dL_two_608 : decode cL_two 608 = .ok (.aload_n 0, 1) := by decide +kernel
theorem dL_two_609 : decode cL_two 609 = .ok (.iconst 0, 1) := by decide +kernel
theorem dL_two_610 : decode cL_two 610 = .ok (.invokevirtual 35, 3) := by decide +kernel
theorem dL_two_613 : decode cL_two 613 = .ok (.iconst 1, 1) := by decide +kernel
theorem dL_two_614 : decode cL_two 614 = .ok (.if_icmp .ne 21, 3) := by decide +kernel
theorem dL_two_617 : decode cL_two 617 = .ok (.aload_n 0, 1) := by decide +kernel
theorem dL_two_618 : decode cL_two 618 = .ok (.iconst 2, 1) := by decide +kernel
theorem dL_two_619 : decode cL_two 619 = .ok (.invokevirtual 13, 3) := by decide +kernel
theorem dL_two_622 : decode cL_two 622 = .ok (.iconst 3, 1) := by decide +kernel
theorem dL_two_623 : decode cL_two 623 = .ok (.if_icmp .ne 12, 3) := by decide +kernel
theorem dL_two_626 : decode cL_two 626 = .ok (.aload_n 0, 1) := by decide +kernel
theorem dL_two_627 : decode cL_two 627 = .ok (.iconst 0, 1) := by decide +kernel
theorem dL_two_628 : decode cL_two 628 = .ok (.iconst 1, 1) := by decide +kernel
theorem dL_two_629 : decode cL_two 629 = .ok (.invokevirtual 23, 3) := by decide +kernel
theorem dL_two_632 : decode cL_two 632 = .ok (.ifCond .eq 5, 3) := by decide +kernel
theorem dL_two_635 : decode cL_two 635 = .ok (.iconst 0, 1) := by decide +kernel
theorem dL_two_636 : decode cL_two 636 = .ok (.ireturn, 1) := by decide +kernel
theorem dL_two_637 : decode cL_two 637 = .ok (.aload_n 0, 1) := by decide +kernel
theorem dL_two_638 : decode cL_two 638 = .ok (.iconst 2, 1) := by decide +kernel
theorem dL_two_639 : decode cL_two 639 = .ok (.invokevirtual 62, 3) := by decide +kernel
theorem dL_two_642 : decode cL_two 642 = .ok (.iconst 5, 1) := by decide +kernel
theorem dL_two_643 : decode cL_two 643 = .ok (.if_icmp .ne 86, 3) := by decide +kernel
theorem dL_two_646 : decode cL_two 646 = .ok (.aload_n 0, 1) := by decide +kernel
theorem dL_two_647 : decode cL_two 647 = .ok (.iconst 2, 1) := by decide +kernel
theorem dL_two_648 : decode cL_two 648 = .ok (.iconst 5, 1) := by decide +kernel
theorem dL_two_649 : decode cL_two 649 = .ok (.invokevirtual 59, 3) := by decide +kernel
theorem dL_two_652 : decode cL_two 652 = .ok (.ifCond .ne 77, 3) := by decide +kernel
theorem dL_two_655 : decode cL_two 655 = .ok (.aload_n 0, 1) := by decide +kernel
theorem dL_two_656 : decode cL_two 656 = .ok (.iconst 2, 1) := by decide +kernel
theorem dL_two_657 : decode cL_two 657 = .ok (.iconst 0, 1) := by decide +kernel
theorem dL_two_658 : decode cL_two 658 = .ok (.invokevirtual 59, 3) := by decide +kernel
theorem dL_two_661 : decode cL_two 661 = .ok (.iconst 5, 1) := by decide +kernel
theorem dL_two_662 : decode cL_two 662 = .ok (.if_icmp .ne 67, 3) := by decide +kernel
theorem dL_two_665 : decode cL_two 665 = .ok (.aload_n 0, 1) := by decide +kernel
theorem dL_two_666 : decode cL_two 666 = .ok (.iconst 0, 1) := by decide +kernel
theorem dL_two_667 : decode cL_two 667 = .ok (.iconst 1, 1) := by decide +kernel
theorem dL_two_668 : decode cL_two 668 = .ok (.invokevirtual 59, 3) := by decide +kernel
theorem dL_two_671 : decode cL_two 671 = .ok (.bipush (-5), 2) := by decide +kernel
theorem dL_two_673 : decode cL_two 673 = .ok (.if_icmp .ne 56, 3) := by decide +kernel
theorem dL_two_676 : decode cL_two 676 = .ok (.aload_n 0, 1) := by decide +kernel
theorem dL_two_677 : decode cL_two 677 = .ok (.iconst 2, 1) := by decide +kernel
theorem dL_two_678 : decode cL_two 678 = .ok (.iconst 5, 1) := by decide +kernel
theorem dL_two_679 : decode cL_two 679 = .ok (.invokevirtual 44, 3) := by decide +kernel
theorem dL_two_682 : decode cL_two 682 = .ok (.ifCond .ne 47, 3) := by decide +kernel
theorem dL_two_685 : decode cL_two 685 = .ok (.aload_n 0, 1) := by decide +kernel
theorem dL_two_686 : decode cL_two 686 = .ok (.iconst 5, 1) := by decide +kernel
theorem dL_two_687 : decode cL_two 687 = .ok (.iconst 0, 1) := by decide +kernel
theorem dL_two_688 : decode cL_two 688 = .ok (.invokevirtual 19, 3) := by decide +kernel
theorem dL_two_691 : decode cL_two 691 = .ok (.sipush 254, 3) := by decide +kernel
theorem dL_two_694 : decode cL_two 694 = .ok (.if_icmp .ne 35, 3) := by decide +kernel
theorem dL_two_697 : decode cL_two 697 = .ok (.aload_n 0, 1) := by decide +kernel
theorem dL_two_698 : decode cL_two 698 = .ok (.iconst 2, 1) := by decide +kernel
theorem dL_two_699 : decode cL_two 699 = .ok (.iconst 0, 1) := by decide +kernel
theorem dL_two_700 : decode cL_two 700 = .ok (.invokevirtual 19, 3) := by decide +kernel
theorem dL_two_703 : decode cL_two 703 = .ok (.iconst (-1), 1) := by decide +kernel
theorem dL_two_704 : decode cL_two 704 = .ok (.if_icmp .ne 25, 3) := by decide +kernel
theorem dL_two_707 : decode cL_two 707 = .ok (.aload_n 0, 1) := by decide +kernel
theorem dL_two_708 : decode cL_two 708 = .ok (.iconst 5, 1) := by decide +kernel
theorem dL_two_709 : decode cL_two 709 = .ok (.iconst 2, 1) := by decide +kernel
theorem dL_two_710 : decode cL_two 710 = .ok (.invokevirtual 19, 3) := by decide +kernel
theorem dL_two_713 : decode cL_two 713 = .ok (.bipush 28, 2) := by decide +kernel
theorem dL_two_715 : decode cL_two 715 = .ok (.if_icmp .ne 14, 3) := by decide +kernel
theorem dL_two_718 : decode cL_two 718 = .ok (.aload_n 0, 1) := by decide +kernel
theorem dL_two_719 : decode cL_two 719 = .ok (.iconst 5, 1) := by decide +kernel
theorem dL_two_720 : decode cL_two 720 = .ok (.iconst 1, 1) := by decide +kernel
theorem dL_two_721 : decode cL_two 721 = .ok (.iconst 0, 1) := by decide +kernel
theorem dL_two_722 : decode cL_two 722 = .ok (.invokevirtual 26, 3) := by decide +kernel
theorem dL_two_725 : decode cL_two 725 = .ok (.iconst 5, 1) := by decide +kernel
theorem dL_two_726 : decode cL_two 726 = .ok (.if_icmp .eq 5, 3) := by decide +kernel
theorem dL_two_729 : decode cL_two 729 = .ok (.iconst 0, 1) := by decide +kernel
theorem dL_two_730 : decode cL_two 730 = .ok (.ireturn, 1) := by decide +kernel
theorem dL_two_731 : decode cL_two 731 = .ok (.aload_n 0, 1) := by decide +kernel
theorem dL_two_732 : decode cL_two 732 = .ok (.invokevirtual 74, 3) := by decide +kernel
theorem dL_two_735 : decode cL_two 735 = .ok (.iconst 3, 1) := by decide +kernel
theorem dL_two_736 : decode cL_two 736 = .ok (.if_icmp .ne 89, 3) := by decide +kernel
