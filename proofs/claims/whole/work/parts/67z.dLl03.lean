theorem dL_law_625 : decode jL_law.2.1 625 = .ok (.aload_n 0, 1) := by decide +kernel
theorem dL_law_626 : decode jL_law.2.1 626 = .ok (.iload 4, 2) := by decide +kernel
theorem dL_law_628 : decode jL_law.2.1 628 = .ok (.iconst 2, 1) := by decide +kernel
theorem dL_law_629 : decode jL_law.2.1 629 = .ok (.iadd, 1) := by decide +kernel
theorem dL_law_630 : decode jL_law.2.1 630 = .ok (.iaload, 1) := by decide +kernel
theorem dL_law_631 : decode jL_law.2.1 631 = .ok (.aload_n 0, 1) := by decide +kernel
theorem dL_law_632 : decode jL_law.2.1 632 = .ok (.iload 4, 2) := by decide +kernel
theorem dL_law_634 : decode jL_law.2.1 634 = .ok (.iconst 3, 1) := by decide +kernel
theorem dL_law_635 : decode jL_law.2.1 635 = .ok (.iadd, 1) := by decide +kernel
theorem dL_law_636 : decode jL_law.2.1 636 = .ok (.iaload, 1) := by decide +kernel
theorem dL_law_637 : decode jL_law.2.1 637 = .ok (.i2l, 1) := by decide +kernel
theorem dL_law_638 : decode jL_law.2.1 638 = .ok (.bipush 32, 2) := by decide +kernel
theorem dL_law_640 : decode jL_law.2.1 640 = .ok (.lshl, 1) := by decide +kernel
theorem dL_law_641 : decode jL_law.2.1 641 = .ok (.aload_n 0, 1) := by decide +kernel
theorem dL_law_642 : decode jL_law.2.1 642 = .ok (.iload 4, 2) := by decide +kernel
theorem dL_law_644 : decode jL_law.2.1 644 = .ok (.iconst 4, 1) := by decide +kernel
theorem dL_law_645 : decode jL_law.2.1 645 = .ok (.iadd, 1) := by decide +kernel
theorem dL_law_646 : decode jL_law.2.1 646 = .ok (.iaload, 1) := by decide +kernel
theorem dL_law_647 : decode jL_law.2.1 647 = .ok (.i2l, 1) := by decide +kernel
theorem dL_law_648 : decode jL_law.2.1 648 = .ok (.ldc2_w 79, 3) := by decide +kernel
theorem dL_law_651 : decode jL_law.2.1 651 = .ok (.land, 1) := by decide +kernel
theorem dL_law_652 : decode jL_law.2.1 652 = .ok (.lor, 1) := by decide +kernel
theorem dL_law_653 : decode jL_law.2.1 653 = .ok (.aload_n 0, 1) := by decide +kernel
theorem dL_law_654 : decode jL_law.2.1 654 = .ok (.iload 4, 2) := by decide +kernel
theorem dL_law_656 : decode jL_law.2.1 656 = .ok (.iconst 5, 1) := by decide +kernel
theorem dL_law_657 : decode jL_law.2.1 657 = .ok (.iadd, 1) := by decide +kernel
theorem dL_law_658 : decode jL_law.2.1 658 = .ok (.iaload, 1) := by decide +kernel
theorem dL_law_659 : decode jL_law.2.1 659 = .ok (.i2l, 1) := by decide +kernel
theorem dL_law_660 : decode jL_law.2.1 660 = .ok (.bipush 32, 2) := by decide +kernel
theorem dL_law_662 : decode jL_law.2.1 662 = .ok (.lshl, 1) := by decide +kernel
theorem dL_law_663 : decode jL_law.2.1 663 = .ok (.aload_n 0, 1) := by decide +kernel
theorem dL_law_664 : decode jL_law.2.1 664 = .ok (.iload 4, 2) := by decide +kernel
theorem dL_law_666 : decode jL_law.2.1 666 = .ok (.bipush 6, 2) := by decide +kernel
theorem dL_law_668 : decode jL_law.2.1 668 = .ok (.iadd, 1) := by decide +kernel
theorem dL_law_669 : decode jL_law.2.1 669 = .ok (.iaload, 1) := by decide +kernel
theorem dL_law_670 : decode jL_law.2.1 670 = .ok (.i2l, 1) := by decide +kernel
theorem dL_law_671 : decode jL_law.2.1 671 = .ok (.ldc2_w 79, 3) := by decide +kernel
theorem dL_law_674 : decode jL_law.2.1 674 = .ok (.land, 1) := by decide +kernel
theorem dL_law_675 : decode jL_law.2.1 675 = .ok (.lor, 1) := by decide +kernel
theorem dL_law_676 : decode jL_law.2.1 676 = .ok (.aload_n 0, 1) := by decide +kernel
theorem dL_law_677 : decode jL_law.2.1 677 = .ok (.iload 4, 2) := by decide +kernel
theorem dL_law_679 : decode jL_law.2.1 679 = .ok (.bipush 7, 2) := by decide +kernel
theorem dL_law_681 : decode jL_law.2.1 681 = .ok (.iadd, 1) := by decide +kernel
theorem dL_law_682 : decode jL_law.2.1 682 = .ok (.iaload, 1) := by decide +kernel
theorem dL_law_683 : decode jL_law.2.1 683 = .ok (.aload_n 3, 1) := by decide +kernel
theorem dL_law_684 : decode jL_law.2.1 684 = .ok (.invokestatic 105, 3) := by decide +kernel
theorem dL_law_687 : decode jL_law.2.1 687 = .ok (.istore 5, 2) := by decide +kernel
theorem dL_law_689 : decode jL_law.2.1 689 = .ok (.aload_n 2, 1) := by decide +kernel
theorem dL_law_690 : decode jL_law.2.1 690 = .ok (.aload_n 0, 1) := by decide +kernel
theorem dL_law_691 : decode jL_law.2.1 691 = .ok (.iload 4, 2) := by decide +kernel
theorem dL_law_693 : decode jL_law.2.1 693 = .ok (.iconst 1, 1) := by decide +kernel
theorem dL_law_694 : decode jL_law.2.1 694 = .ok (.iadd, 1) := by decide +kernel
theorem dL_law_695 : decode jL_law.2.1 695 = .ok (.iaload, 1) := by decide +kernel
theorem dL_law_696 : decode jL_law.2.1 696 = .ok (.aload_n 0, 1) := by decide +kernel
theorem dL_law_697 : decode jL_law.2.1 697 = .ok (.iload 4, 2) := by decide +kernel
theorem dL_law_699 : decode jL_law.2.1 699 = .ok (.iconst 2, 1) := by decide +kernel
theorem dL_law_700 : decode jL_law.2.1 700 = .ok (.iadd, 1) := by decide +kernel
theorem dL_law_701 : decode jL_law.2.1 701 = .ok (.iaload, 1) := by decide +kernel
theorem dL_law_702 : decode jL_law.2.1 702 = .ok (.aload_n 0, 1) := by decide +kernel
theorem dL_law_703 : decode jL_law.2.1 703 = .ok (.iload 4, 2) := by decide +kernel
theorem dL_law_705 : decode jL_law.2.1 705 = .ok (.iconst 3, 1) := by decide +kernel
theorem dL_law_706 : decode jL_law.2.1 706 = .ok (.iadd, 1) := by decide +kernel
theorem dL_law_707 : decode jL_law.2.1 707 = .ok (.iaload, 1) := by decide +kernel
theorem dL_law_708 : decode jL_law.2.1 708 = .ok (.i2l, 1) := by decide +kernel
theorem dL_law_709 : decode jL_law.2.1 709 = .ok (.bipush 32, 2) := by decide +kernel
theorem dL_law_711 : decode jL_law.2.1 711 = .ok (.lshl, 1) := by decide +kernel
theorem dL_law_712 : decode jL_law.2.1 712 = .ok (.aload_n 0, 1) := by decide +kernel
theorem dL_law_713 : decode jL_law.2.1 713 = .ok (.iload 4, 2) := by decide +kernel
theorem dL_law_715 : decode jL_law.2.1 715 = .ok (.iconst 4, 1) := by decide +kernel
theorem dL_law_716 : decode jL_law.2.1 716 = .ok (.iadd, 1) := by decide +kernel
theorem dL_law_717 : decode jL_law.2.1 717 = .ok (.iaload, 1) := by decide +kernel
theorem dL_law_718 : decode jL_law.2.1 718 = .ok (.i2l, 1) := by decide +kernel
theorem dL_law_719 : decode jL_law.2.1 719 = .ok (.ldc2_w 79, 3) := by decide +kernel
theorem dL_law_722 : decode jL_law.2.1 722 = .ok (.land, 1) := by decide +kernel
theorem dL_law_723 : decode jL_law.2.1 723 = .ok (.lor, 1) := by decide +kernel
theorem dL_law_724 : decode jL_law.2.1 724 = .ok (.aload_n 0, 1) := by decide +kernel
theorem dL_law_725 : decode jL_law.2.1 725 = .ok (.iload 4, 2) := by decide +kernel
theorem dL_law_727 : decode jL_law.2.1 727 = .ok (.iconst 5, 1) := by decide +kernel
theorem dL_law_728 : decode jL_law.2.1 728 = .ok (.iadd, 1) := by decide +kernel
theorem dL_law_729 : decode jL_law.2.1 729 = .ok (.iaload, 1) := by decide +kernel
theorem dL_law_730 : decode jL_law.2.1 730 = .ok (.i2l, 1) := by decide +kernel
theorem dL_law_731 : decode jL_law.2.1 731 = .ok (.bipush 32, 2) := by decide +kernel
theorem dL_law_733 : decode jL_law.2.1 733 = .ok (.lshl, 1) := by decide +kernel
theorem dL_law_734 : decode jL_law.2.1 734 = .ok (.aload_n 0, 1) := by decide +kernel
theorem dL_law_735 : decode jL_law.2.1 735 = .ok (.iload 4, 2) := by decide +kernel
theorem dL_law_737 : decode jL_law.2.1 737 = .ok (.bipush 6, 2) := by decide +kernel
theorem dL_law_739 : decode jL_law.2.1 739 = .ok (.iadd, 1) := by decide +kernel
theorem dL_law_740 : decode jL_law.2.1 740 = .ok (.iaload, 1) := by decide +kernel
theorem dL_law_741 : decode jL_law.2.1 741 = .ok (.i2l, 1) := by decide +kernel
theorem dL_law_742 : decode jL_law.2.1 742 = .ok (.ldc2_w 79, 3) := by decide +kernel
theorem dL_law_745 : decode jL_law.2.1 745 = .ok (.land, 1) := by decide +kernel
theorem dL_law_746 : decode jL_law.2.1 746 = .ok (.lor, 1) := by decide +kernel
theorem dL_law_747 : decode jL_law.2.1 747 = .ok (.aload_n 0, 1) := by decide +kernel
theorem dL_law_748 : decode jL_law.2.1 748 = .ok (.iload 4, 2) := by decide +kernel
theorem dL_law_750 : decode jL_law.2.1 750 = .ok (.bipush 7, 2) := by decide +kernel
theorem dL_law_752 : decode jL_law.2.1 752 = .ok (.iadd, 1) := by decide +kernel
theorem dL_law_753 : decode jL_law.2.1 753 = .ok (.iaload, 1) := by decide +kernel
theorem dL_law_754 : decode jL_law.2.1 754 = .ok (.invokevirtual 108, 3) := by decide +kernel
theorem dL_law_757 : decode jL_law.2.1 757 = .ok (.istore 6, 2) := by decide +kernel
theorem dL_law_759 : decode jL_law.2.1 759 = .ok (.aload_n 2, 1) := by decide +kernel
theorem dL_law_760 : decode jL_law.2.1 760 = .ok (.invokevirtual 87, 3) := by decide +kernel
theorem dL_law_763 : decode jL_law.2.1 763 = .ok (.iload 5, 2) := by decide +kernel
theorem dL_law_765 : decode jL_law.2.1 765 = .ok (.if_icmp .eq 5, 3) := by decide +kernel
theorem dL_law_768 : decode jL_law.2.1 768 = .ok (.iconst 0, 1) := by decide +kernel
theorem dL_law_769 : decode jL_law.2.1 769 = .ok (.ireturn, 1) := by decide +kernel
theorem dL_law_770 : decode jL_law.2.1 770 = .ok (.iload 5, 2) := by decide +kernel
theorem dL_law_772 : decode jL_law.2.1 772 = .ok (.ifCond .ne 15, 3) := by decide +kernel
theorem dL_law_775 : decode jL_law.2.1 775 = .ok (.aload_n 3, 1) := by decide +kernel
theorem dL_law_776 : decode jL_law.2.1 776 = .ok (.iconst 0, 1) := by decide +kernel
theorem dL_law_777 : decode jL_law.2.1 777 = .ok (.laload, 1) := by decide +kernel
theorem dL_law_778 : decode jL_law.2.1 778 = .ok (.iload 6, 2) := by decide +kernel
theorem dL_law_780 : decode jL_law.2.1 780 = .ok (.i2l, 1) := by decide +kernel
theorem dL_law_781 : decode jL_law.2.1 781 = .ok (.lcmp, 1) := by decide +kernel
theorem dL_law_782 : decode jL_law.2.1 782 = .ok (.ifCond .eq 5, 3) := by decide +kernel
theorem dL_law_785 : decode jL_law.2.1 785 = .ok (.iconst 0, 1) := by decide +kernel
theorem dL_law_786 : decode jL_law.2.1 786 = .ok (.ireturn, 1) := by decide +kernel
theorem dL_law_787 : decode jL_law.2.1 787 = .ok (.goto 726, 3) := by decide +kernel
theorem dL_law_790 : decode jL_law.2.1 790 = .ok (.aload_n 1, 1) := by decide +kernel
theorem dL_law_791 : decode jL_law.2.1 791 = .ok (.aload_n 0, 1) := by decide +kernel
theorem dL_law_792 : decode jL_law.2.1 792 = .ok (.iload 4, 2) := by decide +kernel
