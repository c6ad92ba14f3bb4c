/-! ===== the Model is made: decode rows, second half (written by mkinit3.py) ===== -/
theorem dX12_init_560 : decode cX12_init 560 = .ok (.bipush 101, 2) := by decide +kernel
theorem dX12_init_562 : decode cX12_init 562 = .ok (.bastore, 1) := by decide +kernel
theorem dX12_init_563 : decode cX12_init 563 = .ok (.dup, 1) := by decide +kernel
theorem dX12_init_564 : decode cX12_init 564 = .ok (.bipush 85, 2) := by decide +kernel
theorem dX12_init_566 : decode cX12_init 566 = .ok (.bipush 115, 2) := by decide +kernel
theorem dX12_init_568 : decode cX12_init 568 = .ok (.bastore, 1) := by decide +kernel
theorem dX12_init_569 : decode cX12_init 569 = .ok (.dup, 1) := by decide +kernel
theorem dX12_init_570 : decode cX12_init 570 = .ok (.bipush 86, 2) := by decide +kernel
theorem dX12_init_572 : decode cX12_init 572 = .ok (.bipush 116, 2) := by decide +kernel
theorem dX12_init_574 : decode cX12_init 574 = .ok (.bastore, 1) := by decide +kernel
theorem dX12_init_575 : decode cX12_init 575 = .ok (.dup, 1) := by decide +kernel
theorem dX12_init_576 : decode cX12_init 576 = .ok (.bipush 87, 2) := by decide +kernel
theorem dX12_init_578 : decode cX12_init 578 = .ok (.bipush 32, 2) := by decide +kernel
theorem dX12_init_580 : decode cX12_init 580 = .ok (.bastore, 1) := by decide +kernel
theorem dX12_init_581 : decode cX12_init 581 = .ok (.dup, 1) := by decide +kernel
theorem dX12_init_582 : decode cX12_init 582 = .ok (.bipush 88, 2) := by decide +kernel
theorem dX12_init_584 : decode cX12_init 584 = .ok (.bipush 98, 2) := by decide +kernel
theorem dX12_init_586 : decode cX12_init 586 = .ok (.bastore, 1) := by decide +kernel
theorem dX12_init_587 : decode cX12_init 587 = .ok (.dup, 1) := by decide +kernel
theorem dX12_init_588 : decode cX12_init 588 = .ok (.bipush 89, 2) := by decide +kernel
theorem dX12_init_590 : decode cX12_init 590 = .ok (.bipush 114, 2) := by decide +kernel
theorem dX12_init_592 : decode cX12_init 592 = .ok (.bastore, 1) := by decide +kernel
theorem dX12_init_593 : decode cX12_init 593 = .ok (.dup, 1) := by decide +kernel
theorem dX12_init_594 : decode cX12_init 594 = .ok (.bipush 90, 2) := by decide +kernel
theorem dX12_init_596 : decode cX12_init 596 = .ok (.bipush 101, 2) := by decide +kernel
theorem dX12_init_598 : decode cX12_init 598 = .ok (.bastore, 1) := by decide +kernel
theorem dX12_init_599 : decode cX12_init 599 = .ok (.dup, 1) := by decide +kernel
theorem dX12_init_600 : decode cX12_init 600 = .ok (.bipush 91, 2) := by decide +kernel
theorem dX12_init_602 : decode cX12_init 602 = .ok (.bipush 97, 2) := by decide +kernel
theorem dX12_init_604 : decode cX12_init 604 = .ok (.bastore, 1) := by decide +kernel
theorem dX12_init_605 : decode cX12_init 605 = .ok (.dup, 1) := by decide +kernel
theorem dX12_init_606 : decode cX12_init 606 = .ok (.bipush 92, 2) := by decide +kernel
theorem dX12_init_608 : decode cX12_init 608 = .ok (.bipush 107, 2) := by decide +kernel
theorem dX12_init_610 : decode cX12_init 610 = .ok (.bastore, 1) := by decide +kernel
theorem dX12_init_611 : decode cX12_init 611 = .ok (.dup, 1) := by decide +kernel
theorem dX12_init_612 : decode cX12_init 612 = .ok (.bipush 93, 2) := by decide +kernel
theorem dX12_init_614 : decode cX12_init 614 = .ok (.bipush 115, 2) := by decide +kernel
theorem dX12_init_616 : decode cX12_init 616 = .ok (.bastore, 1) := by decide +kernel
theorem dX12_init_617 : decode cX12_init 617 = .ok (.dup, 1) := by decide +kernel
theorem dX12_init_618 : decode cX12_init 618 = .ok (.bipush 94, 2) := by decide +kernel
theorem dX12_init_620 : decode cX12_init 620 = .ok (.bipush 32, 2) := by decide +kernel
theorem dX12_init_622 : decode cX12_init 622 = .ok (.bastore, 1) := by decide +kernel
theorem dX12_init_623 : decode cX12_init 623 = .ok (.dup, 1) := by decide +kernel
theorem dX12_init_624 : decode cX12_init 624 = .ok (.bipush 95, 2) := by decide +kernel
theorem dX12_init_626 : decode cX12_init 626 = .ok (.bipush 115, 2) := by decide +kernel
theorem dX12_init_628 : decode cX12_init 628 = .ok (.bastore, 1) := by decide +kernel
theorem dX12_init_629 : decode cX12_init 629 = .ok (.dup, 1) := by decide +kernel
theorem dX12_init_630 : decode cX12_init 630 = .ok (.bipush 96, 2) := by decide +kernel
theorem dX12_init_632 : decode cX12_init 632 = .ok (.bipush 119, 2) := by decide +kernel
theorem dX12_init_634 : decode cX12_init 634 = .ok (.bastore, 1) := by decide +kernel
theorem dX12_init_635 : decode cX12_init 635 = .ok (.dup, 1) := by decide +kernel
theorem dX12_init_636 : decode cX12_init 636 = .ok (.bipush 97, 2) := by decide +kernel
theorem dX12_init_638 : decode cX12_init 638 = .ok (.bipush 97, 2) := by decide +kernel
theorem dX12_init_640 : decode cX12_init 640 = .ok (.bastore, 1) := by decide +kernel
theorem dX12_init_641 : decode cX12_init 641 = .ok (.dup, 1) := by decide +kernel
theorem dX12_init_642 : decode cX12_init 642 = .ok (.bipush 98, 2) := by decide +kernel
theorem dX12_init_644 : decode cX12_init 644 = .ok (.bipush 112, 2) := by decide +kernel
theorem dX12_init_646 : decode cX12_init 646 = .ok (.bastore, 1) := by decide +kernel
theorem dX12_init_647 : decode cX12_init 647 = .ok (.dup, 1) := by decide +kernel
theorem dX12_init_648 : decode cX12_init 648 = .ok (.bipush 99, 2) := by decide +kernel
theorem dX12_init_650 : decode cX12_init 650 = .ok (.bipush 115, 2) := by decide +kernel
theorem dX12_init_652 : decode cX12_init 652 = .ok (.bastore, 1) := by decide +kernel
theorem dX12_init_653 : decode cX12_init 653 = .ok (.dup, 1) := by decide +kernel
theorem dX12_init_654 : decode cX12_init 654 = .ok (.bipush 100, 2) := by decide +kernel
theorem dX12_init_656 : decode cX12_init 656 = .ok (.bipush 32, 2) := by decide +kernel
theorem dX12_init_658 : decode cX12_init 658 = .ok (.bastore, 1) := by decide +kernel
theorem dX12_init_659 : decode cX12_init 659 = .ok (.dup, 1) := by decide +kernel
theorem dX12_init_660 : decode cX12_init 660 = .ok (.bipush 101, 2) := by decide +kernel
theorem dX12_init_662 : decode cX12_init 662 = .ok (.bipush 119, 2) := by decide +kernel
theorem dX12_init_664 : decode cX12_init 664 = .ok (.bastore, 1) := by decide +kernel
theorem dX12_init_665 : decode cX12_init 665 = .ok (.dup, 1) := by decide +kernel
theorem dX12_init_666 : decode cX12_init 666 = .ok (.bipush 102, 2) := by decide +kernel
theorem dX12_init_668 : decode cX12_init 668 = .ok (.bipush 104, 2) := by decide +kernel
theorem dX12_init_670 : decode cX12_init 670 = .ok (.bastore, 1) := by decide +kernel
theorem dX12_init_671 : decode cX12_init 671 = .ok (.dup, 1) := by decide +kernel
theorem dX12_init_672 : decode cX12_init 672 = .ok (.bipush 103, 2) := by decide +kernel
theorem dX12_init_674 : decode cX12_init 674 = .ok (.bipush 111, 2) := by decide +kernel
theorem dX12_init_676 : decode cX12_init 676 = .ok (.bastore, 1) := by decide +kernel
theorem dX12_init_677 : decode cX12_init 677 = .ok (.dup, 1) := by decide +kernel
theorem dX12_init_678 : decode cX12_init 678 = .ok (.bipush 104, 2) := by decide +kernel
theorem dX12_init_680 : decode cX12_init 680 = .ok (.bipush 32, 2) := by decide +kernel
theorem dX12_init_682 : decode cX12_init 682 = .ok (.bastore, 1) := by decide +kernel
theorem dX12_init_683 : decode cX12_init 683 = .ok (.dup, 1) := by decide +kernel
theorem dX12_init_684 : decode cX12_init 684 = .ok (.bipush 105, 2) := by decide +kernel
theorem dX12_init_686 : decode cX12_init 686 = .ok (.bipush 110, 2) := by decide +kernel
theorem dX12_init_688 : decode cX12_init 688 = .ok (.bastore, 1) := by decide +kernel
theorem dX12_init_689 : decode cX12_init 689 = .ok (.dup, 1) := by decide +kernel
theorem dX12_init_690 : decode cX12_init 690 = .ok (.bipush 106, 2) := by decide +kernel
theorem dX12_init_692 : decode cX12_init 692 = .ok (.bipush 97, 2) := by decide +kernel
theorem dX12_init_694 : decode cX12_init 694 = .ok (.bastore, 1) := by decide +kernel
theorem dX12_init_695 : decode cX12_init 695 = .ok (.dup, 1) := by decide +kernel
theorem dX12_init_696 : decode cX12_init 696 = .ok (.bipush 107, 2) := by decide +kernel
theorem dX12_init_698 : decode cX12_init 698 = .ok (.bipush 109, 2) := by decide +kernel
theorem dX12_init_700 : decode cX12_init 700 = .ok (.bastore, 1) := by decide +kernel
theorem dX12_init_701 : decode cX12_init 701 = .ok (.dup, 1) := by decide +kernel
theorem dX12_init_702 : decode cX12_init 702 = .ok (.bipush 108, 2) := by decide +kernel
theorem dX12_init_704 : decode cX12_init 704 = .ok (.bipush 101, 2) := by decide +kernel
theorem dX12_init_706 : decode cX12_init 706 = .ok (.bastore, 1) := by decide +kernel
theorem dX12_init_707 : decode cX12_init 707 = .ok (.dup, 1) := by decide +kernel
theorem dX12_init_708 : decode cX12_init 708 = .ok (.bipush 109, 2) := by decide +kernel
theorem dX12_init_710 : decode cX12_init 710 = .ok (.bipush 32, 2) := by decide +kernel
theorem dX12_init_712 : decode cX12_init 712 = .ok (.bastore, 1) := by decide +kernel
theorem dX12_init_713 : decode cX12_init 713 = .ok (.dup, 1) := by decide +kernel
theorem dX12_init_714 : decode cX12_init 714 = .ok (.bipush 110, 2) := by decide +kernel
theorem dX12_init_716 : decode cX12_init 716 = .ok (.bipush 115, 2) := by decide +kernel
theorem dX12_init_718 : decode cX12_init 718 = .ok (.bastore, 1) := by decide +kernel
theorem dX12_init_719 : decode cX12_init 719 = .ok (.dup, 1) := by decide +kernel
theorem dX12_init_720 : decode cX12_init 720 = .ok (.bipush 111, 2) := by decide +kernel
theorem dX12_init_722 : decode cX12_init 722 = .ok (.bipush 116, 2) := by decide +kernel
theorem dX12_init_724 : decode cX12_init 724 = .ok (.bastore, 1) := by decide +kernel
theorem dX12_init_725 : decode cX12_init 725 = .ok (.dup, 1) := by decide +kernel
theorem dX12_init_726 : decode cX12_init 726 = .ok (.bipush 112, 2) := by decide +kernel
theorem dX12_init_728 : decode cX12_init 728 = .ok (.bipush 114, 2) := by decide +kernel
theorem dX12_init_730 : decode cX12_init 730 = .ok (.bastore, 1) := by decide +kernel
theorem dX12_init_731 : decode cX12_init 731 = .ok (.dup, 1) := by decide +kernel
theorem dX12_init_732 : decode cX12_init 732 = .ok (.bipush 113, 2) := by decide +kernel
theorem dX12_init_734 : decode cX12_init 734 = .ok (.bipush 111, 2) := by decide +kernel
theorem dX12_init_736 : decode cX12_init 736 = .ok (.bastore, 1) := by decide +kernel
theorem dX12_init_737 : decode cX12_init 737 = .ok (.dup, 1) := by decide +kernel
theorem dX12_init_738 : decode cX12_init 738 = .ok (.bipush 114, 2) := by decide +kernel
theorem dX12_init_740 : decode cX12_init 740 = .ok (.bipush 107, 2) := by decide +kernel
theorem dX12_init_742 : decode cX12_init 742 = .ok (.bastore, 1) := by decide +kernel
theorem dX12_init_743 : decode cX12_init 743 = .ok (.dup, 1) := by decide +kernel
theorem dX12_init_744 : decode cX12_init 744 = .ok (.bipush 115, 2) := by decide +kernel
theorem dX12_init_746 : decode cX12_init 746 = .ok (.bipush 101, 2) := by decide +kernel
theorem dX12_init_748 : decode cX12_init 748 = .ok (.bastore, 1) := by decide +kernel
theorem dX12_init_749 : decode cX12_init 749 = .ok (.dup, 1) := by decide +kernel
theorem dX12_init_750 : decode cX12_init 750 = .ok (.bipush 116, 2) := by decide +kernel
theorem dX12_init_752 : decode cX12_init 752 = .ok (.bipush 32, 2) := by decide +kernel
theorem dX12_init_754 : decode cX12_init 754 = .ok (.bastore, 1) := by decide +kernel
theorem dX12_init_755 : decode cX12_init 755 = .ok (.dup, 1) := by decide +kernel
theorem dX12_init_756 : decode cX12_init 756 = .ok (.bipush 117, 2) := by decide +kernel
theorem dX12_init_758 : decode cX12_init 758 = .ok (.bipush 116, 2) := by decide +kernel
theorem dX12_init_760 : decode cX12_init 760 = .ok (.bastore, 1) := by decide +kernel
theorem dX12_init_761 : decode cX12_init 761 = .ok (.dup, 1) := by decide +kernel
theorem dX12_init_762 : decode cX12_init 762 = .ok (.bipush 118, 2) := by decide +kernel
theorem dX12_init_764 : decode cX12_init 764 = .ok (.bipush 111, 2) := by decide +kernel
theorem dX12_init_766 : decode cX12_init 766 = .ok (.bastore, 1) := by decide +kernel
theorem dX12_init_767 : decode cX12_init 767 = .ok (.dup, 1) := by decide +kernel
theorem dX12_init_768 : decode cX12_init 768 = .ok (.bipush 119, 2) := by decide +kernel
theorem dX12_init_770 : decode cX12_init 770 = .ok (.bipush 32, 2) := by decide +kernel
theorem dX12_init_772 : decode cX12_init 772 = .ok (.bastore, 1) := by decide +kernel
theorem dX12_init_773 : decode cX12_init 773 = .ok (.dup, 1) := by decide +kernel
theorem dX12_init_774 : decode cX12_init 774 = .ok (.bipush 120, 2) := by decide +kernel
theorem dX12_init_776 : decode cX12_init 776 = .ok (.bipush 115, 2) := by decide +kernel
theorem dX12_init_778 : decode cX12_init 778 = .ok (.bastore, 1) := by decide +kernel
theorem dX12_init_779 : decode cX12_init 779 = .ok (.dup, 1) := by decide +kernel
theorem dX12_init_780 : decode cX12_init 780 = .ok (.bipush 121, 2) := by decide +kernel
theorem dX12_init_782 : decode cX12_init 782 = .ok (.bipush 119, 2) := by decide +kernel
theorem dX12_init_784 : decode cX12_init 784 = .ok (.bastore, 1) := by decide +kernel
theorem dX12_init_785 : decode cX12_init 785 = .ok (.dup, 1) := by decide +kernel
theorem dX12_init_786 : decode cX12_init 786 = .ok (.bipush 122, 2) := by decide +kernel
theorem dX12_init_788 : decode cX12_init 788 = .ok (.bipush 97, 2) := by decide +kernel
theorem dX12_init_790 : decode cX12_init 790 = .ok (.bastore, 1) := by decide +kernel
theorem dX12_init_791 : decode cX12_init 791 = .ok (.dup, 1) := by decide +kernel
theorem dX12_init_792 : decode cX12_init 792 = .ok (.bipush 123, 2) := by decide +kernel
theorem dX12_init_794 : decode cX12_init 794 = .ok (.bipush 112, 2) := by decide +kernel
theorem dX12_init_796 : decode cX12_init 796 = .ok (.bastore, 1) := by decide +kernel
theorem dX12_init_797 : decode cX12_init 797 = .ok (.dup, 1) := by decide +kernel
theorem dX12_init_798 : decode cX12_init 798 = .ok (.bipush 124, 2) := by decide +kernel
theorem dX12_init_800 : decode cX12_init 800 = .ok (.bipush 32, 2) := by decide +kernel
theorem dX12_init_802 : decode cX12_init 802 = .ok (.bastore, 1) := by decide +kernel
theorem dX12_init_803 : decode cX12_init 803 = .ok (.dup, 1) := by decide +kernel
theorem dX12_init_804 : decode cX12_init 804 = .ok (.bipush 125, 2) := by decide +kernel
theorem dX12_init_806 : decode cX12_init 806 = .ok (.bipush 100, 2) := by decide +kernel
theorem dX12_init_808 : decode cX12_init 808 = .ok (.bastore, 1) := by decide +kernel
theorem dX12_init_809 : decode cX12_init 809 = .ok (.dup, 1) := by decide +kernel
theorem dX12_init_810 : decode cX12_init 810 = .ok (.bipush 126, 2) := by decide +kernel
theorem dX12_init_812 : decode cX12_init 812 = .ok (.bipush 101, 2) := by decide +kernel
theorem dX12_init_814 : decode cX12_init 814 = .ok (.bastore, 1) := by decide +kernel
theorem dX12_init_815 : decode cX12_init 815 = .ok (.dup, 1) := by decide +kernel
theorem dX12_init_816 : decode cX12_init 816 = .ok (.bipush 127, 2) := by decide +kernel
theorem dX12_init_818 : decode cX12_init 818 = .ok (.bipush 99, 2) := by decide +kernel
theorem dX12_init_820 : decode cX12_init 820 = .ok (.bastore, 1) := by decide +kernel
theorem dX12_init_821 : decode cX12_init 821 = .ok (.dup, 1) := by decide +kernel
theorem dX12_init_822 : decode cX12_init 822 = .ok (.sipush 128, 3) := by decide +kernel
theorem dX12_init_825 : decode cX12_init 825 = .ok (.bipush 114, 2) := by decide +kernel
theorem dX12_init_827 : decode cX12_init 827 = .ok (.bastore, 1) := by decide +kernel
theorem dX12_init_828 : decode cX12_init 828 = .ok (.dup, 1) := by decide +kernel
theorem dX12_init_829 : decode cX12_init 829 = .ok (.sipush 129, 3) := by decide +kernel
theorem dX12_init_832 : decode cX12_init 832 = .ok (.bipush 101, 2) := by decide +kernel
theorem dX12_init_834 : decode cX12_init 834 = .ok (.bastore, 1) := by decide +kernel
theorem dX12_init_835 : decode cX12_init 835 = .ok (.dup, 1) := by decide +kernel
theorem dX12_init_836 : decode cX12_init 836 = .ok (.sipush 130, 3) := by decide +kernel
theorem dX12_init_839 : decode cX12_init 839 = .ok (.bipush 101, 2) := by decide +kernel
theorem dX12_init_841 : decode cX12_init 841 = .ok (.bastore, 1) := by decide +kernel
theorem dX12_init_842 : decode cX12_init 842 = .ok (.dup, 1) := by decide +kernel
theorem dX12_init_843 : decode cX12_init 843 = .ok (.sipush 131, 3) := by decide +kernel
theorem dX12_init_846 : decode cX12_init 846 = .ok (.bipush 32, 2) := by decide +kernel
theorem dX12_init_848 : decode cX12_init 848 = .ok (.bastore, 1) := by decide +kernel
theorem dX12_init_849 : decode cX12_init 849 = .ok (.dup, 1) := by decide +kernel
theorem dX12_init_850 : decode cX12_init 850 = .ok (.sipush 132, 3) := by decide +kernel
theorem dX12_init_853 : decode cX12_init 853 = .ok (.bipush 112, 2) := by decide +kernel
theorem dX12_init_855 : decode cX12_init 855 = .ok (.bastore, 1) := by decide +kernel
theorem dX12_init_856 : decode cX12_init 856 = .ok (.dup, 1) := by decide +kernel
theorem dX12_init_857 : decode cX12_init 857 = .ok (.sipush 133, 3) := by decide +kernel
theorem dX12_init_860 : decode cX12_init 860 = .ok (.bipush 97, 2) := by decide +kernel
theorem dX12_init_862 : decode cX12_init 862 = .ok (.bastore, 1) := by decide +kernel
theorem dX12_init_863 : decode cX12_init 863 = .ok (.dup, 1) := by decide +kernel
theorem dX12_init_864 : decode cX12_init 864 = .ok (.sipush 134, 3) := by decide +kernel
theorem dX12_init_867 : decode cX12_init 867 = .ok (.bipush 115, 2) := by decide +kernel
theorem dX12_init_869 : decode cX12_init 869 = .ok (.bastore, 1) := by decide +kernel
theorem dX12_init_870 : decode cX12_init 870 = .ok (.dup, 1) := by decide +kernel
theorem dX12_init_871 : decode cX12_init 871 = .ok (.sipush 135, 3) := by decide +kernel
theorem dX12_init_874 : decode cX12_init 874 = .ok (.bipush 115, 2) := by decide +kernel
theorem dX12_init_876 : decode cX12_init 876 = .ok (.bastore, 1) := by decide +kernel
theorem dX12_init_877 : decode cX12_init 877 = .ok (.dup, 1) := by decide +kernel
theorem dX12_init_878 : decode cX12_init 878 = .ok (.sipush 136, 3) := by decide +kernel
theorem dX12_init_881 : decode cX12_init 881 = .ok (.bipush 32, 2) := by decide +kernel
theorem dX12_init_883 : decode cX12_init 883 = .ok (.bastore, 1) := by decide +kernel
theorem dX12_init_884 : decode cX12_init 884 = .ok (.dup, 1) := by decide +kernel
theorem dX12_init_885 : decode cX12_init 885 = .ok (.sipush 137, 3) := by decide +kernel
theorem dX12_init_888 : decode cX12_init 888 = .ok (.bipush 116, 2) := by decide +kernel
theorem dX12_init_890 : decode cX12_init 890 = .ok (.bastore, 1) := by decide +kernel
theorem dX12_init_891 : decode cX12_init 891 = .ok (.dup, 1) := by decide +kernel
theorem dX12_init_892 : decode cX12_init 892 = .ok (.sipush 138, 3) := by decide +kernel
theorem dX12_init_895 : decode cX12_init 895 = .ok (.bipush 105, 2) := by decide +kernel
theorem dX12_init_897 : decode cX12_init 897 = .ok (.bastore, 1) := by decide +kernel
theorem dX12_init_898 : decode cX12_init 898 = .ok (.dup, 1) := by decide +kernel
theorem dX12_init_899 : decode cX12_init 899 = .ok (.sipush 139, 3) := by decide +kernel
theorem dX12_init_902 : decode cX12_init 902 = .ok (.bipush 109, 2) := by decide +kernel
theorem dX12_init_904 : decode cX12_init 904 = .ok (.bastore, 1) := by decide +kernel
theorem dX12_init_905 : decode cX12_init 905 = .ok (.dup, 1) := by decide +kernel
theorem dX12_init_906 : decode cX12_init 906 = .ok (.sipush 140, 3) := by decide +kernel
theorem dX12_init_909 : decode cX12_init 909 = .ok (.bipush 101, 2) := by decide +kernel
theorem dX12_init_911 : decode cX12_init 911 = .ok (.bastore, 1) := by decide +kernel
theorem dX12_init_912 : decode cX12_init 912 = .ok (.dup, 1) := by decide +kernel
theorem dX12_init_913 : decode cX12_init 913 = .ok (.sipush 141, 3) := by decide +kernel
theorem dX12_init_916 : decode cX12_init 916 = .ok (.bipush 115, 2) := by decide +kernel
theorem dX12_init_918 : decode cX12_init 918 = .ok (.bastore, 1) := by decide +kernel
theorem dX12_init_919 : decode cX12_init 919 = .ok (.dup, 1) := by decide +kernel
theorem dX12_init_920 : decode cX12_init 920 = .ok (.sipush 142, 3) := by decide +kernel
theorem dX12_init_923 : decode cX12_init 923 = .ok (.bipush 32, 2) := by decide +kernel
theorem dX12_init_925 : decode cX12_init 925 = .ok (.bastore, 1) := by decide +kernel
theorem dX12_init_926 : decode cX12_init 926 = .ok (.putfield 58, 3) := by decide +kernel
theorem dX12_init_929 : decode cX12_init 929 = .ok (.aload_n 0, 1) := by decide +kernel
theorem dX12_init_930 : decode cX12_init 930 = .ok (.sipush 400, 3) := by decide +kernel
theorem dX12_init_933 : decode cX12_init 933 = .ok (.newarray .byte, 2) := by decide +kernel
theorem dX12_init_935 : decode cX12_init 935 = .ok (.putfield 62, 3) := by decide +kernel
theorem dX12_init_938 : decode cX12_init 938 = .ok (.aload_n 0, 1) := by decide +kernel
theorem dX12_init_939 : decode cX12_init 939 = .ok (.iconst 5, 1) := by decide +kernel
theorem dX12_init_940 : decode cX12_init 940 = .ok (.newarray .int, 2) := by decide +kernel
theorem dX12_init_942 : decode cX12_init 942 = .ok (.putfield 65, 3) := by decide +kernel
theorem dX12_init_945 : decode cX12_init 945 = .ok (.aload_n 0, 1) := by decide +kernel
theorem dX12_init_946 : decode cX12_init 946 = .ok (.iconst (-1), 1) := by decide +kernel
theorem dX12_init_947 : decode cX12_init 947 = .ok (.putfield 68, 3) := by decide +kernel
theorem dX12_init_950 : decode cX12_init 950 = .ok (.aload_n 0, 1) := by decide +kernel
theorem dX12_init_951 : decode cX12_init 951 = .ok (.sipush 401, 3) := by decide +kernel
theorem dX12_init_954 : decode cX12_init 954 = .ok (.newarray .int, 2) := by decide +kernel
theorem dX12_init_956 : decode cX12_init 956 = .ok (.putfield 71, 3) := by decide +kernel
theorem dX12_init_959 : decode cX12_init 959 = .ok (.aload_n 0, 1) := by decide +kernel
theorem dX12_init_960 : decode cX12_init 960 = .ok (.sipush 401, 3) := by decide +kernel
theorem dX12_init_963 : decode cX12_init 963 = .ok (.newarray .int, 2) := by decide +kernel
theorem dX12_init_965 : decode cX12_init 965 = .ok (.putfield 74, 3) := by decide +kernel
theorem dX12_init_968 : decode cX12_init 968 = .ok (.aload_n 0, 1) := by decide +kernel
theorem dX12_init_969 : decode cX12_init 969 = .ok (.sipush 401, 3) := by decide +kernel
theorem dX12_init_972 : decode cX12_init 972 = .ok (.newarray .int, 2) := by decide +kernel
theorem dX12_init_974 : decode cX12_init 974 = .ok (.putfield 77, 3) := by decide +kernel
theorem dX12_init_977 : decode cX12_init 977 = .ok (.aload_n 0, 1) := by decide +kernel
theorem dX12_init_978 : decode cX12_init 978 = .ok (.bipush 8, 2) := by decide +kernel
theorem dX12_init_980 : decode cX12_init 980 = .ok (.newarray .int, 2) := by decide +kernel
theorem dX12_init_982 : decode cX12_init 982 = .ok (.putfield 80, 3) := by decide +kernel
theorem dX12_init_985 : decode cX12_init 985 = .ok (.aload_n 0, 1) := by decide +kernel
theorem dX12_init_986 : decode cX12_init 986 = .ok (.iconst 5, 1) := by decide +kernel
theorem dX12_init_987 : decode cX12_init 987 = .ok (.newarray .int, 2) := by decide +kernel
theorem dX12_init_989 : decode cX12_init 989 = .ok (.putfield 83, 3) := by decide +kernel
theorem dX12_init_992 : decode cX12_init 992 = .ok (.aload_n 0, 1) := by decide +kernel
theorem dX12_init_993 : decode cX12_init 993 = .ok (.bipush 49, 2) := by decide +kernel
theorem dX12_init_995 : decode cX12_init 995 = .ok (.newarray .int, 2) := by decide +kernel
theorem dX12_init_997 : decode cX12_init 997 = .ok (.putfield 86, 3) := by decide +kernel
theorem dX12_init_1000 : decode cX12_init 1000 = .ok (.aload_n 0, 1) := by decide +kernel
theorem dX12_init_1001 : decode cX12_init 1001 = .ok (.sipush 780, 3) := by decide +kernel
theorem dX12_init_1004 : decode cX12_init 1004 = .ok (.newarray .int, 2) := by decide +kernel
theorem dX12_init_1006 : decode cX12_init 1006 = .ok (.putfield 89, 3) := by decide +kernel
theorem dX12_init_1009 : decode cX12_init 1009 = .ok (.aload_n 0, 1) := by decide +kernel
theorem dX12_init_1010 : decode cX12_init 1010 = .ok (.sipush 5460, 3) := by decide +kernel
theorem dX12_init_1013 : decode cX12_init 1013 = .ok (.newarray .int, 2) := by decide +kernel
theorem dX12_init_1015 : decode cX12_init 1015 = .ok (.putfield 92, 3) := by decide +kernel
theorem dX12_init_1018 : decode cX12_init 1018 = .ok (.aload_n 0, 1) := by decide +kernel
theorem dX12_init_1019 : decode cX12_init 1019 = .ok (.sipush 6248, 3) := by decide +kernel
theorem dX12_init_1022 : decode cX12_init 1022 = .ok (.newarray .int, 2) := by decide +kernel
theorem dX12_init_1024 : decode cX12_init 1024 = .ok (.putfield 95, 3) := by decide +kernel
theorem dX12_init_1027 : decode cX12_init 1027 = .ok (.aload_n 0, 1) := by decide +kernel
theorem dX12_init_1028 : decode cX12_init 1028 = .ok (.bipush 24, 2) := by decide +kernel
theorem dX12_init_1030 : decode cX12_init 1030 = .ok (.newarray .int, 2) := by decide +kernel
theorem dX12_init_1032 : decode cX12_init 1032 = .ok (.putfield 98, 3) := by decide +kernel
theorem dX12_init_1035 : decode cX12_init 1035 = .ok (.aload_n 0, 1) := by decide +kernel
theorem dX12_init_1036 : decode cX12_init 1036 = .ok (.bipush 40, 2) := by decide +kernel
theorem dX12_init_1038 : decode cX12_init 1038 = .ok (.newarray .int, 2) := by decide +kernel
theorem dX12_init_1040 : decode cX12_init 1040 = .ok (.putfield 101, 3) := by decide +kernel
theorem dX12_init_1043 : decode cX12_init 1043 = .ok (.aload_n 0, 1) := by decide +kernel
theorem dX12_init_1044 : decode cX12_init 1044 = .ok (.bipush 7, 2) := by decide +kernel
theorem dX12_init_1046 : decode cX12_init 1046 = .ok (.newarray .int, 2) := by decide +kernel
theorem dX12_init_1048 : decode cX12_init 1048 = .ok (.putfield 104, 3) := by decide +kernel
theorem dX12_init_1051 : decode cX12_init 1051 = .ok (.aload_n 0, 1) := by decide +kernel
theorem dX12_init_1052 : decode cX12_init 1052 = .ok (.bipush 7, 2) := by decide +kernel
theorem dX12_init_1054 : decode cX12_init 1054 = .ok (.newarray .int, 2) := by decide +kernel
theorem dX12_init_1056 : decode cX12_init 1056 = .ok (.putfield 107, 3) := by decide +kernel
theorem dX12_init_1059 : decode cX12_init 1059 = .ok (.aload_n 0, 1) := by decide +kernel
theorem dX12_init_1060 : decode cX12_init 1060 = .ok (.bipush 21, 2) := by decide +kernel
theorem dX12_init_1062 : decode cX12_init 1062 = .ok (.newarray .long, 2) := by decide +kernel
theorem dX12_init_1064 : decode cX12_init 1064 = .ok (.putfield 110, 3) := by decide +kernel
theorem dX12_init_1067 : decode cX12_init 1067 = .ok (.aload_n 0, 1) := by decide +kernel
theorem dX12_init_1068 : decode cX12_init 1068 = .ok (.sipush 336, 3) := by decide +kernel
theorem dX12_init_1071 : decode cX12_init 1071 = .ok (.newarray .int, 2) := by decide +kernel
theorem dX12_init_1073 : decode cX12_init 1073 = .ok (.putfield 114, 3) := by decide +kernel
theorem dX12_init_1076 : decode cX12_init 1076 = .ok (.aload_n 0, 1) := by decide +kernel
theorem dX12_init_1077 : decode cX12_init 1077 = .ok (.sipush 336, 3) := by decide +kernel
theorem dX12_init_1080 : decode cX12_init 1080 = .ok (.newarray .int, 2) := by decide +kernel
theorem dX12_init_1082 : decode cX12_init 1082 = .ok (.putfield 117, 3) := by decide +kernel
theorem dX12_init_1085 : decode cX12_init 1085 = .ok (.aload_n 0, 1) := by decide +kernel
theorem dX12_init_1086 : decode cX12_init 1086 = .ok (.iconst (-1), 1) := by decide +kernel
theorem dX12_init_1087 : decode cX12_init 1087 = .ok (.putfield 120, 3) := by decide +kernel
theorem dX12_init_1090 : decode cX12_init 1090 = .ok (.aload_n 0, 1) := by decide +kernel
theorem dX12_init_1091 : decode cX12_init 1091 = .ok (.iconst 3, 1) := by decide +kernel
theorem dX12_init_1092 : decode cX12_init 1092 = .ok (.newarray .long, 2) := by decide +kernel
theorem dX12_init_1094 : decode cX12_init 1094 = .ok (.putfield 123, 3) := by decide +kernel
theorem dX12_init_1097 : decode cX12_init 1097 = .ok (.aload_n 0, 1) := by decide +kernel
theorem dX12_init_1098 : decode cX12_init 1098 = .ok (.bipush 20, 2) := by decide +kernel
theorem dX12_init_1100 : decode cX12_init 1100 = .ok (.newarray .int, 2) := by decide +kernel
theorem dX12_init_1102 : decode cX12_init 1102 = .ok (.putfield 126, 3) := by decide +kernel
theorem dX12_init_1105 : decode cX12_init 1105 = .ok (.aload_n 0, 1) := by decide +kernel
theorem dX12_init_1106 : decode cX12_init 1106 = .ok (.iconst (-1), 1) := by decide +kernel
theorem dX12_init_1107 : decode cX12_init 1107 = .ok (.putfield 129, 3) := by decide +kernel
theorem dX12_init_1110 : decode cX12_init 1110 = .ok (.aload_n 0, 1) := by decide +kernel
theorem dX12_init_1111 : decode cX12_init 1111 = .ok (.getfield 42, 3) := by decide +kernel
theorem dX12_init_1114 : decode cX12_init 1114 = .ok (.bipush 71, 2) := by decide +kernel
theorem dX12_init_1116 : decode cX12_init 1116 = .ok (.iconst 1, 1) := by decide +kernel
theorem dX12_init_1117 : decode cX12_init 1117 = .ok (.iastore, 1) := by decide +kernel
theorem dX12_init_1118 : decode cX12_init 1118 = .ok (.aload_n 0, 1) := by decide +kernel
theorem dX12_init_1119 : decode cX12_init 1119 = .ok (.getfield 42, 3) := by decide +kernel
theorem dX12_init_1122 : decode cX12_init 1122 = .ok (.bipush 76, 2) := by decide +kernel
theorem dX12_init_1124 : decode cX12_init 1124 = .ok (.iconst (-1), 1) := by decide +kernel
theorem dX12_init_1125 : decode cX12_init 1125 = .ok (.iastore, 1) := by decide +kernel
theorem dX12_init_1126 : decode cX12_init 1126 = .ok (.iconst 0, 1) := by decide +kernel
theorem dX12_init_1127 : decode cX12_init 1127 = .ok (.istore_n 1, 1) := by decide +kernel
theorem dX12_init_1128 : decode cX12_init 1128 = .ok (.iload_n 1, 1) := by decide +kernel
theorem dX12_init_1129 : decode cX12_init 1129 = .ok (.iconst 5, 1) := by decide +kernel
theorem dX12_init_1130 : decode cX12_init 1130 = .ok (.if_icmp .ge 21, 3) := by decide +kernel
theorem dX12_init_1133 : decode cX12_init 1133 = .ok (.aload_n 0, 1) := by decide +kernel
theorem dX12_init_1134 : decode cX12_init 1134 = .ok (.getfield 42, 3) := by decide +kernel
theorem dX12_init_1137 : decode cX12_init 1137 = .ok (.bipush 14, 2) := by decide +kernel
theorem dX12_init_1139 : decode cX12_init 1139 = .ok (.iload_n 1, 1) := by decide +kernel
theorem dX12_init_1140 : decode cX12_init 1140 = .ok (.iadd, 1) := by decide +kernel
theorem dX12_init_1141 : decode cX12_init 1141 = .ok (.iload_n 1, 1) := by decide +kernel
theorem dX12_init_1142 : decode cX12_init 1142 = .ok (.iconst 1, 1) := by decide +kernel
theorem dX12_init_1143 : decode cX12_init 1143 = .ok (.iadd, 1) := by decide +kernel
theorem dX12_init_1144 : decode cX12_init 1144 = .ok (.iastore, 1) := by decide +kernel
theorem dX12_init_1145 : decode cX12_init 1145 = .ok (.iinc 1 1, 3) := by decide +kernel
theorem dX12_init_1148 : decode cX12_init 1148 = .ok (.goto (-20), 3) := by decide +kernel
theorem dX12_init_1151 : decode cX12_init 1151 = .ok (.aload_n 0, 1) := by decide +kernel
theorem dX12_init_1152 : decode cX12_init 1152 = .ok (.invokevirtual 132, 3) := by decide +kernel
theorem dX12_init_1155 : decode cX12_init 1155 = .ok (.return_, 1) := by decide +kernel

