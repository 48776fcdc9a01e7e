theorem dX8_init_592 : decode cX8_init 592 = .ok (.iastore, 1) := by decide +kernel
theorem dX8_init_593 : decode cX8_init 593 = .ok (.dup, 1) := by decide +kernel
theorem dX8_init_594 : decode cX8_init 594 = .ok (.bipush 99, 2) := by decide +kernel
theorem dX8_init_596 : decode cX8_init 596 = .ok (.iconst 0, 1) := by decide +kernel
theorem dX8_init_597 : decode cX8_init 597 = .ok (.iastore, 1) := by decide +kernel
theorem dX8_init_598 : decode cX8_init 598 = .ok (.dup, 1) := by decide +kernel
theorem dX8_init_599 : decode cX8_init 599 = .ok (.bipush 100, 2) := by decide +kernel
theorem dX8_init_601 : decode cX8_init 601 = .ok (.sipush 6145, 3) := by decide +kernel
theorem dX8_init_604 : decode cX8_init 604 = .ok (.iastore, 1) := by decide +kernel
theorem dX8_init_605 : decode cX8_init 605 = .ok (.dup, 1) := by decide +kernel
theorem dX8_init_606 : decode cX8_init 606 = .ok (.bipush 101, 2) := by decide +kernel
theorem dX8_init_608 : decode cX8_init 608 = .ok (.bipush 26, 2) := by decide +kernel
theorem dX8_init_610 : decode cX8_init 610 = .ok (.iastore, 1) := by decide +kernel
theorem dX8_init_611 : decode cX8_init 611 = .ok (.dup, 1) := by decide +kernel
theorem dX8_init_612 : decode cX8_init 612 = .ok (.bipush 102, 2) := by decide +kernel
theorem dX8_init_614 : decode cX8_init 614 = .ok (.bipush 23, 2) := by decide +kernel
theorem dX8_init_616 : decode cX8_init 616 = .ok (.iastore, 1) := by decide +kernel
theorem dX8_init_617 : decode cX8_init 617 = .ok (.dup, 1) := by decide +kernel
theorem dX8_init_618 : decode cX8_init 618 = .ok (.bipush 103, 2) := by decide +kernel
theorem dX8_init_620 : decode cX8_init 620 = .ok (.iconst 0, 1) := by decide +kernel
theorem dX8_init_621 : decode cX8_init 621 = .ok (.iastore, 1) := by decide +kernel
theorem dX8_init_622 : decode cX8_init 622 = .ok (.dup, 1) := by decide +kernel
theorem dX8_init_623 : decode cX8_init 623 = .ok (.bipush 104, 2) := by decide +kernel
theorem dX8_init_625 : decode cX8_init 625 = .ok (.sipush 5633, 3) := by decide +kernel
theorem dX8_init_628 : decode cX8_init 628 = .ok (.iastore, 1) := by decide +kernel
theorem dX8_init_629 : decode cX8_init 629 = .ok (.dup, 1) := by decide +kernel
theorem dX8_init_630 : decode cX8_init 630 = .ok (.bipush 105, 2) := by decide +kernel
theorem dX8_init_632 : decode cX8_init 632 = .ok (.bipush 27, 2) := by decide +kernel
theorem dX8_init_634 : decode cX8_init 634 = .ok (.iastore, 1) := by decide +kernel
theorem dX8_init_635 : decode cX8_init 635 = .ok (.dup, 1) := by decide +kernel
theorem dX8_init_636 : decode cX8_init 636 = .ok (.bipush 106, 2) := by decide +kernel
theorem dX8_init_638 : decode cX8_init 638 = .ok (.bipush 24, 2) := by decide +kernel
theorem dX8_init_640 : decode cX8_init 640 = .ok (.iastore, 1) := by decide +kernel
theorem dX8_init_641 : decode cX8_init 641 = .ok (.dup, 1) := by decide +kernel
theorem dX8_init_642 : decode cX8_init 642 = .ok (.bipush 107, 2) := by decide +kernel
theorem dX8_init_644 : decode cX8_init 644 = .ok (.iconst 0, 1) := by decide +kernel
theorem dX8_init_645 : decode cX8_init 645 = .ok (.iastore, 1) := by decide +kernel
theorem dX8_init_646 : decode cX8_init 646 = .ok (.dup, 1) := by decide +kernel
theorem dX8_init_647 : decode cX8_init 647 = .ok (.bipush 108, 2) := by decide +kernel
theorem dX8_init_649 : decode cX8_init 649 = .ok (.sipush 5121, 3) := by decide +kernel
theorem dX8_init_652 : decode cX8_init 652 = .ok (.iastore, 1) := by decide +kernel
theorem dX8_init_653 : decode cX8_init 653 = .ok (.dup, 1) := by decide +kernel
theorem dX8_init_654 : decode cX8_init 654 = .ok (.bipush 109, 2) := by decide +kernel
theorem dX8_init_656 : decode cX8_init 656 = .ok (.bipush 28, 2) := by decide +kernel
theorem dX8_init_658 : decode cX8_init 658 = .ok (.iastore, 1) := by decide +kernel
theorem dX8_init_659 : decode cX8_init 659 = .ok (.dup, 1) := by decide +kernel
theorem dX8_init_660 : decode cX8_init 660 = .ok (.bipush 110, 2) := by decide +kernel
theorem dX8_init_662 : decode cX8_init 662 = .ok (.bipush 25, 2) := by decide +kernel
theorem dX8_init_664 : decode cX8_init 664 = .ok (.iastore, 1) := by decide +kernel
theorem dX8_init_665 : decode cX8_init 665 = .ok (.dup, 1) := by decide +kernel
theorem dX8_init_666 : decode cX8_init 666 = .ok (.bipush 111, 2) := by decide +kernel
theorem dX8_init_668 : decode cX8_init 668 = .ok (.iconst 0, 1) := by decide +kernel
theorem dX8_init_669 : decode cX8_init 669 = .ok (.iastore, 1) := by decide +kernel
theorem dX8_init_670 : decode cX8_init 670 = .ok (.dup, 1) := by decide +kernel
theorem dX8_init_671 : decode cX8_init 671 = .ok (.bipush 112, 2) := by decide +kernel
theorem dX8_init_673 : decode cX8_init 673 = .ok (.sipush 4609, 3) := by decide +kernel
theorem dX8_init_676 : decode cX8_init 676 = .ok (.iastore, 1) := by decide +kernel
theorem dX8_init_677 : decode cX8_init 677 = .ok (.dup, 1) := by decide +kernel
theorem dX8_init_678 : decode cX8_init 678 = .ok (.bipush 113, 2) := by decide +kernel
theorem dX8_init_680 : decode cX8_init 680 = .ok (.bipush 29, 2) := by decide +kernel
theorem dX8_init_682 : decode cX8_init 682 = .ok (.iastore, 1) := by decide +kernel
theorem dX8_init_683 : decode cX8_init 683 = .ok (.dup, 1) := by decide +kernel
theorem dX8_init_684 : decode cX8_init 684 = .ok (.bipush 114, 2) := by decide +kernel
theorem dX8_init_686 : decode cX8_init 686 = .ok (.bipush 26, 2) := by decide +kernel
theorem dX8_init_688 : decode cX8_init 688 = .ok (.iastore, 1) := by decide +kernel
theorem dX8_init_689 : decode cX8_init 689 = .ok (.dup, 1) := by decide +kernel
theorem dX8_init_690 : decode cX8_init 690 = .ok (.bipush 115, 2) := by decide +kernel
theorem dX8_init_692 : decode cX8_init 692 = .ok (.iconst 0, 1) := by decide +kernel
theorem dX8_init_693 : decode cX8_init 693 = .ok (.iastore, 1) := by decide +kernel
theorem dX8_init_694 : decode cX8_init 694 = .ok (.dup, 1) := by decide +kernel
theorem dX8_init_695 : decode cX8_init 695 = .ok (.bipush 116, 2) := by decide +kernel
theorem dX8_init_697 : decode cX8_init 697 = .ok (.sipush 4353, 3) := by decide +kernel
theorem dX8_init_700 : decode cX8_init 700 = .ok (.iastore, 1) := by decide +kernel
theorem dX8_init_701 : decode cX8_init 701 = .ok (.dup, 1) := by decide +kernel
theorem dX8_init_702 : decode cX8_init 702 = .ok (.bipush 117, 2) := by decide +kernel
theorem dX8_init_704 : decode cX8_init 704 = .ok (.bipush 30, 2) := by decide +kernel
theorem dX8_init_706 : decode cX8_init 706 = .ok (.iastore, 1) := by decide +kernel
theorem dX8_init_707 : decode cX8_init 707 = .ok (.dup, 1) := by decide +kernel
theorem dX8_init_708 : decode cX8_init 708 = .ok (.bipush 118, 2) := by decide +kernel
theorem dX8_init_710 : decode cX8_init 710 = .ok (.bipush 27, 2) := by decide +kernel
theorem dX8_init_712 : decode cX8_init 712 = .ok (.iastore, 1) := by decide +kernel
theorem dX8_init_713 : decode cX8_init 713 = .ok (.dup, 1) := by decide +kernel
theorem dX8_init_714 : decode cX8_init 714 = .ok (.bipush 119, 2) := by decide +kernel
theorem dX8_init_716 : decode cX8_init 716 = .ok (.iconst 0, 1) := by decide +kernel
theorem dX8_init_717 : decode cX8_init 717 = .ok (.iastore, 1) := by decide +kernel
theorem dX8_init_718 : decode cX8_init 718 = .ok (.dup, 1) := by decide +kernel
theorem dX8_init_719 : decode cX8_init 719 = .ok (.bipush 120, 2) := by decide +kernel
theorem dX8_init_721 : decode cX8_init 721 = .ok (.sipush 2753, 3) := by decide +kernel
theorem dX8_init_724 : decode cX8_init 724 = .ok (.iastore, 1) := by decide +kernel
theorem dX8_init_725 : decode cX8_init 725 = .ok (.dup, 1) := by decide +kernel
theorem dX8_init_726 : decode cX8_init 726 = .ok (.bipush 121, 2) := by decide +kernel
theorem dX8_init_728 : decode cX8_init 728 = .ok (.bipush 31, 2) := by decide +kernel
theorem dX8_init_730 : decode cX8_init 730 = .ok (.iastore, 1) := by decide +kernel
theorem dX8_init_731 : decode cX8_init 731 = .ok (.dup, 1) := by decide +kernel
theorem dX8_init_732 : decode cX8_init 732 = .ok (.bipush 122, 2) := by decide +kernel
theorem dX8_init_734 : decode cX8_init 734 = .ok (.bipush 28, 2) := by decide +kernel
theorem dX8_init_736 : decode cX8_init 736 = .ok (.iastore, 1) := by decide +kernel
theorem dX8_init_737 : decode cX8_init 737 = .ok (.dup, 1) := by decide +kernel
theorem dX8_init_738 : decode cX8_init 738 = .ok (.bipush 123, 2) := by decide +kernel
theorem dX8_init_740 : decode cX8_init 740 = .ok (.iconst 0, 1) := by decide +kernel
theorem dX8_init_741 : decode cX8_init 741 = .ok (.iastore, 1) := by decide +kernel
theorem dX8_init_742 : decode cX8_init 742 = .ok (.dup, 1) := by decide +kernel
theorem dX8_init_743 : decode cX8_init 743 = .ok (.bipush 124, 2) := by decide +kernel
theorem dX8_init_745 : decode cX8_init 745 = .ok (.sipush 2497, 3) := by decide +kernel
theorem dX8_init_748 : decode cX8_init 748 = .ok (.iastore, 1) := by decide +kernel
theorem dX8_init_749 : decode cX8_init 749 = .ok (.dup, 1) := by decide +kernel
theorem dX8_init_750 : decode cX8_init 750 = .ok (.bipush 125, 2) := by decide +kernel
theorem dX8_init_752 : decode cX8_init 752 = .ok (.bipush 32, 2) := by decide +kernel
theorem dX8_init_754 : decode cX8_init 754 = .ok (.iastore, 1) := by decide +kernel
theorem dX8_init_755 : decode cX8_init 755 = .ok (.dup, 1) := by decide +kernel
theorem dX8_init_756 : decode cX8_init 756 = .ok (.bipush 126, 2) := by decide +kernel
theorem dX8_init_758 : decode cX8_init 758 = .ok (.bipush 29, 2) := by decide +kernel
theorem dX8_init_760 : decode cX8_init 760 = .ok (.iastore, 1) := by decide +kernel
theorem dX8_init_761 : decode cX8_init 761 = .ok (.dup, 1) := by decide +kernel
theorem dX8_init_762 : decode cX8_init 762 = .ok (.bipush 127, 2) := by decide +kernel
theorem dX8_init_764 : decode cX8_init 764 = .ok (.iconst 0, 1) := by decide +kernel
theorem dX8_init_765 : decode cX8_init 765 = .ok (.iastore, 1) := by decide +kernel
theorem dX8_init_766 : decode cX8_init 766 = .ok (.dup, 1) := by decide +kernel
theorem dX8_init_767 : decode cX8_init 767 = .ok (.sipush 128, 3) := by decide +kernel
theorem dX8_init_770 : decode cX8_init 770 = .ok (.sipush 2209, 3) := by decide +kernel
theorem dX8_init_773 : decode cX8_init 773 = .ok (.iastore, 1) := by decide +kernel
theorem dX8_init_774 : decode cX8_init 774 = .ok (.dup, 1) := by decide +kernel
theorem dX8_init_775 : decode cX8_init 775 = .ok (.sipush 129, 3) := by decide +kernel
theorem dX8_init_778 : decode cX8_init 778 = .ok (.bipush 33, 2) := by decide +kernel
theorem dX8_init_780 : decode cX8_init 780 = .ok (.iastore, 1) := by decide +kernel
theorem dX8_init_781 : decode cX8_init 781 = .ok (.dup, 1) := by decide +kernel
theorem dX8_init_782 : decode cX8_init 782 = .ok (.sipush 130, 3) := by decide +kernel
theorem dX8_init_785 : decode cX8_init 785 = .ok (.bipush 30, 2) := by decide +kernel
theorem dX8_init_787 : decode cX8_init 787 = .ok (.iastore, 1) := by decide +kernel
theorem dX8_init_788 : decode cX8_init 788 = .ok (.dup, 1) := by decide +kernel
theorem dX8_init_789 : decode cX8_init 789 = .ok (.sipush 131, 3) := by decide +kernel
theorem dX8_init_792 : decode cX8_init 792 = .ok (.iconst 0, 1) := by decide +kernel
theorem dX8_init_793 : decode cX8_init 793 = .ok (.iastore, 1) := by decide +kernel
theorem dX8_init_794 : decode cX8_init 794 = .ok (.dup, 1) := by decide +kernel
theorem dX8_init_795 : decode cX8_init 795 = .ok (.sipush 132, 3) := by decide +kernel
theorem dX8_init_798 : decode cX8_init 798 = .ok (.sipush 1313, 3) := by decide +kernel
theorem dX8_init_801 : decode cX8_init 801 = .ok (.iastore, 1) := by decide +kernel
theorem dX8_init_802 : decode cX8_init 802 = .ok (.dup, 1) := by decide +kernel
theorem dX8_init_803 : decode cX8_init 803 = .ok (.sipush 133, 3) := by decide +kernel
theorem dX8_init_806 : decode cX8_init 806 = .ok (.bipush 34, 2) := by decide +kernel
theorem dX8_init_808 : decode cX8_init 808 = .ok (.iastore, 1) := by decide +kernel
theorem dX8_init_809 : decode cX8_init 809 = .ok (.dup, 1) := by decide +kernel
theorem dX8_init_810 : decode cX8_init 810 = .ok (.sipush 134, 3) := by decide +kernel
theorem dX8_init_813 : decode cX8_init 813 = .ok (.bipush 31, 2) := by decide +kernel
theorem dX8_init_815 : decode cX8_init 815 = .ok (.iastore, 1) := by decide +kernel
theorem dX8_init_816 : decode cX8_init 816 = .ok (.dup, 1) := by decide +kernel
theorem dX8_init_817 : decode cX8_init 817 = .ok (.sipush 135, 3) := by decide +kernel
theorem dX8_init_820 : decode cX8_init 820 = .ok (.iconst 0, 1) := by decide +kernel
theorem dX8_init_821 : decode cX8_init 821 = .ok (.iastore, 1) := by decide +kernel
theorem dX8_init_822 : decode cX8_init 822 = .ok (.dup, 1) := by decide +kernel
theorem dX8_init_823 : decode cX8_init 823 = .ok (.sipush 136, 3) := by decide +kernel
theorem dX8_init_826 : decode cX8_init 826 = .ok (.sipush 1089, 3) := by decide +kernel
theorem dX8_init_829 : decode cX8_init 829 = .ok (.iastore, 1) := by decide +kernel
theorem dX8_init_830 : decode cX8_init 830 = .ok (.dup, 1) := by decide +kernel
theorem dX8_init_831 : decode cX8_init 831 = .ok (.sipush 137, 3) := by decide +kernel
theorem dX8_init_834 : decode cX8_init 834 = .ok (.bipush 35, 2) := by decide +kernel
theorem dX8_init_836 : decode cX8_init 836 = .ok (.iastore, 1) := by decide +kernel
theorem dX8_init_837 : decode cX8_init 837 = .ok (.dup, 1) := by decide +kernel
theorem dX8_init_838 : decode cX8_init 838 = .ok (.sipush 138, 3) := by decide +kernel
theorem dX8_init_841 : decode cX8_init 841 = .ok (.bipush 32, 2) := by decide +kernel
theorem dX8_init_843 : decode cX8_init 843 = .ok (.iastore, 1) := by decide +kernel
theorem dX8_init_844 : decode cX8_init 844 = .ok (.dup, 1) := by decide +kernel
theorem dX8_init_845 : decode cX8_init 845 = .ok (.sipush 139, 3) := by decide +kernel
theorem dX8_init_848 : decode cX8_init 848 = .ok (.iconst 0, 1) := by decide +kernel
theorem dX8_init_849 : decode cX8_init 849 = .ok (.iastore, 1) := by decide +kernel
theorem dX8_init_850 : decode cX8_init 850 = .ok (.dup, 1) := by decide +kernel
theorem dX8_init_851 : decode cX8_init 851 = .ok (.sipush 140, 3) := by decide +kernel
theorem dX8_init_854 : decode cX8_init 854 = .ok (.sipush 673, 3) := by decide +kernel
theorem dX8_init_857 : decode cX8_init 857 = .ok (.iastore, 1) := by decide +kernel
theorem dX8_init_858 : decode cX8_init 858 = .ok (.dup, 1) := by decide +kernel
theorem dX8_init_859 : decode cX8_init 859 = .ok (.sipush 141, 3) := by decide +kernel
theorem dX8_init_862 : decode cX8_init 862 = .ok (.bipush 36, 2) := by decide +kernel
theorem dX8_init_864 : decode cX8_init 864 = .ok (.iastore, 1) := by decide +kernel
theorem dX8_init_865 : decode cX8_init 865 = .ok (.dup, 1) := by decide +kernel
theorem dX8_init_866 : decode cX8_init 866 = .ok (.sipush 142, 3) := by decide +kernel
theorem dX8_init_869 : decode cX8_init 869 = .ok (.bipush 33, 2) := by decide +kernel
theorem dX8_init_871 : decode cX8_init 871 = .ok (.iastore, 1) := by decide +kernel
theorem dX8_init_872 : decode cX8_init 872 = .ok (.dup, 1) := by decide +kernel
theorem dX8_init_873 : decode cX8_init 873 = .ok (.sipush 143, 3) := by decide +kernel
theorem dX8_init_876 : decode cX8_init 876 = .ok (.iconst 0, 1) := by decide +kernel
theorem dX8_init_877 : decode cX8_init 877 = .ok (.iastore, 1) := by decide +kernel
theorem dX8_init_878 : decode cX8_init 878 = .ok (.dup, 1) := by decide +kernel
theorem dX8_init_879 : decode cX8_init 879 = .ok (.sipush 144, 3) := by decide +kernel
theorem dX8_init_882 : decode cX8_init 882 = .ok (.sipush 545, 3) := by decide +kernel
theorem dX8_init_885 : decode cX8_init 885 = .ok (.iastore, 1) := by decide +kernel
theorem dX8_init_886 : decode cX8_init 886 = .ok (.dup, 1) := by decide +kernel
theorem dX8_init_887 : decode cX8_init 887 = .ok (.sipush 145, 3) := by decide +kernel
theorem dX8_init_890 : decode cX8_init 890 = .ok (.bipush 37, 2) := by decide +kernel
theorem dX8_init_892 : decode cX8_init 892 = .ok (.iastore, 1) := by decide +kernel
theorem dX8_init_893 : decode cX8_init 893 = .ok (.dup, 1) := by decide +kernel
theorem dX8_init_894 : decode cX8_init 894 = .ok (.sipush 146, 3) := by decide +kernel
theorem dX8_init_897 : decode cX8_init 897 = .ok (.bipush 34, 2) := by decide +kernel
theorem dX8_init_899 : decode cX8_init 899 = .ok (.iastore, 1) := by decide +kernel
theorem dX8_init_900 : decode cX8_init 900 = .ok (.dup, 1) := by decide +kernel
theorem dX8_init_901 : decode cX8_init 901 = .ok (.sipush 147, 3) := by decide +kernel
theorem dX8_init_904 : decode cX8_init 904 = .ok (.iconst 0, 1) := by decide +kernel
theorem dX8_init_905 : decode cX8_init 905 = .ok (.iastore, 1) := by decide +kernel
theorem dX8_init_906 : decode cX8_init 906 = .ok (.dup, 1) := by decide +kernel
theorem dX8_init_907 : decode cX8_init 907 = .ok (.sipush 148, 3) := by decide +kernel
theorem dX8_init_910 : decode cX8_init 910 = .ok (.sipush 321, 3) := by decide +kernel
theorem dX8_init_913 : decode cX8_init 913 = .ok (.iastore, 1) := by decide +kernel
theorem dX8_init_914 : decode cX8_init 914 = .ok (.dup, 1) := by decide +kernel
theorem dX8_init_915 : decode cX8_init 915 = .ok (.sipush 149, 3) := by decide +kernel
theorem dX8_init_918 : decode cX8_init 918 = .ok (.bipush 38, 2) := by decide +kernel
theorem dX8_init_920 : decode cX8_init 920 = .ok (.iastore, 1) := by decide +kernel
theorem dX8_init_921 : decode cX8_init 921 = .ok (.dup, 1) := by decide +kernel
theorem dX8_init_922 : decode cX8_init 922 = .ok (.sipush 150, 3) := by decide +kernel
theorem dX8_init_925 : decode cX8_init 925 = .ok (.bipush 35, 2) := by decide +kernel
theorem dX8_init_927 : decode cX8_init 927 = .ok (.iastore, 1) := by decide +kernel
theorem dX8_init_928 : decode cX8_init 928 = .ok (.dup, 1) := by decide +kernel
theorem dX8_init_929 : decode cX8_init 929 = .ok (.sipush 151, 3) := by decide +kernel
theorem dX8_init_932 : decode cX8_init 932 = .ok (.iconst 0, 1) := by decide +kernel
theorem dX8_init_933 : decode cX8_init 933 = .ok (.iastore, 1) := by decide +kernel
theorem dX8_init_934 : decode cX8_init 934 = .ok (.dup, 1) := by decide +kernel
theorem dX8_init_935 : decode cX8_init 935 = .ok (.sipush 152, 3) := by decide +kernel
theorem dX8_init_938 : decode cX8_init 938 = .ok (.sipush 273, 3) := by decide +kernel
theorem dX8_init_941 : decode cX8_init 941 = .ok (.iastore, 1) := by decide +kernel
theorem dX8_init_942 : decode cX8_init 942 = .ok (.dup, 1) := by decide +kernel
theorem dX8_init_943 : decode cX8_init 943 = .ok (.sipush 153, 3) := by decide +kernel
theorem dX8_init_946 : decode cX8_init 946 = .ok (.bipush 39, 2) := by decide +kernel
theorem dX8_init_948 : decode cX8_init 948 = .ok (.iastore, 1) := by decide +kernel
theorem dX8_init_949 : decode cX8_init 949 = .ok (.dup, 1) := by decide +kernel
theorem dX8_init_950 : decode cX8_init 950 = .ok (.sipush 154, 3) := by decide +kernel
theorem dX8_init_953 : decode cX8_init 953 = .ok (.bipush 36, 2) := by decide +kernel
theorem dX8_init_955 : decode cX8_init 955 = .ok (.iastore, 1) := by decide +kernel
theorem dX8_init_956 : decode cX8_init 956 = .ok (.dup, 1) := by decide +kernel
theorem dX8_init_957 : decode cX8_init 957 = .ok (.sipush 155, 3) := by decide +kernel
theorem dX8_init_960 : decode cX8_init 960 = .ok (.iconst 0, 1) := by decide +kernel
theorem dX8_init_961 : decode cX8_init 961 = .ok (.iastore, 1) := by decide +kernel
theorem dX8_init_962 : decode cX8_init 962 = .ok (.dup, 1) := by decide +kernel
theorem dX8_init_963 : decode cX8_init 963 = .ok (.sipush 156, 3) := by decide +kernel
theorem dX8_init_966 : decode cX8_init 966 = .ok (.sipush 133, 3) := by decide +kernel
theorem dX8_init_969 : decode cX8_init 969 = .ok (.iastore, 1) := by decide +kernel
theorem dX8_init_970 : decode cX8_init 970 = .ok (.dup, 1) := by decide +kernel
theorem dX8_init_971 : decode cX8_init 971 = .ok (.sipush 157, 3) := by decide +kernel
theorem dX8_init_974 : decode cX8_init 974 = .ok (.bipush 40, 2) := by decide +kernel
theorem dX8_init_976 : decode cX8_init 976 = .ok (.iastore, 1) := by decide +kernel
theorem dX8_init_977 : decode cX8_init 977 = .ok (.dup, 1) := by decide +kernel
theorem dX8_init_978 : decode cX8_init 978 = .ok (.sipush 158, 3) := by decide +kernel
theorem dX8_init_981 : decode cX8_init 981 = .ok (.bipush 37, 2) := by decide +kernel
theorem dX8_init_983 : decode cX8_init 983 = .ok (.iastore, 1) := by decide +kernel
theorem dX8_init_984 : decode cX8_init 984 = .ok (.dup, 1) := by decide +kernel
theorem dX8_init_985 : decode cX8_init 985 = .ok (.sipush 159, 3) := by decide +kernel
theorem dX8_init_988 : decode cX8_init 988 = .ok (.iconst 0, 1) := by decide +kernel
theorem dX8_init_989 : decode cX8_init 989 = .ok (.iastore, 1) := by decide +kernel
theorem dX8_init_990 : decode cX8_init 990 = .ok (.dup, 1) := by decide +kernel
theorem dX8_init_991 : decode cX8_init 991 = .ok (.sipush 160, 3) := by decide +kernel
theorem dX8_init_994 : decode cX8_init 994 = .ok (.bipush 73, 2) := by decide +kernel
theorem dX8_init_996 : decode cX8_init 996 = .ok (.iastore, 1) := by decide +kernel
theorem dX8_init_997 : decode cX8_init 997 = .ok (.dup, 1) := by decide +kernel
theorem dX8_init_998 : decode cX8_init 998 = .ok (.sipush 161, 3) := by decide +kernel
theorem dX8_init_1001 : decode cX8_init 1001 = .ok (.bipush 41, 2) := by decide +kernel
theorem dX8_init_1003 : decode cX8_init 1003 = .ok (.iastore, 1) := by decide +kernel
theorem dX8_init_1004 : decode cX8_init 1004 = .ok (.dup, 1) := by decide +kernel
theorem dX8_init_1005 : decode cX8_init 1005 = .ok (.sipush 162, 3) := by decide +kernel
theorem dX8_init_1008 : decode cX8_init 1008 = .ok (.bipush 38, 2) := by decide +kernel
theorem dX8_init_1010 : decode cX8_init 1010 = .ok (.iastore, 1) := by decide +kernel
theorem dX8_init_1011 : decode cX8_init 1011 = .ok (.dup, 1) := by decide +kernel
theorem dX8_init_1012 : decode cX8_init 1012 = .ok (.sipush 163, 3) := by decide +kernel
theorem dX8_init_1015 : decode cX8_init 1015 = .ok (.iconst 0, 1) := by decide +kernel
theorem dX8_init_1016 : decode cX8_init 1016 = .ok (.iastore, 1) := by decide +kernel
theorem dX8_init_1017 : decode cX8_init 1017 = .ok (.dup, 1) := by decide +kernel
theorem dX8_init_1018 : decode cX8_init 1018 = .ok (.sipush 164, 3) := by decide +kernel
theorem dX8_init_1021 : decode cX8_init 1021 = .ok (.bipush 37, 2) := by decide +kernel
theorem dX8_init_1023 : decode cX8_init 1023 = .ok (.iastore, 1) := by decide +kernel
theorem dX8_init_1024 : decode cX8_init 1024 = .ok (.dup, 1) := by decide +kernel
theorem dX8_init_1025 : decode cX8_init 1025 = .ok (.sipush 165, 3) := by decide +kernel
theorem dX8_init_1028 : decode cX8_init 1028 = .ok (.bipush 42, 2) := by decide +kernel
theorem dX8_init_1030 : decode cX8_init 1030 = .ok (.iastore, 1) := by decide +kernel
theorem dX8_init_1031 : decode cX8_init 1031 = .ok (.dup, 1) := by decide +kernel
theorem dX8_init_1032 : decode cX8_init 1032 = .ok (.sipush 166, 3) := by decide +kernel
theorem dX8_init_1035 : decode cX8_init 1035 = .ok (.bipush 39, 2) := by decide +kernel
theorem dX8_init_1037 : decode cX8_init 1037 = .ok (.iastore, 1) := by decide +kernel
theorem dX8_init_1038 : decode cX8_init 1038 = .ok (.dup, 1) := by decide +kernel
theorem dX8_init_1039 : decode cX8_init 1039 = .ok (.sipush 167, 3) := by decide +kernel
theorem dX8_init_1042 : decode cX8_init 1042 = .ok (.iconst 0, 1) := by decide +kernel
theorem dX8_init_1043 : decode cX8_init 1043 = .ok (.iastore, 1) := by decide +kernel
theorem dX8_init_1044 : decode cX8_init 1044 = .ok (.dup, 1) := by decide +kernel
theorem dX8_init_1045 : decode cX8_init 1045 = .ok (.sipush 168, 3) := by decide +kernel
theorem dX8_init_1048 : decode cX8_init 1048 = .ok (.bipush 21, 2) := by decide +kernel
theorem dX8_init_1050 : decode cX8_init 1050 = .ok (.iastore, 1) := by decide +kernel
theorem dX8_init_1051 : decode cX8_init 1051 = .ok (.dup, 1) := by decide +kernel
theorem dX8_init_1052 : decode cX8_init 1052 = .ok (.sipush 169, 3) := by decide +kernel
theorem dX8_init_1055 : decode cX8_init 1055 = .ok (.bipush 43, 2) := by decide +kernel
theorem dX8_init_1057 : decode cX8_init 1057 = .ok (.iastore, 1) := by decide +kernel
theorem dX8_init_1058 : decode cX8_init 1058 = .ok (.dup, 1) := by decide +kernel
theorem dX8_init_1059 : decode cX8_init 1059 = .ok (.sipush 170, 3) := by decide +kernel
theorem dX8_init_1062 : decode cX8_init 1062 = .ok (.bipush 40, 2) := by decide +kernel
theorem dX8_init_1064 : decode cX8_init 1064 = .ok (.iastore, 1) := by decide +kernel
theorem dX8_init_1065 : decode cX8_init 1065 = .ok (.dup, 1) := by decide +kernel
theorem dX8_init_1066 : decode cX8_init 1066 = .ok (.sipush 171, 3) := by decide +kernel
theorem dX8_init_1069 : decode cX8_init 1069 = .ok (.iconst 0, 1) := by decide +kernel
theorem dX8_init_1070 : decode cX8_init 1070 = .ok (.iastore, 1) := by decide +kernel
theorem dX8_init_1071 : decode cX8_init 1071 = .ok (.dup, 1) := by decide +kernel
theorem dX8_init_1072 : decode cX8_init 1072 = .ok (.sipush 172, 3) := by decide +kernel
theorem dX8_init_1075 : decode cX8_init 1075 = .ok (.bipush 9, 2) := by decide +kernel
theorem dX8_init_1077 : decode cX8_init 1077 = .ok (.iastore, 1) := by decide +kernel
theorem dX8_init_1078 : decode cX8_init 1078 = .ok (.dup, 1) := by decide +kernel
theorem dX8_init_1079 : decode cX8_init 1079 = .ok (.sipush 173, 3) := by decide +kernel
theorem dX8_init_1082 : decode cX8_init 1082 = .ok (.bipush 44, 2) := by decide +kernel
theorem dX8_init_1084 : decode cX8_init 1084 = .ok (.iastore, 1) := by decide +kernel
theorem dX8_init_1085 : decode cX8_init 1085 = .ok (.dup, 1) := by decide +kernel
theorem dX8_init_1086 : decode cX8_init 1086 = .ok (.sipush 174, 3) := by decide +kernel
theorem dX8_init_1089 : decode cX8_init 1089 = .ok (.bipush 41, 2) := by decide +kernel
theorem dX8_init_1091 : decode cX8_init 1091 = .ok (.iastore, 1) := by decide +kernel
theorem dX8_init_1092 : decode cX8_init 1092 = .ok (.dup, 1) := by decide +kernel
theorem dX8_init_1093 : decode cX8_init 1093 = .ok (.sipush 175, 3) := by decide +kernel
theorem dX8_init_1096 : decode cX8_init 1096 = .ok (.iconst 0, 1) := by decide +kernel
theorem dX8_init_1097 : decode cX8_init 1097 = .ok (.iastore, 1) := by decide +kernel
theorem dX8_init_1098 : decode cX8_init 1098 = .ok (.dup, 1) := by decide +kernel
theorem dX8_init_1099 : decode cX8_init 1099 = .ok (.sipush 176, 3) := by decide +kernel
theorem dX8_init_1102 : decode cX8_init 1102 = .ok (.iconst 5, 1) := by decide +kernel
theorem dX8_init_1103 : decode cX8_init 1103 = .ok (.iastore, 1) := by decide +kernel
theorem dX8_init_1104 : decode cX8_init 1104 = .ok (.dup, 1) := by decide +kernel
theorem dX8_init_1105 : decode cX8_init 1105 = .ok (.sipush 177, 3) := by decide +kernel
theorem dX8_init_1108 : decode cX8_init 1108 = .ok (.bipush 45, 2) := by decide +kernel
theorem dX8_init_1110 : decode cX8_init 1110 = .ok (.iastore, 1) := by decide +kernel
theorem dX8_init_1111 : decode cX8_init 1111 = .ok (.dup, 1) := by decide +kernel
theorem dX8_init_1112 : decode cX8_init 1112 = .ok (.sipush 178, 3) := by decide +kernel
theorem dX8_init_1115 : decode cX8_init 1115 = .ok (.bipush 42, 2) := by decide +kernel
theorem dX8_init_1117 : decode cX8_init 1117 = .ok (.iastore, 1) := by decide +kernel
theorem dX8_init_1118 : decode cX8_init 1118 = .ok (.dup, 1) := by decide +kernel
theorem dX8_init_1119 : decode cX8_init 1119 = .ok (.sipush 179, 3) := by decide +kernel
theorem dX8_init_1122 : decode cX8_init 1122 = .ok (.iconst 0, 1) := by decide +kernel
theorem dX8_init_1123 : decode cX8_init 1123 = .ok (.iastore, 1) := by decide +kernel
theorem dX8_init_1124 : decode cX8_init 1124 = .ok (.dup, 1) := by decide +kernel
theorem dX8_init_1125 : decode cX8_init 1125 = .ok (.sipush 180, 3) := by decide +kernel
theorem dX8_init_1128 : decode cX8_init 1128 = .ok (.iconst 1, 1) := by decide +kernel
theorem dX8_init_1129 : decode cX8_init 1129 = .ok (.iastore, 1) := by decide +kernel
theorem dX8_init_1130 : decode cX8_init 1130 = .ok (.dup, 1) := by decide +kernel
theorem dX8_init_1131 : decode cX8_init 1131 = .ok (.sipush 181, 3) := by decide +kernel
theorem dX8_init_1134 : decode cX8_init 1134 = .ok (.bipush 45, 2) := by decide +kernel
theorem dX8_init_1136 : decode cX8_init 1136 = .ok (.iastore, 1) := by decide +kernel
theorem dX8_init_1137 : decode cX8_init 1137 = .ok (.dup, 1) := by decide +kernel
theorem dX8_init_1138 : decode cX8_init 1138 = .ok (.sipush 182, 3) := by decide +kernel
theorem dX8_init_1141 : decode cX8_init 1141 = .ok (.bipush 43, 2) := by decide +kernel
theorem dX8_init_1143 : decode cX8_init 1143 = .ok (.iastore, 1) := by decide +kernel
theorem dX8_init_1144 : decode cX8_init 1144 = .ok (.dup, 1) := by decide +kernel
theorem dX8_init_1145 : decode cX8_init 1145 = .ok (.sipush 183, 3) := by decide +kernel
theorem dX8_init_1148 : decode cX8_init 1148 = .ok (.iconst 0, 1) := by decide +kernel
theorem dX8_init_1149 : decode cX8_init 1149 = .ok (.iastore, 1) := by decide +kernel
theorem dX8_init_1150 : decode cX8_init 1150 = .ok (.dup, 1) := by decide +kernel
theorem dX8_init_1151 : decode cX8_init 1151 = .ok (.sipush 184, 3) := by decide +kernel
theorem dX8_init_1154 : decode cX8_init 1154 = .ok (.sipush 22017, 3) := by decide +kernel
theorem dX8_init_1157 : decode cX8_init 1157 = .ok (.iastore, 1) := by decide +kernel
theorem dX8_init_1158 : decode cX8_init 1158 = .ok (.dup, 1) := by decide +kernel
theorem dX8_init_1159 : decode cX8_init 1159 = .ok (.sipush 185, 3) := by decide +kernel
theorem dX8_init_1162 : decode cX8_init 1162 = .ok (.bipush 46, 2) := by decide +kernel
theorem dX8_init_1164 : decode cX8_init 1164 = .ok (.iastore, 1) := by decide +kernel
theorem dX8_init_1165 : decode cX8_init 1165 = .ok (.dup, 1) := by decide +kernel
theorem dX8_init_1166 : decode cX8_init 1166 = .ok (.sipush 186, 3) := by decide +kernel
theorem dX8_init_1169 : decode cX8_init 1169 = .ok (.bipush 46, 2) := by decide +kernel
theorem dX8_init_1171 : decode cX8_init 1171 = .ok (.iastore, 1) := by decide +kernel
theorem dX8_init_1172 : decode cX8_init 1172 = .ok (.dup, 1) := by decide +kernel
theorem dX8_init_1173 : decode cX8_init 1173 = .ok (.sipush 187, 3) := by decide +kernel
theorem dX8_init_1176 : decode cX8_init 1176 = .ok (.iconst 0, 1) := by decide +kernel
theorem dX8_init_1177 : decode cX8_init 1177 = .ok (.iastore, 1) := by decide +kernel
theorem dX8_init_1178 : decode cX8_init 1178 = .ok (.putfield 7, 3) := by decide +kernel
theorem dX8_init_1181 : decode cX8_init 1181 = .ok (.aload_n 0, 1) := by decide +kernel
theorem dX8_init_1182 : decode cX8_init 1182 = .ok (.bipush 8, 2) := by decide +kernel
theorem dX8_init_1184 : decode cX8_init 1184 = .ok (.putfield 13, 3) := by decide +kernel
theorem dX8_init_1187 : decode cX8_init 1187 = .ok (.aload_n 0, 1) := by decide +kernel
theorem dX8_init_1188 : decode cX8_init 1188 = .ok (.bipush 8, 2) := by decide +kernel
theorem dX8_init_1190 : decode cX8_init 1190 = .ok (.putfield 17, 3) := by decide +kernel
theorem dX8_init_1193 : decode cX8_init 1193 = .ok (.aload_n 0, 1) := by decide +kernel
theorem dX8_init_1194 : decode cX8_init 1194 = .ok (.sipush 1600, 3) := by decide +kernel
theorem dX8_init_1197 : decode cX8_init 1197 = .ok (.newarray .boolean, 2) := by decide +kernel
theorem dX8_init_1199 : decode cX8_init 1199 = .ok (.putfield 20, 3) := by decide +kernel
theorem dX8_init_1202 : decode cX8_init 1202 = .ok (.aload_n 0, 1) := by decide +kernel
theorem dX8_init_1203 : decode cX8_init 1203 = .ok (.sipush 1600, 3) := by decide +kernel
theorem dX8_init_1206 : decode cX8_init 1206 = .ok (.newarray .boolean, 2) := by decide +kernel
theorem dX8_init_1208 : decode cX8_init 1208 = .ok (.putfield 24, 3) := by decide +kernel
theorem dX8_init_1211 : decode cX8_init 1211 = .ok (.aload_n 0, 1) := by decide +kernel
theorem dX8_init_1212 : decode cX8_init 1212 = .ok (.sipush 3600, 3) := by decide +kernel
theorem dX8_init_1215 : decode cX8_init 1215 = .ok (.newarray .boolean, 2) := by decide +kernel
theorem dX8_init_1217 : decode cX8_init 1217 = .ok (.putfield 27, 3) := by decide +kernel
theorem dX8_init_1220 : decode cX8_init 1220 = .ok (.aload_n 0, 1) := by decide +kernel
theorem dX8_init_1221 : decode cX8_init 1221 = .ok (.iconst (-1), 1) := by decide +kernel
theorem dX8_init_1222 : decode cX8_init 1222 = .ok (.putfield 30, 3) := by decide +kernel
theorem dX8_init_1225 : decode cX8_init 1225 = .ok (.aload_n 0, 1) := by decide +kernel
theorem dX8_init_1226 : decode cX8_init 1226 = .ok (.iconst (-1), 1) := by decide +kernel
theorem dX8_init_1227 : decode cX8_init 1227 = .ok (.putfield 33, 3) := by decide +kernel
theorem dX8_init_1230 : decode cX8_init 1230 = .ok (.aload_n 0, 1) := by decide +kernel
theorem dX8_init_1231 : decode cX8_init 1231 = .ok (.iconst (-1), 1) := by decide +kernel
theorem dX8_init_1232 : decode cX8_init 1232 = .ok (.putfield 36, 3) := by decide +kernel
theorem dX8_init_1235 : decode cX8_init 1235 = .ok (.aload_n 0, 1) := by decide +kernel
theorem dX8_init_1236 : decode cX8_init 1236 = .ok (.iconst (-1), 1) := by decide +kernel
theorem dX8_init_1237 : decode cX8_init 1237 = .ok (.putfield 39, 3) := by decide +kernel
theorem dX8_init_1240 : decode cX8_init 1240 = .ok (.aload_n 0, 1) := by decide +kernel
theorem dX8_init_1241 : decode cX8_init 1241 = .ok (.sipush 16384, 3) := by decide +kernel
theorem dX8_init_1244 : decode cX8_init 1244 = .ok (.newarray .int, 2) := by decide +kernel
theorem dX8_init_1246 : decode cX8_init 1246 = .ok (.putfield 42, 3) := by decide +kernel
theorem dX8_init_1249 : decode cX8_init 1249 = .ok (.aload_n 0, 1) := by decide +kernel
theorem dX8_init_1250 : decode cX8_init 1250 = .ok (.sipush 4200, 3) := by decide +kernel
theorem dX8_init_1253 : decode cX8_init 1253 = .ok (.newarray .int, 2) := by decide +kernel
theorem dX8_init_1255 : decode cX8_init 1255 = .ok (.putfield 45, 3) := by decide +kernel
theorem dX8_init_1258 : decode cX8_init 1258 = .ok (.return_, 1) := by decide +kernel
theorem dX8_thrown_0 : decode cX8_thrown 0 = .ok (.aload_n 0, 1) := by decide +kernel
theorem dX8_thrown_1 : decode cX8_thrown 1 = .ok (.getfield 48, 3) := by decide +kernel
theorem dX8_thrown_4 : decode cX8_thrown 4 = .ok (.ireturn, 1) := by decide +kernel
