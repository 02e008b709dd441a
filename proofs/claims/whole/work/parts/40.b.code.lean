/-! The law's own body, read. Laid by program (wip/whole/p40.py) -/
theorem d_law_591 : decode code 591 = .ok (.iaload, 1) := by decide +kernel
theorem d_law_592 : decode code 592 = .ok (.aload_n 0, 1) := by decide +kernel
theorem d_law_593 : decode code 593 = .ok (.iload 4, 2) := by decide +kernel
theorem d_law_595 : decode code 595 = .ok (.iconst 5, 1) := by decide +kernel
theorem d_law_596 : decode code 596 = .ok (.iadd, 1) := by decide +kernel
theorem d_law_597 : decode code 597 = .ok (.iaload, 1) := by decide +kernel
theorem d_law_598 : decode code 598 = .ok (.invokevirtual 100, 3) := by decide +kernel
theorem d_law_601 : decode code 601 = .ok (.aload_n 2, 1) := by decide +kernel
theorem d_law_602 : decode code 602 = .ok (.invokevirtual 77, 3) := by decide +kernel
theorem d_law_605 : decode code 605 = .ok (.iload 5, 2) := by decide +kernel
theorem d_law_607 : decode code 607 = .ok (.if_icmp .eq 5, 3) := by decide +kernel
theorem d_law_610 : decode code 610 = .ok (.iconst 0, 1) := by decide +kernel
theorem d_law_611 : decode code 611 = .ok (.ireturn, 1) := by decide +kernel
theorem d_law_612 : decode code 612 = .ok (.goto 508, 3) := by decide +kernel
theorem d_law_615 : decode code 615 = .ok (.aload_n 1, 1) := by decide +kernel
theorem d_law_616 : decode code 616 = .ok (.aload_n 0, 1) := by decide +kernel
theorem d_law_617 : decode code 617 = .ok (.iload 4, 2) := by decide +kernel
theorem d_law_619 : decode code 619 = .ok (.iconst 1, 1) := by decide +kernel
theorem d_law_620 : decode code 620 = .ok (.iadd, 1) := by decide +kernel
theorem d_law_621 : decode code 621 = .ok (.iaload, 1) := by decide +kernel
theorem d_law_622 : decode code 622 = .ok (.aload_n 3, 1) := by decide +kernel
theorem d_law_623 : decode code 623 = .ok (.invokestatic 101, 3) := by decide +kernel
theorem d_law_626 : decode code 626 = .ok (.istore 5, 2) := by decide +kernel
theorem d_law_628 : decode code 628 = .ok (.aload_n 2, 1) := by decide +kernel
theorem d_law_629 : decode code 629 = .ok (.aload_n 0, 1) := by decide +kernel
theorem d_law_630 : decode code 630 = .ok (.iload 4, 2) := by decide +kernel
theorem d_law_632 : decode code 632 = .ok (.iconst 1, 1) := by decide +kernel
theorem d_law_633 : decode code 633 = .ok (.iadd, 1) := by decide +kernel
theorem d_law_634 : decode code 634 = .ok (.iaload, 1) := by decide +kernel
theorem d_law_635 : decode code 635 = .ok (.invokevirtual 103, 3) := by decide +kernel
theorem d_law_638 : decode code 638 = .ok (.istore 6, 2) := by decide +kernel
theorem d_law_640 : decode code 640 = .ok (.aload_n 2, 1) := by decide +kernel
theorem d_law_641 : decode code 641 = .ok (.invokevirtual 77, 3) := by decide +kernel
theorem d_law_644 : decode code 644 = .ok (.iload 5, 2) := by decide +kernel
theorem d_law_646 : decode code 646 = .ok (.if_icmp .eq 5, 3) := by decide +kernel
theorem d_law_649 : decode code 649 = .ok (.iconst 0, 1) := by decide +kernel
theorem d_law_650 : decode code 650 = .ok (.ireturn, 1) := by decide +kernel
theorem d_law_651 : decode code 651 = .ok (.iload 5, 2) := by decide +kernel
theorem d_law_653 : decode code 653 = .ok (.ifCond .ne 22, 3) := by decide +kernel
theorem d_law_656 : decode code 656 = .ok (.aload_n 3, 1) := by decide +kernel
theorem d_law_657 : decode code 657 = .ok (.iconst 0, 1) := by decide +kernel
theorem d_law_658 : decode code 658 = .ok (.laload, 1) := by decide +kernel
theorem d_law_659 : decode code 659 = .ok (.iload 6, 2) := by decide +kernel
theorem d_law_661 : decode code 661 = .ok (.ifCond .eq 7, 3) := by decide +kernel
theorem d_law_664 : decode code 664 = .ok (.lconst 1, 1) := by decide +kernel
theorem d_law_665 : decode code 665 = .ok (.goto 4, 3) := by decide +kernel
theorem d_law_668 : decode code 668 = .ok (.lconst 0, 1) := by decide +kernel
theorem d_law_669 : decode code 669 = .ok (.lcmp, 1) := by decide +kernel
theorem d_law_670 : decode code 670 = .ok (.ifCond .eq 5, 3) := by decide +kernel
theorem d_law_673 : decode code 673 = .ok (.iconst 0, 1) := by decide +kernel
theorem d_law_674 : decode code 674 = .ok (.ireturn, 1) := by decide +kernel
theorem d_law_675 : decode code 675 = .ok (.goto 445, 3) := by decide +kernel
theorem d_law_678 : decode code 678 = .ok (.aload_n 1, 1) := by decide +kernel
theorem d_law_679 : decode code 679 = .ok (.aload_n 0, 1) := by decide +kernel
theorem d_law_680 : decode code 680 = .ok (.iload 4, 2) := by decide +kernel
theorem d_law_682 : decode code 682 = .ok (.iconst 1, 1) := by decide +kernel
theorem d_law_683 : decode code 683 = .ok (.iadd, 1) := by decide +kernel
theorem d_law_684 : decode code 684 = .ok (.iaload, 1) := by decide +kernel
theorem d_law_685 : decode code 685 = .ok (.aload_n 0, 1) := by decide +kernel
theorem d_law_686 : decode code 686 = .ok (.iload 4, 2) := by decide +kernel
theorem d_law_688 : decode code 688 = .ok (.iconst 2, 1) := by decide +kernel
theorem d_law_689 : decode code 689 = .ok (.iadd, 1) := by decide +kernel
theorem d_law_690 : decode code 690 = .ok (.iaload, 1) := by decide +kernel
theorem d_law_691 : decode code 691 = .ok (.aload_n 3, 1) := by decide +kernel
theorem d_law_692 : decode code 692 = .ok (.invokestatic 104, 3) := by decide +kernel
theorem d_law_695 : decode code 695 = .ok (.istore 5, 2) := by decide +kernel
theorem d_law_697 : decode code 697 = .ok (.aload_n 2, 1) := by decide +kernel
theorem d_law_698 : decode code 698 = .ok (.aload_n 0, 1) := by decide +kernel
theorem d_law_699 : decode code 699 = .ok (.iload 4, 2) := by decide +kernel
theorem d_law_701 : decode code 701 = .ok (.iconst 1, 1) := by decide +kernel
theorem d_law_702 : decode code 702 = .ok (.iadd, 1) := by decide +kernel
theorem d_law_703 : decode code 703 = .ok (.iaload, 1) := by decide +kernel
theorem d_law_704 : decode code 704 = .ok (.aload_n 0, 1) := by decide +kernel
theorem d_law_705 : decode code 705 = .ok (.iload 4, 2) := by decide +kernel
theorem d_law_707 : decode code 707 = .ok (.iconst 2, 1) := by decide +kernel
theorem d_law_708 : decode code 708 = .ok (.iadd, 1) := by decide +kernel
theorem d_law_709 : decode code 709 = .ok (.iaload, 1) := by decide +kernel
theorem d_law_710 : decode code 710 = .ok (.invokevirtual 107, 3) := by decide +kernel
theorem d_law_713 : decode code 713 = .ok (.istore 6, 2) := by decide +kernel
theorem d_law_715 : decode code 715 = .ok (.aload_n 2, 1) := by decide +kernel
theorem d_law_716 : decode code 716 = .ok (.invokevirtual 77, 3) := by decide +kernel
theorem d_law_719 : decode code 719 = .ok (.iload 5, 2) := by decide +kernel
theorem d_law_721 : decode code 721 = .ok (.if_icmp .eq 5, 3) := by decide +kernel
theorem d_law_724 : decode code 724 = .ok (.iconst 0, 1) := by decide +kernel
theorem d_law_725 : decode code 725 = .ok (.ireturn, 1) := by decide +kernel
theorem d_law_726 : decode code 726 = .ok (.iload 5, 2) := by decide +kernel
theorem d_law_728 : decode code 728 = .ok (.ifCond .ne 15, 3) := by decide +kernel
theorem d_law_731 : decode code 731 = .ok (.aload_n 3, 1) := by decide +kernel
theorem d_law_732 : decode code 732 = .ok (.iconst 0, 1) := by decide +kernel
theorem d_law_733 : decode code 733 = .ok (.laload, 1) := by decide +kernel
theorem d_law_734 : decode code 734 = .ok (.iload 6, 2) := by decide +kernel
theorem d_law_736 : decode code 736 = .ok (.i2l, 1) := by decide +kernel
theorem d_law_737 : decode code 737 = .ok (.lcmp, 1) := by decide +kernel
theorem d_law_738 : decode code 738 = .ok (.ifCond .eq 5, 3) := by decide +kernel
theorem d_law_741 : decode code 741 = .ok (.iconst 0, 1) := by decide +kernel
theorem d_law_742 : decode code 742 = .ok (.ireturn, 1) := by decide +kernel
theorem d_law_743 : decode code 743 = .ok (.goto 377, 3) := by decide +kernel
theorem d_law_746 : decode code 746 = .ok (.aload_n 1, 1) := by decide +kernel
theorem d_law_747 : decode code 747 = .ok (.aload_n 0, 1) := by decide +kernel
theorem d_law_748 : decode code 748 = .ok (.iload 4, 2) := by decide +kernel
theorem d_law_750 : decode code 750 = .ok (.iconst 1, 1) := by decide +kernel
theorem d_law_751 : decode code 751 = .ok (.iadd, 1) := by decide +kernel
theorem d_law_752 : decode code 752 = .ok (.iaload, 1) := by decide +kernel
theorem d_law_753 : decode code 753 = .ok (.aload_n 3, 1) := by decide +kernel
theorem d_law_754 : decode code 754 = .ok (.invokestatic 108, 3) := by decide +kernel
theorem d_law_757 : decode code 757 = .ok (.istore 5, 2) := by decide +kernel
theorem d_law_759 : decode code 759 = .ok (.aload_n 2, 1) := by decide +kernel
theorem d_law_760 : decode code 760 = .ok (.aload_n 0, 1) := by decide +kernel
theorem d_law_761 : decode code 761 = .ok (.iload 4, 2) := by decide +kernel
theorem d_law_763 : decode code 763 = .ok (.iconst 1, 1) := by decide +kernel
theorem d_law_764 : decode code 764 = .ok (.iadd, 1) := by decide +kernel
theorem d_law_765 : decode code 765 = .ok (.iaload, 1) := by decide +kernel
theorem d_law_766 : decode code 766 = .ok (.invokevirtual 110, 3) := by decide +kernel
theorem d_law_769 : decode code 769 = .ok (.istore 6, 2) := by decide +kernel
theorem d_law_771 : decode code 771 = .ok (.aload_n 2, 1) := by decide +kernel
theorem d_law_772 : decode code 772 = .ok (.invokevirtual 77, 3) := by decide +kernel
theorem d_law_775 : decode code 775 = .ok (.iload 5, 2) := by decide +kernel
theorem d_law_777 : decode code 777 = .ok (.if_icmp .eq 5, 3) := by decide +kernel
theorem d_law_780 : decode code 780 = .ok (.iconst 0, 1) := by decide +kernel
theorem d_law_781 : decode code 781 = .ok (.ireturn, 1) := by decide +kernel
theorem d_law_782 : decode code 782 = .ok (.iload 5, 2) := by decide +kernel
theorem d_law_784 : decode code 784 = .ok (.ifCond .ne 15, 3) := by decide +kernel
theorem d_law_787 : decode code 787 = .ok (.aload_n 3, 1) := by decide +kernel
theorem d_law_788 : decode code 788 = .ok (.iconst 0, 1) := by decide +kernel
theorem d_law_789 : decode code 789 = .ok (.laload, 1) := by decide +kernel
theorem d_law_790 : decode code 790 = .ok (.iload 6, 2) := by decide +kernel
theorem d_law_792 : decode code 792 = .ok (.i2l, 1) := by decide +kernel
theorem d_law_793 : decode code 793 = .ok (.lcmp, 1) := by decide +kernel
theorem d_law_794 : decode code 794 = .ok (.ifCond .eq 5, 3) := by decide +kernel
theorem d_law_797 : decode code 797 = .ok (.iconst 0, 1) := by decide +kernel
theorem d_law_798 : decode code 798 = .ok (.ireturn, 1) := by decide +kernel
theorem d_law_799 : decode code 799 = .ok (.goto 321, 3) := by decide +kernel
theorem d_law_802 : decode code 802 = .ok (.aload_n 1, 1) := by decide +kernel
theorem d_law_803 : decode code 803 = .ok (.aload_n 0, 1) := by decide +kernel
theorem d_law_804 : decode code 804 = .ok (.iload 4, 2) := by decide +kernel
theorem d_law_806 : decode code 806 = .ok (.iconst 1, 1) := by decide +kernel
theorem d_law_807 : decode code 807 = .ok (.iadd, 1) := by decide +kernel
theorem d_law_808 : decode code 808 = .ok (.iaload, 1) := by decide +kernel
theorem d_law_809 : decode code 809 = .ok (.aload_n 3, 1) := by decide +kernel
theorem d_law_810 : decode code 810 = .ok (.invokestatic 111, 3) := by decide +kernel
theorem d_law_813 : decode code 813 = .ok (.istore 5, 2) := by decide +kernel
theorem d_law_815 : decode code 815 = .ok (.aload_n 2, 1) := by decide +kernel
theorem d_law_816 : decode code 816 = .ok (.aload_n 0, 1) := by decide +kernel
theorem d_law_817 : decode code 817 = .ok (.iload 4, 2) := by decide +kernel
theorem d_law_819 : decode code 819 = .ok (.iconst 1, 1) := by decide +kernel
theorem d_law_820 : decode code 820 = .ok (.iadd, 1) := by decide +kernel
theorem d_law_821 : decode code 821 = .ok (.iaload, 1) := by decide +kernel
theorem d_law_822 : decode code 822 = .ok (.invokevirtual 113, 3) := by decide +kernel
theorem d_law_825 : decode code 825 = .ok (.istore 6, 2) := by decide +kernel
theorem d_law_827 : decode code 827 = .ok (.aload_n 2, 1) := by decide +kernel
theorem d_law_828 : decode code 828 = .ok (.invokevirtual 77, 3) := by decide +kernel
theorem d_law_831 : decode code 831 = .ok (.iload 5, 2) := by decide +kernel
theorem d_law_833 : decode code 833 = .ok (.if_icmp .eq 5, 3) := by decide +kernel
theorem d_law_836 : decode code 836 = .ok (.iconst 0, 1) := by decide +kernel
theorem d_law_837 : decode code 837 = .ok (.ireturn, 1) := by decide +kernel
theorem d_law_838 : decode code 838 = .ok (.iload 5, 2) := by decide +kernel
theorem d_law_840 : decode code 840 = .ok (.ifCond .ne 15, 3) := by decide +kernel
theorem d_law_843 : decode code 843 = .ok (.aload_n 3, 1) := by decide +kernel
theorem d_law_844 : decode code 844 = .ok (.iconst 0, 1) := by decide +kernel
theorem d_law_845 : decode code 845 = .ok (.laload, 1) := by decide +kernel
theorem d_law_846 : decode code 846 = .ok (.iload 6, 2) := by decide +kernel
theorem d_law_848 : decode code 848 = .ok (.i2l, 1) := by decide +kernel
theorem d_law_849 : decode code 849 = .ok (.lcmp, 1) := by decide +kernel
theorem d_law_850 : decode code 850 = .ok (.ifCond .eq 5, 3) := by decide +kernel
theorem d_law_853 : decode code 853 = .ok (.iconst 0, 1) := by decide +kernel
theorem d_law_854 : decode code 854 = .ok (.ireturn, 1) := by decide +kernel
theorem d_law_855 : decode code 855 = .ok (.goto 265, 3) := by decide +kernel
theorem d_law_858 : decode code 858 = .ok (.aload_n 1, 1) := by decide +kernel
theorem d_law_859 : decode code 859 = .ok (.aload_n 0, 1) := by decide +kernel
theorem d_law_860 : decode code 860 = .ok (.iload 4, 2) := by decide +kernel
theorem d_law_862 : decode code 862 = .ok (.iconst 1, 1) := by decide +kernel
theorem d_law_863 : decode code 863 = .ok (.iadd, 1) := by decide +kernel
theorem d_law_864 : decode code 864 = .ok (.iaload, 1) := by decide +kernel
theorem d_law_865 : decode code 865 = .ok (.aload_n 3, 1) := by decide +kernel
theorem d_law_866 : decode code 866 = .ok (.invokestatic 114, 3) := by decide +kernel
theorem d_law_869 : decode code 869 = .ok (.istore 5, 2) := by decide +kernel
theorem d_law_871 : decode code 871 = .ok (.aload_n 2, 1) := by decide +kernel
theorem d_law_872 : decode code 872 = .ok (.aload_n 0, 1) := by decide +kernel
theorem d_law_873 : decode code 873 = .ok (.iload 4, 2) := by decide +kernel
theorem d_law_875 : decode code 875 = .ok (.iconst 1, 1) := by decide +kernel
theorem d_law_876 : decode code 876 = .ok (.iadd, 1) := by decide +kernel
theorem d_law_877 : decode code 877 = .ok (.iaload, 1) := by decide +kernel
theorem d_law_878 : decode code 878 = .ok (.invokevirtual 116, 3) := by decide +kernel
theorem d_law_881 : decode code 881 = .ok (.istore 6, 2) := by decide +kernel
theorem d_law_883 : decode code 883 = .ok (.aload_n 2, 1) := by decide +kernel
theorem d_law_884 : decode code 884 = .ok (.invokevirtual 77, 3) := by decide +kernel
theorem d_law_887 : decode code 887 = .ok (.iload 5, 2) := by decide +kernel
theorem d_law_889 : decode code 889 = .ok (.if_icmp .eq 5, 3) := by decide +kernel
theorem d_law_892 : decode code 892 = .ok (.iconst 0, 1) := by decide +kernel
theorem d_law_893 : decode code 893 = .ok (.ireturn, 1) := by decide +kernel
theorem d_law_894 : decode code 894 = .ok (.iload 5, 2) := by decide +kernel
theorem d_law_896 : decode code 896 = .ok (.ifCond .ne 15, 3) := by decide +kernel
theorem d_law_899 : decode code 899 = .ok (.aload_n 3, 1) := by decide +kernel
theorem d_law_900 : decode code 900 = .ok (.iconst 0, 1) := by decide +kernel
theorem d_law_901 : decode code 901 = .ok (.laload, 1) := by decide +kernel
theorem d_law_902 : decode code 902 = .ok (.iload 6, 2) := by decide +kernel
theorem d_law_904 : decode code 904 = .ok (.i2l, 1) := by decide +kernel
theorem d_law_905 : decode code 905 = .ok (.lcmp, 1) := by decide +kernel
theorem d_law_906 : decode code 906 = .ok (.ifCond .eq 5, 3) := by decide +kernel
theorem d_law_909 : decode code 909 = .ok (.iconst 0, 1) := by decide +kernel
theorem d_law_910 : decode code 910 = .ok (.ireturn, 1) := by decide +kernel
theorem d_law_911 : decode code 911 = .ok (.goto 209, 3) := by decide +kernel
theorem d_law_914 : decode code 914 = .ok (.aload_n 1, 1) := by decide +kernel
theorem d_law_915 : decode code 915 = .ok (.aload_n 0, 1) := by decide +kernel
theorem d_law_916 : decode code 916 = .ok (.iload 4, 2) := by decide +kernel
theorem d_law_918 : decode code 918 = .ok (.iconst 1, 1) := by decide +kernel
theorem d_law_919 : decode code 919 = .ok (.iadd, 1) := by decide +kernel
theorem d_law_920 : decode code 920 = .ok (.iaload, 1) := by decide +kernel
theorem d_law_921 : decode code 921 = .ok (.aload_n 0, 1) := by decide +kernel
theorem d_law_922 : decode code 922 = .ok (.iload 4, 2) := by decide +kernel
theorem d_law_924 : decode code 924 = .ok (.iconst 2, 1) := by decide +kernel
theorem d_law_925 : decode code 925 = .ok (.iadd, 1) := by decide +kernel
theorem d_law_926 : decode code 926 = .ok (.iaload, 1) := by decide +kernel
theorem d_law_927 : decode code 927 = .ok (.aload_n 3, 1) := by decide +kernel
theorem d_law_928 : decode code 928 = .ok (.invokestatic 117, 3) := by decide +kernel
theorem d_law_931 : decode code 931 = .ok (.istore 5, 2) := by decide +kernel
theorem d_law_933 : decode code 933 = .ok (.aload_n 2, 1) := by decide +kernel
theorem d_law_934 : decode code 934 = .ok (.aload_n 0, 1) := by decide +kernel
theorem d_law_935 : decode code 935 = .ok (.iload 4, 2) := by decide +kernel
theorem d_law_937 : decode code 937 = .ok (.iconst 1, 1) := by decide +kernel
theorem d_law_938 : decode code 938 = .ok (.iadd, 1) := by decide +kernel
theorem d_law_939 : decode code 939 = .ok (.iaload, 1) := by decide +kernel
theorem d_law_940 : decode code 940 = .ok (.aload_n 0, 1) := by decide +kernel
theorem d_law_941 : decode code 941 = .ok (.iload 4, 2) := by decide +kernel
theorem d_law_943 : decode code 943 = .ok (.iconst 2, 1) := by decide +kernel
theorem d_law_944 : decode code 944 = .ok (.iadd, 1) := by decide +kernel
theorem d_law_945 : decode code 945 = .ok (.iaload, 1) := by decide +kernel
theorem d_law_946 : decode code 946 = .ok (.invokevirtual 119, 3) := by decide +kernel
theorem d_law_949 : decode code 949 = .ok (.istore 6, 2) := by decide +kernel
theorem d_law_951 : decode code 951 = .ok (.aload_n 2, 1) := by decide +kernel
theorem d_law_952 : decode code 952 = .ok (.invokevirtual 77, 3) := by decide +kernel
theorem d_law_955 : decode code 955 = .ok (.iload 5, 2) := by decide +kernel
theorem d_law_957 : decode code 957 = .ok (.if_icmp .eq 5, 3) := by decide +kernel
theorem d_law_960 : decode code 960 = .ok (.iconst 0, 1) := by decide +kernel
theorem d_law_961 : decode code 961 = .ok (.ireturn, 1) := by decide +kernel
theorem d_law_962 : decode code 962 = .ok (.iload 5, 2) := by decide +kernel
theorem d_law_964 : decode code 964 = .ok (.ifCond .ne 15, 3) := by decide +kernel
theorem d_law_967 : decode code 967 = .ok (.aload_n 3, 1) := by decide +kernel
theorem d_law_968 : decode code 968 = .ok (.iconst 0, 1) := by decide +kernel
theorem d_law_969 : decode code 969 = .ok (.laload, 1) := by decide +kernel
theorem d_law_970 : decode code 970 = .ok (.iload 6, 2) := by decide +kernel
theorem d_law_972 : decode code 972 = .ok (.i2l, 1) := by decide +kernel
theorem d_law_973 : decode code 973 = .ok (.lcmp, 1) := by decide +kernel
theorem d_law_974 : decode code 974 = .ok (.ifCond .eq 5, 3) := by decide +kernel
theorem d_law_977 : decode code 977 = .ok (.iconst 0, 1) := by decide +kernel
theorem d_law_978 : decode code 978 = .ok (.ireturn, 1) := by decide +kernel
theorem d_law_979 : decode code 979 = .ok (.goto 141, 3) := by decide +kernel
theorem d_law_982 : decode code 982 = .ok (.aload_n 1, 1) := by decide +kernel
theorem d_law_983 : decode code 983 = .ok (.aload_n 0, 1) := by decide +kernel
theorem d_law_984 : decode code 984 = .ok (.iload 4, 2) := by decide +kernel
theorem d_law_986 : decode code 986 = .ok (.iconst 1, 1) := by decide +kernel
theorem d_law_987 : decode code 987 = .ok (.iadd, 1) := by decide +kernel
theorem d_law_988 : decode code 988 = .ok (.iaload, 1) := by decide +kernel
theorem d_law_989 : decode code 989 = .ok (.aload_n 0, 1) := by decide +kernel
theorem d_law_990 : decode code 990 = .ok (.iload 4, 2) := by decide +kernel
theorem d_law_992 : decode code 992 = .ok (.iconst 2, 1) := by decide +kernel
theorem d_law_993 : decode code 993 = .ok (.iadd, 1) := by decide +kernel
theorem d_law_994 : decode code 994 = .ok (.iaload, 1) := by decide +kernel
theorem d_law_995 : decode code 995 = .ok (.aload_n 3, 1) := by decide +kernel
theorem d_law_996 : decode code 996 = .ok (.invokestatic 120, 3) := by decide +kernel
theorem d_law_999 : decode code 999 = .ok (.istore 5, 2) := by decide +kernel
theorem d_law_1001 : decode code 1001 = .ok (.aload_n 2, 1) := by decide +kernel
theorem d_law_1002 : decode code 1002 = .ok (.aload_n 0, 1) := by decide +kernel
theorem d_law_1003 : decode code 1003 = .ok (.iload 4, 2) := by decide +kernel
theorem d_law_1005 : decode code 1005 = .ok (.iconst 1, 1) := by decide +kernel
theorem d_law_1006 : decode code 1006 = .ok (.iadd, 1) := by decide +kernel
theorem d_law_1007 : decode code 1007 = .ok (.iaload, 1) := by decide +kernel
theorem d_law_1008 : decode code 1008 = .ok (.aload_n 0, 1) := by decide +kernel
theorem d_law_1009 : decode code 1009 = .ok (.iload 4, 2) := by decide +kernel
theorem d_law_1011 : decode code 1011 = .ok (.iconst 2, 1) := by decide +kernel
theorem d_law_1012 : decode code 1012 = .ok (.iadd, 1) := by decide +kernel
theorem d_law_1013 : decode code 1013 = .ok (.iaload, 1) := by decide +kernel
theorem d_law_1014 : decode code 1014 = .ok (.invokevirtual 122, 3) := by decide +kernel
theorem d_law_1017 : decode code 1017 = .ok (.istore 6, 2) := by decide +kernel
theorem d_law_1019 : decode code 1019 = .ok (.aload_n 2, 1) := by decide +kernel
theorem d_law_1020 : decode code 1020 = .ok (.invokevirtual 77, 3) := by decide +kernel
theorem d_law_1023 : decode code 1023 = .ok (.iload 5, 2) := by decide +kernel
theorem d_law_1025 : decode code 1025 = .ok (.if_icmp .eq 5, 3) := by decide +kernel
theorem d_law_1028 : decode code 1028 = .ok (.iconst 0, 1) := by decide +kernel
theorem d_law_1029 : decode code 1029 = .ok (.ireturn, 1) := by decide +kernel
theorem d_law_1030 : decode code 1030 = .ok (.iload 5, 2) := by decide +kernel
theorem d_law_1032 : decode code 1032 = .ok (.ifCond .ne 15, 3) := by decide +kernel
theorem d_law_1035 : decode code 1035 = .ok (.aload_n 3, 1) := by decide +kernel
theorem d_law_1036 : decode code 1036 = .ok (.iconst 0, 1) := by decide +kernel
theorem d_law_1037 : decode code 1037 = .ok (.laload, 1) := by decide +kernel
theorem d_law_1038 : decode code 1038 = .ok (.iload 6, 2) := by decide +kernel
theorem d_law_1040 : decode code 1040 = .ok (.i2l, 1) := by decide +kernel
theorem d_law_1041 : decode code 1041 = .ok (.lcmp, 1) := by decide +kernel
theorem d_law_1042 : decode code 1042 = .ok (.ifCond .eq 5, 3) := by decide +kernel
theorem d_law_1045 : decode code 1045 = .ok (.iconst 0, 1) := by decide +kernel
theorem d_law_1046 : decode code 1046 = .ok (.ireturn, 1) := by decide +kernel
theorem d_law_1047 : decode code 1047 = .ok (.goto 73, 3) := by decide +kernel
theorem d_law_1050 : decode code 1050 = .ok (.aload_n 1, 1) := by decide +kernel
theorem d_law_1051 : decode code 1051 = .ok (.invokevirtual 123, 3) := by decide +kernel
theorem d_law_1054 : decode code 1054 = .ok (.aload_n 2, 1) := by decide +kernel
theorem d_law_1055 : decode code 1055 = .ok (.invokevirtual 127, 3) := by decide +kernel
theorem d_law_1058 : decode code 1058 = .ok (.lcmp, 1) := by decide +kernel
theorem d_law_1059 : decode code 1059 = .ok (.ifCond .eq 61, 3) := by decide +kernel
theorem d_law_1062 : decode code 1062 = .ok (.iconst 0, 1) := by decide +kernel
theorem d_law_1063 : decode code 1063 = .ok (.ireturn, 1) := by decide +kernel
theorem d_law_1064 : decode code 1064 = .ok (.aload_n 1, 1) := by decide +kernel
theorem d_law_1065 : decode code 1065 = .ok (.aload_n 0, 1) := by decide +kernel
theorem d_law_1066 : decode code 1066 = .ok (.iload 4, 2) := by decide +kernel
theorem d_law_1068 : decode code 1068 = .ok (.iconst 1, 1) := by decide +kernel
theorem d_law_1069 : decode code 1069 = .ok (.iadd, 1) := by decide +kernel
theorem d_law_1070 : decode code 1070 = .ok (.iaload, 1) := by decide +kernel
theorem d_law_1071 : decode code 1071 = .ok (.aload_n 3, 1) := by decide +kernel
theorem d_law_1072 : decode code 1072 = .ok (.invokestatic 128, 3) := by decide +kernel
theorem d_law_1075 : decode code 1075 = .ok (.istore 5, 2) := by decide +kernel
theorem d_law_1077 : decode code 1077 = .ok (.aload_n 2, 1) := by decide +kernel
theorem d_law_1078 : decode code 1078 = .ok (.aload_n 0, 1) := by decide +kernel
theorem d_law_1079 : decode code 1079 = .ok (.iload 4, 2) := by decide +kernel
theorem d_law_1081 : decode code 1081 = .ok (.iconst 1, 1) := by decide +kernel
theorem d_law_1082 : decode code 1082 = .ok (.iadd, 1) := by decide +kernel
theorem d_law_1083 : decode code 1083 = .ok (.iaload, 1) := by decide +kernel
theorem d_law_1084 : decode code 1084 = .ok (.invokevirtual 130, 3) := by decide +kernel
theorem d_law_1087 : decode code 1087 = .ok (.istore 6, 2) := by decide +kernel
theorem d_law_1089 : decode code 1089 = .ok (.aload_n 2, 1) := by decide +kernel
theorem d_law_1090 : decode code 1090 = .ok (.invokevirtual 77, 3) := by decide +kernel
theorem d_law_1093 : decode code 1093 = .ok (.iload 5, 2) := by decide +kernel
theorem d_law_1095 : decode code 1095 = .ok (.if_icmp .eq 5, 3) := by decide +kernel
theorem d_law_1098 : decode code 1098 = .ok (.iconst 0, 1) := by decide +kernel
theorem d_law_1099 : decode code 1099 = .ok (.ireturn, 1) := by decide +kernel
theorem d_law_1100 : decode code 1100 = .ok (.iload 5, 2) := by decide +kernel
theorem d_law_1102 : decode code 1102 = .ok (.ifCond .ne 15, 3) := by decide +kernel
theorem d_law_1105 : decode code 1105 = .ok (.aload_n 3, 1) := by decide +kernel
theorem d_law_1106 : decode code 1106 = .ok (.iconst 0, 1) := by decide +kernel
theorem d_law_1107 : decode code 1107 = .ok (.laload, 1) := by decide +kernel
theorem d_law_1108 : decode code 1108 = .ok (.iload 6, 2) := by decide +kernel
theorem d_law_1110 : decode code 1110 = .ok (.i2l, 1) := by decide +kernel
theorem d_law_1111 : decode code 1111 = .ok (.lcmp, 1) := by decide +kernel
theorem d_law_1112 : decode code 1112 = .ok (.ifCond .eq 5, 3) := by decide +kernel
theorem d_law_1115 : decode code 1115 = .ok (.iconst 0, 1) := by decide +kernel
theorem d_law_1116 : decode code 1116 = .ok (.ireturn, 1) := by decide +kernel
theorem d_law_1117 : decode code 1117 = .ok (.goto 3, 3) := by decide +kernel
theorem d_law_1120 : decode code 1120 = .ok (.iinc 4 6, 3) := by decide +kernel
theorem d_law_1123 : decode code 1123 = .ok (.goto (-1100), 3) := by decide +kernel
theorem d_law_1126 : decode code 1126 = .ok (.iconst 1, 1) := by decide +kernel
theorem d_law_1127 : decode code 1127 = .ok (.ireturn, 1) := by decide +kernel
