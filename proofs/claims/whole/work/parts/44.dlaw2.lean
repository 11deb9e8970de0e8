/-! The law's instructions (2). -/
theorem d_L_law_620 : decode code 620 = .ok (.iconst 0, 1) := by decide +kernel
theorem d_L_law_621 : decode code 621 = .ok (.ireturn, 1) := by decide +kernel
theorem d_L_law_622 : decode code 622 = .ok (.goto 1498, 3) := by decide +kernel
theorem d_L_law_625 : decode code 625 = .ok (.aload_n 1, 1) := by decide +kernel
theorem d_L_law_626 : decode code 626 = .ok (.aload_n 0, 1) := by decide +kernel
theorem d_L_law_627 : decode code 627 = .ok (.iload 4, 2) := by decide +kernel
theorem d_L_law_629 : decode code 629 = .ok (.iconst 1, 1) := by decide +kernel
theorem d_L_law_630 : decode code 630 = .ok (.iadd, 1) := by decide +kernel
theorem d_L_law_631 : decode code 631 = .ok (.iaload, 1) := by decide +kernel
theorem d_L_law_632 : decode code 632 = .ok (.aload_n 0, 1) := by decide +kernel
theorem d_L_law_633 : decode code 633 = .ok (.iload 4, 2) := by decide +kernel
theorem d_L_law_635 : decode code 635 = .ok (.iconst 2, 1) := by decide +kernel
theorem d_L_law_636 : decode code 636 = .ok (.iadd, 1) := by decide +kernel
theorem d_L_law_637 : decode code 637 = .ok (.iaload, 1) := by decide +kernel
theorem d_L_law_638 : decode code 638 = .ok (.aload_n 3, 1) := by decide +kernel
theorem d_L_law_639 : decode code 639 = .ok (.invokestatic 116, 3) := by decide +kernel
theorem d_L_law_642 : decode code 642 = .ok (.istore 5, 2) := by decide +kernel
theorem d_L_law_644 : decode code 644 = .ok (.aload_n 2, 1) := by decide +kernel
theorem d_L_law_645 : decode code 645 = .ok (.aload_n 0, 1) := by decide +kernel
theorem d_L_law_646 : decode code 646 = .ok (.iload 4, 2) := by decide +kernel
theorem d_L_law_648 : decode code 648 = .ok (.iconst 1, 1) := by decide +kernel
theorem d_L_law_649 : decode code 649 = .ok (.iadd, 1) := by decide +kernel
theorem d_L_law_650 : decode code 650 = .ok (.iaload, 1) := by decide +kernel
theorem d_L_law_651 : decode code 651 = .ok (.aload_n 0, 1) := by decide +kernel
theorem d_L_law_652 : decode code 652 = .ok (.iload 4, 2) := by decide +kernel
theorem d_L_law_654 : decode code 654 = .ok (.iconst 2, 1) := by decide +kernel
theorem d_L_law_655 : decode code 655 = .ok (.iadd, 1) := by decide +kernel
theorem d_L_law_656 : decode code 656 = .ok (.iaload, 1) := by decide +kernel
theorem d_L_law_657 : decode code 657 = .ok (.invokevirtual 118, 3) := by decide +kernel
theorem d_L_law_660 : decode code 660 = .ok (.istore 6, 2) := by decide +kernel
theorem d_L_law_662 : decode code 662 = .ok (.aload_n 2, 1) := by decide +kernel
theorem d_L_law_663 : decode code 663 = .ok (.invokevirtual 91, 3) := by decide +kernel
theorem d_L_law_666 : decode code 666 = .ok (.iload 5, 2) := by decide +kernel
theorem d_L_law_668 : decode code 668 = .ok (.if_icmp .eq 5, 3) := by decide +kernel
theorem d_L_law_671 : decode code 671 = .ok (.iconst 0, 1) := by decide +kernel
theorem d_L_law_672 : decode code 672 = .ok (.ireturn, 1) := by decide +kernel
theorem d_L_law_673 : decode code 673 = .ok (.iload 5, 2) := by decide +kernel
theorem d_L_law_675 : decode code 675 = .ok (.ifCond .ne 15, 3) := by decide +kernel
theorem d_L_law_678 : decode code 678 = .ok (.aload_n 3, 1) := by decide +kernel
theorem d_L_law_679 : decode code 679 = .ok (.iconst 0, 1) := by decide +kernel
theorem d_L_law_680 : decode code 680 = .ok (.laload, 1) := by decide +kernel
theorem d_L_law_681 : decode code 681 = .ok (.iload 6, 2) := by decide +kernel
theorem d_L_law_683 : decode code 683 = .ok (.i2l, 1) := by decide +kernel
theorem d_L_law_684 : decode code 684 = .ok (.lcmp, 1) := by decide +kernel
theorem d_L_law_685 : decode code 685 = .ok (.ifCond .eq 5, 3) := by decide +kernel
theorem d_L_law_688 : decode code 688 = .ok (.iconst 0, 1) := by decide +kernel
theorem d_L_law_689 : decode code 689 = .ok (.ireturn, 1) := by decide +kernel
theorem d_L_law_690 : decode code 690 = .ok (.goto 1430, 3) := by decide +kernel
theorem d_L_law_693 : decode code 693 = .ok (.aload_n 1, 1) := by decide +kernel
theorem d_L_law_694 : decode code 694 = .ok (.aload_n 0, 1) := by decide +kernel
theorem d_L_law_695 : decode code 695 = .ok (.iload 4, 2) := by decide +kernel
theorem d_L_law_697 : decode code 697 = .ok (.iconst 1, 1) := by decide +kernel
theorem d_L_law_698 : decode code 698 = .ok (.iadd, 1) := by decide +kernel
theorem d_L_law_699 : decode code 699 = .ok (.iaload, 1) := by decide +kernel
theorem d_L_law_700 : decode code 700 = .ok (.aload_n 0, 1) := by decide +kernel
theorem d_L_law_701 : decode code 701 = .ok (.iload 4, 2) := by decide +kernel
theorem d_L_law_703 : decode code 703 = .ok (.iconst 2, 1) := by decide +kernel
theorem d_L_law_704 : decode code 704 = .ok (.iadd, 1) := by decide +kernel
theorem d_L_law_705 : decode code 705 = .ok (.iaload, 1) := by decide +kernel
theorem d_L_law_706 : decode code 706 = .ok (.i2l, 1) := by decide +kernel
theorem d_L_law_707 : decode code 707 = .ok (.bipush 32, 2) := by decide +kernel
theorem d_L_law_709 : decode code 709 = .ok (.lshl, 1) := by decide +kernel
theorem d_L_law_710 : decode code 710 = .ok (.aload_n 0, 1) := by decide +kernel
theorem d_L_law_711 : decode code 711 = .ok (.iload 4, 2) := by decide +kernel
theorem d_L_law_713 : decode code 713 = .ok (.iconst 3, 1) := by decide +kernel
theorem d_L_law_714 : decode code 714 = .ok (.iadd, 1) := by decide +kernel
theorem d_L_law_715 : decode code 715 = .ok (.iaload, 1) := by decide +kernel
theorem d_L_law_716 : decode code 716 = .ok (.i2l, 1) := by decide +kernel
theorem d_L_law_717 : decode code 717 = .ok (.ldc2_w 99, 3) := by decide +kernel
theorem d_L_law_720 : decode code 720 = .ok (.land, 1) := by decide +kernel
theorem d_L_law_721 : decode code 721 = .ok (.lor, 1) := by decide +kernel
theorem d_L_law_722 : decode code 722 = .ok (.aload_n 0, 1) := by decide +kernel
theorem d_L_law_723 : decode code 723 = .ok (.iload 4, 2) := by decide +kernel
theorem d_L_law_725 : decode code 725 = .ok (.iconst 4, 1) := by decide +kernel
theorem d_L_law_726 : decode code 726 = .ok (.iadd, 1) := by decide +kernel
theorem d_L_law_727 : decode code 727 = .ok (.iaload, 1) := by decide +kernel
theorem d_L_law_728 : decode code 728 = .ok (.i2l, 1) := by decide +kernel
theorem d_L_law_729 : decode code 729 = .ok (.bipush 32, 2) := by decide +kernel
theorem d_L_law_731 : decode code 731 = .ok (.lshl, 1) := by decide +kernel
theorem d_L_law_732 : decode code 732 = .ok (.aload_n 0, 1) := by decide +kernel
theorem d_L_law_733 : decode code 733 = .ok (.iload 4, 2) := by decide +kernel
theorem d_L_law_735 : decode code 735 = .ok (.iconst 5, 1) := by decide +kernel
theorem d_L_law_736 : decode code 736 = .ok (.iadd, 1) := by decide +kernel
theorem d_L_law_737 : decode code 737 = .ok (.iaload, 1) := by decide +kernel
theorem d_L_law_738 : decode code 738 = .ok (.i2l, 1) := by decide +kernel
theorem d_L_law_739 : decode code 739 = .ok (.ldc2_w 99, 3) := by decide +kernel
theorem d_L_law_742 : decode code 742 = .ok (.land, 1) := by decide +kernel
theorem d_L_law_743 : decode code 743 = .ok (.lor, 1) := by decide +kernel
theorem d_L_law_744 : decode code 744 = .ok (.aload_n 0, 1) := by decide +kernel
theorem d_L_law_745 : decode code 745 = .ok (.iload 4, 2) := by decide +kernel
theorem d_L_law_747 : decode code 747 = .ok (.bipush 6, 2) := by decide +kernel
theorem d_L_law_749 : decode code 749 = .ok (.iadd, 1) := by decide +kernel
theorem d_L_law_750 : decode code 750 = .ok (.iaload, 1) := by decide +kernel
theorem d_L_law_751 : decode code 751 = .ok (.i2l, 1) := by decide +kernel
theorem d_L_law_752 : decode code 752 = .ok (.bipush 32, 2) := by decide +kernel
theorem d_L_law_754 : decode code 754 = .ok (.lshl, 1) := by decide +kernel
theorem d_L_law_755 : decode code 755 = .ok (.aload_n 0, 1) := by decide +kernel
theorem d_L_law_756 : decode code 756 = .ok (.iload 4, 2) := by decide +kernel
theorem d_L_law_758 : decode code 758 = .ok (.bipush 7, 2) := by decide +kernel
theorem d_L_law_760 : decode code 760 = .ok (.iadd, 1) := by decide +kernel
theorem d_L_law_761 : decode code 761 = .ok (.iaload, 1) := by decide +kernel
theorem d_L_law_762 : decode code 762 = .ok (.i2l, 1) := by decide +kernel
theorem d_L_law_763 : decode code 763 = .ok (.ldc2_w 99, 3) := by decide +kernel
theorem d_L_law_766 : decode code 766 = .ok (.land, 1) := by decide +kernel
theorem d_L_law_767 : decode code 767 = .ok (.lor, 1) := by decide +kernel
theorem d_L_law_768 : decode code 768 = .ok (.aload_n 0, 1) := by decide +kernel
theorem d_L_law_769 : decode code 769 = .ok (.iload 4, 2) := by decide +kernel
theorem d_L_law_771 : decode code 771 = .ok (.bipush 8, 2) := by decide +kernel
theorem d_L_law_773 : decode code 773 = .ok (.iadd, 1) := by decide +kernel
theorem d_L_law_774 : decode code 774 = .ok (.iaload, 1) := by decide +kernel
theorem d_L_law_775 : decode code 775 = .ok (.i2l, 1) := by decide +kernel
theorem d_L_law_776 : decode code 776 = .ok (.bipush 32, 2) := by decide +kernel
theorem d_L_law_778 : decode code 778 = .ok (.lshl, 1) := by decide +kernel
theorem d_L_law_779 : decode code 779 = .ok (.aload_n 0, 1) := by decide +kernel
theorem d_L_law_780 : decode code 780 = .ok (.iload 4, 2) := by decide +kernel
theorem d_L_law_782 : decode code 782 = .ok (.bipush 9, 2) := by decide +kernel
theorem d_L_law_784 : decode code 784 = .ok (.iadd, 1) := by decide +kernel
theorem d_L_law_785 : decode code 785 = .ok (.iaload, 1) := by decide +kernel
theorem d_L_law_786 : decode code 786 = .ok (.i2l, 1) := by decide +kernel
theorem d_L_law_787 : decode code 787 = .ok (.ldc2_w 99, 3) := by decide +kernel
theorem d_L_law_790 : decode code 790 = .ok (.land, 1) := by decide +kernel
theorem d_L_law_791 : decode code 791 = .ok (.lor, 1) := by decide +kernel
theorem d_L_law_792 : decode code 792 = .ok (.aload_n 3, 1) := by decide +kernel
theorem d_L_law_793 : decode code 793 = .ok (.invokestatic 119, 3) := by decide +kernel
theorem d_L_law_796 : decode code 796 = .ok (.istore 5, 2) := by decide +kernel
theorem d_L_law_798 : decode code 798 = .ok (.aload_n 2, 1) := by decide +kernel
theorem d_L_law_799 : decode code 799 = .ok (.aload_n 0, 1) := by decide +kernel
theorem d_L_law_800 : decode code 800 = .ok (.iload 4, 2) := by decide +kernel
theorem d_L_law_802 : decode code 802 = .ok (.iconst 1, 1) := by decide +kernel
theorem d_L_law_803 : decode code 803 = .ok (.iadd, 1) := by decide +kernel
theorem d_L_law_804 : decode code 804 = .ok (.iaload, 1) := by decide +kernel
theorem d_L_law_805 : decode code 805 = .ok (.aload_n 0, 1) := by decide +kernel
theorem d_L_law_806 : decode code 806 = .ok (.iload 4, 2) := by decide +kernel
theorem d_L_law_808 : decode code 808 = .ok (.iconst 2, 1) := by decide +kernel
theorem d_L_law_809 : decode code 809 = .ok (.iadd, 1) := by decide +kernel
theorem d_L_law_810 : decode code 810 = .ok (.iaload, 1) := by decide +kernel
theorem d_L_law_811 : decode code 811 = .ok (.i2l, 1) := by decide +kernel
theorem d_L_law_812 : decode code 812 = .ok (.bipush 32, 2) := by decide +kernel
theorem d_L_law_814 : decode code 814 = .ok (.lshl, 1) := by decide +kernel
theorem d_L_law_815 : decode code 815 = .ok (.aload_n 0, 1) := by decide +kernel
theorem d_L_law_816 : decode code 816 = .ok (.iload 4, 2) := by decide +kernel
theorem d_L_law_818 : decode code 818 = .ok (.iconst 3, 1) := by decide +kernel
theorem d_L_law_819 : decode code 819 = .ok (.iadd, 1) := by decide +kernel
theorem d_L_law_820 : decode code 820 = .ok (.iaload, 1) := by decide +kernel
theorem d_L_law_821 : decode code 821 = .ok (.i2l, 1) := by decide +kernel
theorem d_L_law_822 : decode code 822 = .ok (.ldc2_w 99, 3) := by decide +kernel
theorem d_L_law_825 : decode code 825 = .ok (.land, 1) := by decide +kernel
theorem d_L_law_826 : decode code 826 = .ok (.lor, 1) := by decide +kernel
theorem d_L_law_827 : decode code 827 = .ok (.aload_n 0, 1) := by decide +kernel
theorem d_L_law_828 : decode code 828 = .ok (.iload 4, 2) := by decide +kernel
theorem d_L_law_830 : decode code 830 = .ok (.iconst 4, 1) := by decide +kernel
theorem d_L_law_831 : decode code 831 = .ok (.iadd, 1) := by decide +kernel
theorem d_L_law_832 : decode code 832 = .ok (.iaload, 1) := by decide +kernel
theorem d_L_law_833 : decode code 833 = .ok (.i2l, 1) := by decide +kernel
theorem d_L_law_834 : decode code 834 = .ok (.bipush 32, 2) := by decide +kernel
theorem d_L_law_836 : decode code 836 = .ok (.lshl, 1) := by decide +kernel
theorem d_L_law_837 : decode code 837 = .ok (.aload_n 0, 1) := by decide +kernel
theorem d_L_law_838 : decode code 838 = .ok (.iload 4, 2) := by decide +kernel
theorem d_L_law_840 : decode code 840 = .ok (.iconst 5, 1) := by decide +kernel
theorem d_L_law_841 : decode code 841 = .ok (.iadd, 1) := by decide +kernel
theorem d_L_law_842 : decode code 842 = .ok (.iaload, 1) := by decide +kernel
theorem d_L_law_843 : decode code 843 = .ok (.i2l, 1) := by decide +kernel
theorem d_L_law_844 : decode code 844 = .ok (.ldc2_w 99, 3) := by decide +kernel
theorem d_L_law_847 : decode code 847 = .ok (.land, 1) := by decide +kernel
theorem d_L_law_848 : decode code 848 = .ok (.lor, 1) := by decide +kernel
theorem d_L_law_849 : decode code 849 = .ok (.aload_n 0, 1) := by decide +kernel
theorem d_L_law_850 : decode code 850 = .ok (.iload 4, 2) := by decide +kernel
theorem d_L_law_852 : decode code 852 = .ok (.bipush 6, 2) := by decide +kernel
theorem d_L_law_854 : decode code 854 = .ok (.iadd, 1) := by decide +kernel
theorem d_L_law_855 : decode code 855 = .ok (.iaload, 1) := by decide +kernel
theorem d_L_law_856 : decode code 856 = .ok (.i2l, 1) := by decide +kernel
theorem d_L_law_857 : decode code 857 = .ok (.bipush 32, 2) := by decide +kernel
theorem d_L_law_859 : decode code 859 = .ok (.lshl, 1) := by decide +kernel
theorem d_L_law_860 : decode code 860 = .ok (.aload_n 0, 1) := by decide +kernel
theorem d_L_law_861 : decode code 861 = .ok (.iload 4, 2) := by decide +kernel
theorem d_L_law_863 : decode code 863 = .ok (.bipush 7, 2) := by decide +kernel
theorem d_L_law_865 : decode code 865 = .ok (.iadd, 1) := by decide +kernel
theorem d_L_law_866 : decode code 866 = .ok (.iaload, 1) := by decide +kernel
theorem d_L_law_867 : decode code 867 = .ok (.i2l, 1) := by decide +kernel
theorem d_L_law_868 : decode code 868 = .ok (.ldc2_w 99, 3) := by decide +kernel
theorem d_L_law_871 : decode code 871 = .ok (.land, 1) := by decide +kernel
theorem d_L_law_872 : decode code 872 = .ok (.lor, 1) := by decide +kernel
theorem d_L_law_873 : decode code 873 = .ok (.aload_n 0, 1) := by decide +kernel
theorem d_L_law_874 : decode code 874 = .ok (.iload 4, 2) := by decide +kernel
theorem d_L_law_876 : decode code 876 = .ok (.bipush 8, 2) := by decide +kernel
theorem d_L_law_878 : decode code 878 = .ok (.iadd, 1) := by decide +kernel
theorem d_L_law_879 : decode code 879 = .ok (.iaload, 1) := by decide +kernel
theorem d_L_law_880 : decode code 880 = .ok (.i2l, 1) := by decide +kernel
theorem d_L_law_881 : decode code 881 = .ok (.bipush 32, 2) := by decide +kernel
theorem d_L_law_883 : decode code 883 = .ok (.lshl, 1) := by decide +kernel
theorem d_L_law_884 : decode code 884 = .ok (.aload_n 0, 1) := by decide +kernel
theorem d_L_law_885 : decode code 885 = .ok (.iload 4, 2) := by decide +kernel
theorem d_L_law_887 : decode code 887 = .ok (.bipush 9, 2) := by decide +kernel
theorem d_L_law_889 : decode code 889 = .ok (.iadd, 1) := by decide +kernel
theorem d_L_law_890 : decode code 890 = .ok (.iaload, 1) := by decide +kernel
theorem d_L_law_891 : decode code 891 = .ok (.i2l, 1) := by decide +kernel
theorem d_L_law_892 : decode code 892 = .ok (.ldc2_w 99, 3) := by decide +kernel
theorem d_L_law_895 : decode code 895 = .ok (.land, 1) := by decide +kernel
theorem d_L_law_896 : decode code 896 = .ok (.lor, 1) := by decide +kernel
theorem d_L_law_897 : decode code 897 = .ok (.invokevirtual 122, 3) := by decide +kernel
theorem d_L_law_900 : decode code 900 = .ok (.istore 6, 2) := by decide +kernel
theorem d_L_law_902 : decode code 902 = .ok (.aload_n 2, 1) := by decide +kernel
theorem d_L_law_903 : decode code 903 = .ok (.invokevirtual 91, 3) := by decide +kernel
theorem d_L_law_906 : decode code 906 = .ok (.iload 5, 2) := by decide +kernel
theorem d_L_law_908 : decode code 908 = .ok (.if_icmp .eq 5, 3) := by decide +kernel
theorem d_L_law_911 : decode code 911 = .ok (.iconst 0, 1) := by decide +kernel
theorem d_L_law_912 : decode code 912 = .ok (.ireturn, 1) := by decide +kernel
theorem d_L_law_913 : decode code 913 = .ok (.iload 5, 2) := by decide +kernel
theorem d_L_law_915 : decode code 915 = .ok (.ifCond .ne 15, 3) := by decide +kernel
theorem d_L_law_918 : decode code 918 = .ok (.aload_n 3, 1) := by decide +kernel
theorem d_L_law_919 : decode code 919 = .ok (.iconst 0, 1) := by decide +kernel
theorem d_L_law_920 : decode code 920 = .ok (.laload, 1) := by decide +kernel
theorem d_L_law_921 : decode code 921 = .ok (.iload 6, 2) := by decide +kernel
theorem d_L_law_923 : decode code 923 = .ok (.i2l, 1) := by decide +kernel
theorem d_L_law_924 : decode code 924 = .ok (.lcmp, 1) := by decide +kernel
theorem d_L_law_925 : decode code 925 = .ok (.ifCond .eq 5, 3) := by decide +kernel
theorem d_L_law_928 : decode code 928 = .ok (.iconst 0, 1) := by decide +kernel
theorem d_L_law_929 : decode code 929 = .ok (.ireturn, 1) := by decide +kernel
theorem d_L_law_930 : decode code 930 = .ok (.goto 1190, 3) := by decide +kernel
theorem d_L_law_933 : decode code 933 = .ok (.aload_n 1, 1) := by decide +kernel
theorem d_L_law_934 : decode code 934 = .ok (.aload_n 0, 1) := by decide +kernel
theorem d_L_law_935 : decode code 935 = .ok (.iload 4, 2) := by decide +kernel
theorem d_L_law_937 : decode code 937 = .ok (.iconst 1, 1) := by decide +kernel
theorem d_L_law_938 : decode code 938 = .ok (.iadd, 1) := by decide +kernel
theorem d_L_law_939 : decode code 939 = .ok (.iaload, 1) := by decide +kernel
theorem d_L_law_940 : decode code 940 = .ok (.invokevirtual 123, 3) := by decide +kernel
theorem d_L_law_943 : decode code 943 = .ok (.aload_n 2, 1) := by decide +kernel
theorem d_L_law_944 : decode code 944 = .ok (.aload_n 0, 1) := by decide +kernel
theorem d_L_law_945 : decode code 945 = .ok (.iload 4, 2) := by decide +kernel
theorem d_L_law_947 : decode code 947 = .ok (.iconst 1, 1) := by decide +kernel
theorem d_L_law_948 : decode code 948 = .ok (.iadd, 1) := by decide +kernel
theorem d_L_law_949 : decode code 949 = .ok (.iaload, 1) := by decide +kernel
theorem d_L_law_950 : decode code 950 = .ok (.invokevirtual 126, 3) := by decide +kernel
theorem d_L_law_953 : decode code 953 = .ok (.if_icmp .eq 1167, 3) := by decide +kernel
theorem d_L_law_956 : decode code 956 = .ok (.iconst 0, 1) := by decide +kernel
theorem d_L_law_957 : decode code 957 = .ok (.ireturn, 1) := by decide +kernel
theorem d_L_law_958 : decode code 958 = .ok (.aload_n 1, 1) := by decide +kernel
theorem d_L_law_959 : decode code 959 = .ok (.aload_n 0, 1) := by decide +kernel
theorem d_L_law_960 : decode code 960 = .ok (.iload 4, 2) := by decide +kernel
theorem d_L_law_962 : decode code 962 = .ok (.iconst 1, 1) := by decide +kernel
theorem d_L_law_963 : decode code 963 = .ok (.iadd, 1) := by decide +kernel
theorem d_L_law_964 : decode code 964 = .ok (.iaload, 1) := by decide +kernel
theorem d_L_law_965 : decode code 965 = .ok (.aload_n 0, 1) := by decide +kernel
theorem d_L_law_966 : decode code 966 = .ok (.iload 4, 2) := by decide +kernel
theorem d_L_law_968 : decode code 968 = .ok (.iconst 2, 1) := by decide +kernel
theorem d_L_law_969 : decode code 969 = .ok (.iadd, 1) := by decide +kernel
theorem d_L_law_970 : decode code 970 = .ok (.iaload, 1) := by decide +kernel
theorem d_L_law_971 : decode code 971 = .ok (.aload_n 0, 1) := by decide +kernel
theorem d_L_law_972 : decode code 972 = .ok (.iload 4, 2) := by decide +kernel
theorem d_L_law_974 : decode code 974 = .ok (.iconst 3, 1) := by decide +kernel
theorem d_L_law_975 : decode code 975 = .ok (.iadd, 1) := by decide +kernel
theorem d_L_law_976 : decode code 976 = .ok (.iaload, 1) := by decide +kernel
theorem d_L_law_977 : decode code 977 = .ok (.i2l, 1) := by decide +kernel
theorem d_L_law_978 : decode code 978 = .ok (.bipush 32, 2) := by decide +kernel
theorem d_L_law_980 : decode code 980 = .ok (.lshl, 1) := by decide +kernel
theorem d_L_law_981 : decode code 981 = .ok (.aload_n 0, 1) := by decide +kernel
theorem d_L_law_982 : decode code 982 = .ok (.iload 4, 2) := by decide +kernel
theorem d_L_law_984 : decode code 984 = .ok (.iconst 4, 1) := by decide +kernel
theorem d_L_law_985 : decode code 985 = .ok (.iadd, 1) := by decide +kernel
theorem d_L_law_986 : decode code 986 = .ok (.iaload, 1) := by decide +kernel
theorem d_L_law_987 : decode code 987 = .ok (.i2l, 1) := by decide +kernel
theorem d_L_law_988 : decode code 988 = .ok (.ldc2_w 99, 3) := by decide +kernel
theorem d_L_law_991 : decode code 991 = .ok (.land, 1) := by decide +kernel
theorem d_L_law_992 : decode code 992 = .ok (.lor, 1) := by decide +kernel
theorem d_L_law_993 : decode code 993 = .ok (.aload_n 0, 1) := by decide +kernel
theorem d_L_law_994 : decode code 994 = .ok (.iload 4, 2) := by decide +kernel
theorem d_L_law_996 : decode code 996 = .ok (.iconst 5, 1) := by decide +kernel
theorem d_L_law_997 : decode code 997 = .ok (.iadd, 1) := by decide +kernel
theorem d_L_law_998 : decode code 998 = .ok (.iaload, 1) := by decide +kernel
theorem d_L_law_999 : decode code 999 = .ok (.aload_n 3, 1) := by decide +kernel
theorem d_L_law_1000 : decode code 1000 = .ok (.invokestatic 127, 3) := by decide +kernel
theorem d_L_law_1003 : decode code 1003 = .ok (.istore 5, 2) := by decide +kernel
theorem d_L_law_1005 : decode code 1005 = .ok (.aload_n 2, 1) := by decide +kernel
theorem d_L_law_1006 : decode code 1006 = .ok (.aload_n 0, 1) := by decide +kernel
theorem d_L_law_1007 : decode code 1007 = .ok (.iload 4, 2) := by decide +kernel
theorem d_L_law_1009 : decode code 1009 = .ok (.iconst 1, 1) := by decide +kernel
theorem d_L_law_1010 : decode code 1010 = .ok (.iadd, 1) := by decide +kernel
theorem d_L_law_1011 : decode code 1011 = .ok (.iaload, 1) := by decide +kernel
theorem d_L_law_1012 : decode code 1012 = .ok (.aload_n 0, 1) := by decide +kernel
theorem d_L_law_1013 : decode code 1013 = .ok (.iload 4, 2) := by decide +kernel
theorem d_L_law_1015 : decode code 1015 = .ok (.iconst 2, 1) := by decide +kernel
theorem d_L_law_1016 : decode code 1016 = .ok (.iadd, 1) := by decide +kernel
theorem d_L_law_1017 : decode code 1017 = .ok (.iaload, 1) := by decide +kernel
theorem d_L_law_1018 : decode code 1018 = .ok (.aload_n 0, 1) := by decide +kernel
theorem d_L_law_1019 : decode code 1019 = .ok (.iload 4, 2) := by decide +kernel
theorem d_L_law_1021 : decode code 1021 = .ok (.iconst 3, 1) := by decide +kernel
theorem d_L_law_1022 : decode code 1022 = .ok (.iadd, 1) := by decide +kernel
theorem d_L_law_1023 : decode code 1023 = .ok (.iaload, 1) := by decide +kernel
theorem d_L_law_1024 : decode code 1024 = .ok (.i2l, 1) := by decide +kernel
theorem d_L_law_1025 : decode code 1025 = .ok (.bipush 32, 2) := by decide +kernel
theorem d_L_law_1027 : decode code 1027 = .ok (.lshl, 1) := by decide +kernel
theorem d_L_law_1028 : decode code 1028 = .ok (.aload_n 0, 1) := by decide +kernel
theorem d_L_law_1029 : decode code 1029 = .ok (.iload 4, 2) := by decide +kernel
theorem d_L_law_1031 : decode code 1031 = .ok (.iconst 4, 1) := by decide +kernel
theorem d_L_law_1032 : decode code 1032 = .ok (.iadd, 1) := by decide +kernel
theorem d_L_law_1033 : decode code 1033 = .ok (.iaload, 1) := by decide +kernel
theorem d_L_law_1034 : decode code 1034 = .ok (.i2l, 1) := by decide +kernel
theorem d_L_law_1035 : decode code 1035 = .ok (.ldc2_w 99, 3) := by decide +kernel
theorem d_L_law_1038 : decode code 1038 = .ok (.land, 1) := by decide +kernel
theorem d_L_law_1039 : decode code 1039 = .ok (.lor, 1) := by decide +kernel
theorem d_L_law_1040 : decode code 1040 = .ok (.aload_n 0, 1) := by decide +kernel
theorem d_L_law_1041 : decode code 1041 = .ok (.iload 4, 2) := by decide +kernel
theorem d_L_law_1043 : decode code 1043 = .ok (.iconst 5, 1) := by decide +kernel
theorem d_L_law_1044 : decode code 1044 = .ok (.iadd, 1) := by decide +kernel
theorem d_L_law_1045 : decode code 1045 = .ok (.iaload, 1) := by decide +kernel
theorem d_L_law_1046 : decode code 1046 = .ok (.invokevirtual 130, 3) := by decide +kernel
theorem d_L_law_1049 : decode code 1049 = .ok (.istore 6, 2) := by decide +kernel
theorem d_L_law_1051 : decode code 1051 = .ok (.aload_n 2, 1) := by decide +kernel
theorem d_L_law_1052 : decode code 1052 = .ok (.invokevirtual 91, 3) := by decide +kernel
theorem d_L_law_1055 : decode code 1055 = .ok (.iload 5, 2) := by decide +kernel
theorem d_L_law_1057 : decode code 1057 = .ok (.if_icmp .eq 5, 3) := by decide +kernel
theorem d_L_law_1060 : decode code 1060 = .ok (.iconst 0, 1) := by decide +kernel
theorem d_L_law_1061 : decode code 1061 = .ok (.ireturn, 1) := by decide +kernel
theorem d_L_law_1062 : decode code 1062 = .ok (.iload 5, 2) := by decide +kernel
theorem d_L_law_1064 : decode code 1064 = .ok (.ifCond .ne 22, 3) := by decide +kernel
theorem d_L_law_1067 : decode code 1067 = .ok (.aload_n 3, 1) := by decide +kernel
theorem d_L_law_1068 : decode code 1068 = .ok (.iconst 0, 1) := by decide +kernel
theorem d_L_law_1069 : decode code 1069 = .ok (.laload, 1) := by decide +kernel
theorem d_L_law_1070 : decode code 1070 = .ok (.iload 6, 2) := by decide +kernel
theorem d_L_law_1072 : decode code 1072 = .ok (.ifCond .eq 7, 3) := by decide +kernel
theorem d_L_law_1075 : decode code 1075 = .ok (.lconst 1, 1) := by decide +kernel
theorem d_L_law_1076 : decode code 1076 = .ok (.goto 4, 3) := by decide +kernel
theorem d_L_law_1079 : decode code 1079 = .ok (.lconst 0, 1) := by decide +kernel
theorem d_L_law_1080 : decode code 1080 = .ok (.lcmp, 1) := by decide +kernel
theorem d_L_law_1081 : decode code 1081 = .ok (.ifCond .eq 5, 3) := by decide +kernel
theorem d_L_law_1084 : decode code 1084 = .ok (.iconst 0, 1) := by decide +kernel
theorem d_L_law_1085 : decode code 1085 = .ok (.ireturn, 1) := by decide +kernel
theorem d_L_law_1086 : decode code 1086 = .ok (.goto 1034, 3) := by decide +kernel
theorem d_L_law_1089 : decode code 1089 = .ok (.aload_n 1, 1) := by decide +kernel
theorem d_L_law_1090 : decode code 1090 = .ok (.aload_n 0, 1) := by decide +kernel
theorem d_L_law_1091 : decode code 1091 = .ok (.iload 4, 2) := by decide +kernel
theorem d_L_law_1093 : decode code 1093 = .ok (.iconst 1, 1) := by decide +kernel
theorem d_L_law_1094 : decode code 1094 = .ok (.iadd, 1) := by decide +kernel
theorem d_L_law_1095 : decode code 1095 = .ok (.iaload, 1) := by decide +kernel
theorem d_L_law_1096 : decode code 1096 = .ok (.aload_n 0, 1) := by decide +kernel
theorem d_L_law_1097 : decode code 1097 = .ok (.iload 4, 2) := by decide +kernel
theorem d_L_law_1099 : decode code 1099 = .ok (.iconst 2, 1) := by decide +kernel
theorem d_L_law_1100 : decode code 1100 = .ok (.iadd, 1) := by decide +kernel
theorem d_L_law_1101 : decode code 1101 = .ok (.iaload, 1) := by decide +kernel
theorem d_L_law_1102 : decode code 1102 = .ok (.i2l, 1) := by decide +kernel
theorem d_L_law_1103 : decode code 1103 = .ok (.bipush 32, 2) := by decide +kernel
theorem d_L_law_1105 : decode code 1105 = .ok (.lshl, 1) := by decide +kernel
theorem d_L_law_1106 : decode code 1106 = .ok (.aload_n 0, 1) := by decide +kernel
theorem d_L_law_1107 : decode code 1107 = .ok (.iload 4, 2) := by decide +kernel
theorem d_L_law_1109 : decode code 1109 = .ok (.iconst 3, 1) := by decide +kernel
theorem d_L_law_1110 : decode code 1110 = .ok (.iadd, 1) := by decide +kernel
theorem d_L_law_1111 : decode code 1111 = .ok (.iaload, 1) := by decide +kernel
theorem d_L_law_1112 : decode code 1112 = .ok (.i2l, 1) := by decide +kernel
theorem d_L_law_1113 : decode code 1113 = .ok (.ldc2_w 99, 3) := by decide +kernel
theorem d_L_law_1116 : decode code 1116 = .ok (.land, 1) := by decide +kernel
