theorem d_Law_law_713 : decode b_Law_law 713 = .ok (.iadd, 1) := by decide +kernel
theorem d_Law_law_714 : decode b_Law_law 714 = .ok (.iaload, 1) := by decide +kernel
theorem d_Law_law_715 : decode b_Law_law 715 = .ok (.i2l, 1) := by decide +kernel
theorem d_Law_law_716 : decode b_Law_law 716 = .ok (.ldc2_w 19, 3) := by decide +kernel
theorem d_Law_law_719 : decode b_Law_law 719 = .ok (.land, 1) := by decide +kernel
theorem d_Law_law_720 : decode b_Law_law 720 = .ok (.lor, 1) := by decide +kernel
theorem d_Law_law_721 : decode b_Law_law 721 = .ok (.invokevirtual 60, 3) := by decide +kernel
theorem d_Law_law_724 : decode b_Law_law 724 = .ok (.aload_n 2, 1) := by decide +kernel
theorem d_Law_law_725 : decode b_Law_law 725 = .ok (.aload_n 0, 1) := by decide +kernel
theorem d_Law_law_726 : decode b_Law_law 726 = .ok (.iload 4, 2) := by decide +kernel
theorem d_Law_law_728 : decode b_Law_law 728 = .ok (.iconst 1, 1) := by decide +kernel
theorem d_Law_law_729 : decode b_Law_law 729 = .ok (.iadd, 1) := by decide +kernel
theorem d_Law_law_730 : decode b_Law_law 730 = .ok (.iaload, 1) := by decide +kernel
theorem d_Law_law_731 : decode b_Law_law 731 = .ok (.i2l, 1) := by decide +kernel
theorem d_Law_law_732 : decode b_Law_law 732 = .ok (.bipush 32, 2) := by decide +kernel
theorem d_Law_law_734 : decode b_Law_law 734 = .ok (.lshl, 1) := by decide +kernel
theorem d_Law_law_735 : decode b_Law_law 735 = .ok (.aload_n 0, 1) := by decide +kernel
theorem d_Law_law_736 : decode b_Law_law 736 = .ok (.iload 4, 2) := by decide +kernel
theorem d_Law_law_738 : decode b_Law_law 738 = .ok (.iconst 2, 1) := by decide +kernel
theorem d_Law_law_739 : decode b_Law_law 739 = .ok (.iadd, 1) := by decide +kernel
theorem d_Law_law_740 : decode b_Law_law 740 = .ok (.iaload, 1) := by decide +kernel
theorem d_Law_law_741 : decode b_Law_law 741 = .ok (.i2l, 1) := by decide +kernel
theorem d_Law_law_742 : decode b_Law_law 742 = .ok (.ldc2_w 19, 3) := by decide +kernel
theorem d_Law_law_745 : decode b_Law_law 745 = .ok (.land, 1) := by decide +kernel
theorem d_Law_law_746 : decode b_Law_law 746 = .ok (.lor, 1) := by decide +kernel
theorem d_Law_law_747 : decode b_Law_law 747 = .ok (.invokevirtual 64, 3) := by decide +kernel
theorem d_Law_law_750 : decode b_Law_law 750 = .ok (.lcmp, 1) := by decide +kernel
theorem d_Law_law_751 : decode b_Law_law 751 = .ok (.ifCond .eq 253, 3) := by decide +kernel
theorem d_Law_law_754 : decode b_Law_law 754 = .ok (.iconst 0, 1) := by decide +kernel
theorem d_Law_law_755 : decode b_Law_law 755 = .ok (.ireturn, 1) := by decide +kernel
theorem d_Law_law_756 : decode b_Law_law 756 = .ok (.aload_n 1, 1) := by decide +kernel
theorem d_Law_law_757 : decode b_Law_law 757 = .ok (.aload_n 0, 1) := by decide +kernel
theorem d_Law_law_758 : decode b_Law_law 758 = .ok (.iload 4, 2) := by decide +kernel
theorem d_Law_law_760 : decode b_Law_law 760 = .ok (.iconst 1, 1) := by decide +kernel
theorem d_Law_law_761 : decode b_Law_law 761 = .ok (.iadd, 1) := by decide +kernel
theorem d_Law_law_762 : decode b_Law_law 762 = .ok (.iaload, 1) := by decide +kernel
theorem d_Law_law_763 : decode b_Law_law 763 = .ok (.aload_n 0, 1) := by decide +kernel
theorem d_Law_law_764 : decode b_Law_law 764 = .ok (.iload 4, 2) := by decide +kernel
theorem d_Law_law_766 : decode b_Law_law 766 = .ok (.iconst 2, 1) := by decide +kernel
theorem d_Law_law_767 : decode b_Law_law 767 = .ok (.iadd, 1) := by decide +kernel
theorem d_Law_law_768 : decode b_Law_law 768 = .ok (.iaload, 1) := by decide +kernel
theorem d_Law_law_769 : decode b_Law_law 769 = .ok (.i2l, 1) := by decide +kernel
theorem d_Law_law_770 : decode b_Law_law 770 = .ok (.bipush 32, 2) := by decide +kernel
theorem d_Law_law_772 : decode b_Law_law 772 = .ok (.lshl, 1) := by decide +kernel
theorem d_Law_law_773 : decode b_Law_law 773 = .ok (.aload_n 0, 1) := by decide +kernel
theorem d_Law_law_774 : decode b_Law_law 774 = .ok (.iload 4, 2) := by decide +kernel
theorem d_Law_law_776 : decode b_Law_law 776 = .ok (.iconst 3, 1) := by decide +kernel
theorem d_Law_law_777 : decode b_Law_law 777 = .ok (.iadd, 1) := by decide +kernel
theorem d_Law_law_778 : decode b_Law_law 778 = .ok (.iaload, 1) := by decide +kernel
theorem d_Law_law_779 : decode b_Law_law 779 = .ok (.i2l, 1) := by decide +kernel
theorem d_Law_law_780 : decode b_Law_law 780 = .ok (.ldc2_w 19, 3) := by decide +kernel
theorem d_Law_law_783 : decode b_Law_law 783 = .ok (.land, 1) := by decide +kernel
theorem d_Law_law_784 : decode b_Law_law 784 = .ok (.lor, 1) := by decide +kernel
theorem d_Law_law_785 : decode b_Law_law 785 = .ok (.invokevirtual 65, 3) := by decide +kernel
theorem d_Law_law_788 : decode b_Law_law 788 = .ok (.pop, 1) := by decide +kernel
theorem d_Law_law_789 : decode b_Law_law 789 = .ok (.aload_n 2, 1) := by decide +kernel
theorem d_Law_law_790 : decode b_Law_law 790 = .ok (.aload_n 0, 1) := by decide +kernel
theorem d_Law_law_791 : decode b_Law_law 791 = .ok (.iload 4, 2) := by decide +kernel
theorem d_Law_law_793 : decode b_Law_law 793 = .ok (.iconst 1, 1) := by decide +kernel
theorem d_Law_law_794 : decode b_Law_law 794 = .ok (.iadd, 1) := by decide +kernel
theorem d_Law_law_795 : decode b_Law_law 795 = .ok (.iaload, 1) := by decide +kernel
theorem d_Law_law_796 : decode b_Law_law 796 = .ok (.aload_n 0, 1) := by decide +kernel
theorem d_Law_law_797 : decode b_Law_law 797 = .ok (.iload 4, 2) := by decide +kernel
theorem d_Law_law_799 : decode b_Law_law 799 = .ok (.iconst 2, 1) := by decide +kernel
theorem d_Law_law_800 : decode b_Law_law 800 = .ok (.iadd, 1) := by decide +kernel
theorem d_Law_law_801 : decode b_Law_law 801 = .ok (.iaload, 1) := by decide +kernel
theorem d_Law_law_802 : decode b_Law_law 802 = .ok (.i2l, 1) := by decide +kernel
theorem d_Law_law_803 : decode b_Law_law 803 = .ok (.bipush 32, 2) := by decide +kernel
theorem d_Law_law_805 : decode b_Law_law 805 = .ok (.lshl, 1) := by decide +kernel
theorem d_Law_law_806 : decode b_Law_law 806 = .ok (.aload_n 0, 1) := by decide +kernel
theorem d_Law_law_807 : decode b_Law_law 807 = .ok (.iload 4, 2) := by decide +kernel
theorem d_Law_law_809 : decode b_Law_law 809 = .ok (.iconst 3, 1) := by decide +kernel
theorem d_Law_law_810 : decode b_Law_law 810 = .ok (.iadd, 1) := by decide +kernel
theorem d_Law_law_811 : decode b_Law_law 811 = .ok (.iaload, 1) := by decide +kernel
theorem d_Law_law_812 : decode b_Law_law 812 = .ok (.i2l, 1) := by decide +kernel
theorem d_Law_law_813 : decode b_Law_law 813 = .ok (.ldc2_w 19, 3) := by decide +kernel
theorem d_Law_law_816 : decode b_Law_law 816 = .ok (.land, 1) := by decide +kernel
theorem d_Law_law_817 : decode b_Law_law 817 = .ok (.lor, 1) := by decide +kernel
theorem d_Law_law_818 : decode b_Law_law 818 = .ok (.invokevirtual 69, 3) := by decide +kernel
theorem d_Law_law_821 : decode b_Law_law 821 = .ok (.pop, 1) := by decide +kernel
theorem d_Law_law_822 : decode b_Law_law 822 = .ok (.goto 182, 3) := by decide +kernel
theorem d_Law_law_825 : decode b_Law_law 825 = .ok (.aload_n 1, 1) := by decide +kernel
theorem d_Law_law_826 : decode b_Law_law 826 = .ok (.aload_n 0, 1) := by decide +kernel
theorem d_Law_law_827 : decode b_Law_law 827 = .ok (.iload 4, 2) := by decide +kernel
theorem d_Law_law_829 : decode b_Law_law 829 = .ok (.iconst 1, 1) := by decide +kernel
theorem d_Law_law_830 : decode b_Law_law 830 = .ok (.iadd, 1) := by decide +kernel
theorem d_Law_law_831 : decode b_Law_law 831 = .ok (.iaload, 1) := by decide +kernel
theorem d_Law_law_832 : decode b_Law_law 832 = .ok (.invokevirtual 70, 3) := by decide +kernel
theorem d_Law_law_835 : decode b_Law_law 835 = .ok (.pop, 1) := by decide +kernel
theorem d_Law_law_836 : decode b_Law_law 836 = .ok (.aload_n 2, 1) := by decide +kernel
theorem d_Law_law_837 : decode b_Law_law 837 = .ok (.aload_n 0, 1) := by decide +kernel
theorem d_Law_law_838 : decode b_Law_law 838 = .ok (.iload 4, 2) := by decide +kernel
theorem d_Law_law_840 : decode b_Law_law 840 = .ok (.iconst 1, 1) := by decide +kernel
theorem d_Law_law_841 : decode b_Law_law 841 = .ok (.iadd, 1) := by decide +kernel
theorem d_Law_law_842 : decode b_Law_law 842 = .ok (.iaload, 1) := by decide +kernel
theorem d_Law_law_843 : decode b_Law_law 843 = .ok (.invokevirtual 74, 3) := by decide +kernel
theorem d_Law_law_846 : decode b_Law_law 846 = .ok (.pop, 1) := by decide +kernel
theorem d_Law_law_847 : decode b_Law_law 847 = .ok (.goto 157, 3) := by decide +kernel
theorem d_Law_law_850 : decode b_Law_law 850 = .ok (.aload_n 1, 1) := by decide +kernel
theorem d_Law_law_851 : decode b_Law_law 851 = .ok (.aload_n 0, 1) := by decide +kernel
theorem d_Law_law_852 : decode b_Law_law 852 = .ok (.iload 4, 2) := by decide +kernel
theorem d_Law_law_854 : decode b_Law_law 854 = .ok (.iconst 1, 1) := by decide +kernel
theorem d_Law_law_855 : decode b_Law_law 855 = .ok (.iadd, 1) := by decide +kernel
theorem d_Law_law_856 : decode b_Law_law 856 = .ok (.iaload, 1) := by decide +kernel
theorem d_Law_law_857 : decode b_Law_law 857 = .ok (.aload_n 0, 1) := by decide +kernel
theorem d_Law_law_858 : decode b_Law_law 858 = .ok (.iload 4, 2) := by decide +kernel
theorem d_Law_law_860 : decode b_Law_law 860 = .ok (.iconst 2, 1) := by decide +kernel
theorem d_Law_law_861 : decode b_Law_law 861 = .ok (.iadd, 1) := by decide +kernel
theorem d_Law_law_862 : decode b_Law_law 862 = .ok (.iaload, 1) := by decide +kernel
theorem d_Law_law_863 : decode b_Law_law 863 = .ok (.i2l, 1) := by decide +kernel
theorem d_Law_law_864 : decode b_Law_law 864 = .ok (.bipush 32, 2) := by decide +kernel
theorem d_Law_law_866 : decode b_Law_law 866 = .ok (.lshl, 1) := by decide +kernel
theorem d_Law_law_867 : decode b_Law_law 867 = .ok (.aload_n 0, 1) := by decide +kernel
theorem d_Law_law_868 : decode b_Law_law 868 = .ok (.iload 4, 2) := by decide +kernel
theorem d_Law_law_870 : decode b_Law_law 870 = .ok (.iconst 3, 1) := by decide +kernel
theorem d_Law_law_871 : decode b_Law_law 871 = .ok (.iadd, 1) := by decide +kernel
theorem d_Law_law_872 : decode b_Law_law 872 = .ok (.iaload, 1) := by decide +kernel
theorem d_Law_law_873 : decode b_Law_law 873 = .ok (.i2l, 1) := by decide +kernel
theorem d_Law_law_874 : decode b_Law_law 874 = .ok (.ldc2_w 19, 3) := by decide +kernel
theorem d_Law_law_877 : decode b_Law_law 877 = .ok (.land, 1) := by decide +kernel
theorem d_Law_law_878 : decode b_Law_law 878 = .ok (.lor, 1) := by decide +kernel
theorem d_Law_law_879 : decode b_Law_law 879 = .ok (.aload_n 0, 1) := by decide +kernel
theorem d_Law_law_880 : decode b_Law_law 880 = .ok (.iload 4, 2) := by decide +kernel
theorem d_Law_law_882 : decode b_Law_law 882 = .ok (.iconst 4, 1) := by decide +kernel
theorem d_Law_law_883 : decode b_Law_law 883 = .ok (.iadd, 1) := by decide +kernel
theorem d_Law_law_884 : decode b_Law_law 884 = .ok (.iaload, 1) := by decide +kernel
theorem d_Law_law_885 : decode b_Law_law 885 = .ok (.aload_n 3, 1) := by decide +kernel
theorem d_Law_law_886 : decode b_Law_law 886 = .ok (.invokestatic 75, 3) := by decide +kernel
theorem d_Law_law_889 : decode b_Law_law 889 = .ok (.istore 5, 2) := by decide +kernel
theorem d_Law_law_891 : decode b_Law_law 891 = .ok (.aload_n 2, 1) := by decide +kernel
theorem d_Law_law_892 : decode b_Law_law 892 = .ok (.aload_n 0, 1) := by decide +kernel
theorem d_Law_law_893 : decode b_Law_law 893 = .ok (.iload 4, 2) := by decide +kernel
theorem d_Law_law_895 : decode b_Law_law 895 = .ok (.iconst 1, 1) := by decide +kernel
theorem d_Law_law_896 : decode b_Law_law 896 = .ok (.iadd, 1) := by decide +kernel
theorem d_Law_law_897 : decode b_Law_law 897 = .ok (.iaload, 1) := by decide +kernel
theorem d_Law_law_898 : decode b_Law_law 898 = .ok (.aload_n 0, 1) := by decide +kernel
theorem d_Law_law_899 : decode b_Law_law 899 = .ok (.iload 4, 2) := by decide +kernel
theorem d_Law_law_901 : decode b_Law_law 901 = .ok (.iconst 2, 1) := by decide +kernel
theorem d_Law_law_902 : decode b_Law_law 902 = .ok (.iadd, 1) := by decide +kernel
theorem d_Law_law_903 : decode b_Law_law 903 = .ok (.iaload, 1) := by decide +kernel
theorem d_Law_law_904 : decode b_Law_law 904 = .ok (.i2l, 1) := by decide +kernel
theorem d_Law_law_905 : decode b_Law_law 905 = .ok (.bipush 32, 2) := by decide +kernel
theorem d_Law_law_907 : decode b_Law_law 907 = .ok (.lshl, 1) := by decide +kernel
theorem d_Law_law_908 : decode b_Law_law 908 = .ok (.aload_n 0, 1) := by decide +kernel
theorem d_Law_law_909 : decode b_Law_law 909 = .ok (.iload 4, 2) := by decide +kernel
theorem d_Law_law_911 : decode b_Law_law 911 = .ok (.iconst 3, 1) := by decide +kernel
theorem d_Law_law_912 : decode b_Law_law 912 = .ok (.iadd, 1) := by decide +kernel
theorem d_Law_law_913 : decode b_Law_law 913 = .ok (.iaload, 1) := by decide +kernel
theorem d_Law_law_914 : decode b_Law_law 914 = .ok (.i2l, 1) := by decide +kernel
theorem d_Law_law_915 : decode b_Law_law 915 = .ok (.ldc2_w 19, 3) := by decide +kernel
theorem d_Law_law_918 : decode b_Law_law 918 = .ok (.land, 1) := by decide +kernel
theorem d_Law_law_919 : decode b_Law_law 919 = .ok (.lor, 1) := by decide +kernel
theorem d_Law_law_920 : decode b_Law_law 920 = .ok (.aload_n 0, 1) := by decide +kernel
theorem d_Law_law_921 : decode b_Law_law 921 = .ok (.iload 4, 2) := by decide +kernel
theorem d_Law_law_923 : decode b_Law_law 923 = .ok (.iconst 4, 1) := by decide +kernel
theorem d_Law_law_924 : decode b_Law_law 924 = .ok (.iadd, 1) := by decide +kernel
theorem d_Law_law_925 : decode b_Law_law 925 = .ok (.iaload, 1) := by decide +kernel
theorem d_Law_law_926 : decode b_Law_law 926 = .ok (.invokevirtual 80, 3) := by decide +kernel
theorem d_Law_law_929 : decode b_Law_law 929 = .ok (.lstore 6, 2) := by decide +kernel
theorem d_Law_law_931 : decode b_Law_law 931 = .ok (.goto 73, 3) := by decide +kernel
