theorem d_Law_law_713 : decode b_Law_law 713 = .ok (.iadd, 1) := by decide +kernel
theorem d_Law_law_714 : decode b_Law_law 714 = .ok (.iaload, 1) := by decide +kernel
theorem d_Law_law_715 : decode b_Law_law 715 = .ok (.i2l, 1) := by decide +kernel
theorem d_Law_law_716 : decode b_Law_law 716 = .ok (.ldc2_w 19, 3) := by decide +kernel
theorem d_Law_law_719 : decode b_Law_law 719 = .ok (.land, 1) := by decide +kernel
theorem d_Law_law_720 : decode b_Law_law 720 = .ok (.lor, 1) := by decide +kernel
theorem d_Law_law_721 : decode b_Law_law 721 = .ok (.invokevirtual 60, 3) := by decide +kernel
theorem d_Law_law_724 : decode b_Law_law 724 = .ok (.pop2, 1) := by decide +kernel
theorem d_Law_law_725 : decode b_Law_law 725 = .ok (.aload_n 2, 1) := by decide +kernel
theorem d_Law_law_726 : decode b_Law_law 726 = .ok (.aload_n 0, 1) := by decide +kernel
theorem d_Law_law_727 : decode b_Law_law 727 = .ok (.iload 4, 2) := by decide +kernel
theorem d_Law_law_729 : decode b_Law_law 729 = .ok (.iconst 1, 1) := by decide +kernel
theorem d_Law_law_730 : decode b_Law_law 730 = .ok (.iadd, 1) := by decide +kernel
theorem d_Law_law_731 : decode b_Law_law 731 = .ok (.iaload, 1) := by decide +kernel
theorem d_Law_law_732 : decode b_Law_law 732 = .ok (.i2l, 1) := by decide +kernel
theorem d_Law_law_733 : decode b_Law_law 733 = .ok (.bipush 32, 2) := by decide +kernel
theorem d_Law_law_735 : decode b_Law_law 735 = .ok (.lshl, 1) := by decide +kernel
theorem d_Law_law_736 : decode b_Law_law 736 = .ok (.aload_n 0, 1) := by decide +kernel
theorem d_Law_law_737 : decode b_Law_law 737 = .ok (.iload 4, 2) := by decide +kernel
theorem d_Law_law_739 : decode b_Law_law 739 = .ok (.iconst 2, 1) := by decide +kernel
theorem d_Law_law_740 : decode b_Law_law 740 = .ok (.iadd, 1) := by decide +kernel
theorem d_Law_law_741 : decode b_Law_law 741 = .ok (.iaload, 1) := by decide +kernel
theorem d_Law_law_742 : decode b_Law_law 742 = .ok (.i2l, 1) := by decide +kernel
theorem d_Law_law_743 : decode b_Law_law 743 = .ok (.ldc2_w 19, 3) := by decide +kernel
theorem d_Law_law_746 : decode b_Law_law 746 = .ok (.land, 1) := by decide +kernel
theorem d_Law_law_747 : decode b_Law_law 747 = .ok (.lor, 1) := by decide +kernel
theorem d_Law_law_748 : decode b_Law_law 748 = .ok (.invokevirtual 64, 3) := by decide +kernel
theorem d_Law_law_751 : decode b_Law_law 751 = .ok (.pop2, 1) := by decide +kernel
theorem d_Law_law_752 : decode b_Law_law 752 = .ok (.goto 251, 3) := by decide +kernel
theorem d_Law_law_755 : decode b_Law_law 755 = .ok (.aload_n 1, 1) := by decide +kernel
theorem d_Law_law_756 : decode b_Law_law 756 = .ok (.aload_n 0, 1) := by decide +kernel
theorem d_Law_law_757 : decode b_Law_law 757 = .ok (.iload 4, 2) := by decide +kernel
theorem d_Law_law_759 : decode b_Law_law 759 = .ok (.iconst 1, 1) := by decide +kernel
theorem d_Law_law_760 : decode b_Law_law 760 = .ok (.iadd, 1) := by decide +kernel
theorem d_Law_law_761 : decode b_Law_law 761 = .ok (.iaload, 1) := by decide +kernel
theorem d_Law_law_762 : decode b_Law_law 762 = .ok (.aload_n 0, 1) := by decide +kernel
theorem d_Law_law_763 : decode b_Law_law 763 = .ok (.iload 4, 2) := by decide +kernel
theorem d_Law_law_765 : decode b_Law_law 765 = .ok (.iconst 2, 1) := by decide +kernel
theorem d_Law_law_766 : decode b_Law_law 766 = .ok (.iadd, 1) := by decide +kernel
theorem d_Law_law_767 : decode b_Law_law 767 = .ok (.iaload, 1) := by decide +kernel
theorem d_Law_law_768 : decode b_Law_law 768 = .ok (.i2l, 1) := by decide +kernel
theorem d_Law_law_769 : decode b_Law_law 769 = .ok (.bipush 32, 2) := by decide +kernel
theorem d_Law_law_771 : decode b_Law_law 771 = .ok (.lshl, 1) := by decide +kernel
theorem d_Law_law_772 : decode b_Law_law 772 = .ok (.aload_n 0, 1) := by decide +kernel
theorem d_Law_law_773 : decode b_Law_law 773 = .ok (.iload 4, 2) := by decide +kernel
theorem d_Law_law_775 : decode b_Law_law 775 = .ok (.iconst 3, 1) := by decide +kernel
theorem d_Law_law_776 : decode b_Law_law 776 = .ok (.iadd, 1) := by decide +kernel
theorem d_Law_law_777 : decode b_Law_law 777 = .ok (.iaload, 1) := by decide +kernel
theorem d_Law_law_778 : decode b_Law_law 778 = .ok (.i2l, 1) := by decide +kernel
theorem d_Law_law_779 : decode b_Law_law 779 = .ok (.ldc2_w 19, 3) := by decide +kernel
theorem d_Law_law_782 : decode b_Law_law 782 = .ok (.land, 1) := by decide +kernel
theorem d_Law_law_783 : decode b_Law_law 783 = .ok (.lor, 1) := by decide +kernel
theorem d_Law_law_784 : decode b_Law_law 784 = .ok (.invokevirtual 65, 3) := by decide +kernel
theorem d_Law_law_787 : decode b_Law_law 787 = .ok (.pop, 1) := by decide +kernel
theorem d_Law_law_788 : decode b_Law_law 788 = .ok (.aload_n 2, 1) := by decide +kernel
theorem d_Law_law_789 : decode b_Law_law 789 = .ok (.aload_n 0, 1) := by decide +kernel
theorem d_Law_law_790 : decode b_Law_law 790 = .ok (.iload 4, 2) := by decide +kernel
theorem d_Law_law_792 : decode b_Law_law 792 = .ok (.iconst 1, 1) := by decide +kernel
theorem d_Law_law_793 : decode b_Law_law 793 = .ok (.iadd, 1) := by decide +kernel
theorem d_Law_law_794 : decode b_Law_law 794 = .ok (.iaload, 1) := by decide +kernel
theorem d_Law_law_795 : decode b_Law_law 795 = .ok (.aload_n 0, 1) := by decide +kernel
theorem d_Law_law_796 : decode b_Law_law 796 = .ok (.iload 4, 2) := by decide +kernel
theorem d_Law_law_798 : decode b_Law_law 798 = .ok (.iconst 2, 1) := by decide +kernel
theorem d_Law_law_799 : decode b_Law_law 799 = .ok (.iadd, 1) := by decide +kernel
theorem d_Law_law_800 : decode b_Law_law 800 = .ok (.iaload, 1) := by decide +kernel
theorem d_Law_law_801 : decode b_Law_law 801 = .ok (.i2l, 1) := by decide +kernel
theorem d_Law_law_802 : decode b_Law_law 802 = .ok (.bipush 32, 2) := by decide +kernel
theorem d_Law_law_804 : decode b_Law_law 804 = .ok (.lshl, 1) := by decide +kernel
theorem d_Law_law_805 : decode b_Law_law 805 = .ok (.aload_n 0, 1) := by decide +kernel
theorem d_Law_law_806 : decode b_Law_law 806 = .ok (.iload 4, 2) := by decide +kernel
theorem d_Law_law_808 : decode b_Law_law 808 = .ok (.iconst 3, 1) := by decide +kernel
theorem d_Law_law_809 : decode b_Law_law 809 = .ok (.iadd, 1) := by decide +kernel
theorem d_Law_law_810 : decode b_Law_law 810 = .ok (.iaload, 1) := by decide +kernel
theorem d_Law_law_811 : decode b_Law_law 811 = .ok (.i2l, 1) := by decide +kernel
theorem d_Law_law_812 : decode b_Law_law 812 = .ok (.ldc2_w 19, 3) := by decide +kernel
theorem d_Law_law_815 : decode b_Law_law 815 = .ok (.land, 1) := by decide +kernel
theorem d_Law_law_816 : decode b_Law_law 816 = .ok (.lor, 1) := by decide +kernel
theorem d_Law_law_817 : decode b_Law_law 817 = .ok (.invokevirtual 69, 3) := by decide +kernel
theorem d_Law_law_820 : decode b_Law_law 820 = .ok (.pop, 1) := by decide +kernel
theorem d_Law_law_821 : decode b_Law_law 821 = .ok (.goto 182, 3) := by decide +kernel
theorem d_Law_law_824 : decode b_Law_law 824 = .ok (.aload_n 1, 1) := by decide +kernel
theorem d_Law_law_825 : decode b_Law_law 825 = .ok (.aload_n 0, 1) := by decide +kernel
theorem d_Law_law_826 : decode b_Law_law 826 = .ok (.iload 4, 2) := by decide +kernel
theorem d_Law_law_828 : decode b_Law_law 828 = .ok (.iconst 1, 1) := by decide +kernel
theorem d_Law_law_829 : decode b_Law_law 829 = .ok (.iadd, 1) := by decide +kernel
theorem d_Law_law_830 : decode b_Law_law 830 = .ok (.iaload, 1) := by decide +kernel
theorem d_Law_law_831 : decode b_Law_law 831 = .ok (.invokevirtual 70, 3) := by decide +kernel
theorem d_Law_law_834 : decode b_Law_law 834 = .ok (.pop, 1) := by decide +kernel
theorem d_Law_law_835 : decode b_Law_law 835 = .ok (.aload_n 2, 1) := by decide +kernel
theorem d_Law_law_836 : decode b_Law_law 836 = .ok (.aload_n 0, 1) := by decide +kernel
theorem d_Law_law_837 : decode b_Law_law 837 = .ok (.iload 4, 2) := by decide +kernel
theorem d_Law_law_839 : decode b_Law_law 839 = .ok (.iconst 1, 1) := by decide +kernel
theorem d_Law_law_840 : decode b_Law_law 840 = .ok (.iadd, 1) := by decide +kernel
theorem d_Law_law_841 : decode b_Law_law 841 = .ok (.iaload, 1) := by decide +kernel
theorem d_Law_law_842 : decode b_Law_law 842 = .ok (.invokevirtual 74, 3) := by decide +kernel
theorem d_Law_law_845 : decode b_Law_law 845 = .ok (.pop, 1) := by decide +kernel
theorem d_Law_law_846 : decode b_Law_law 846 = .ok (.goto 157, 3) := by decide +kernel
theorem d_Law_law_849 : decode b_Law_law 849 = .ok (.aload_n 1, 1) := by decide +kernel
theorem d_Law_law_850 : decode b_Law_law 850 = .ok (.aload_n 0, 1) := by decide +kernel
theorem d_Law_law_851 : decode b_Law_law 851 = .ok (.iload 4, 2) := by decide +kernel
theorem d_Law_law_853 : decode b_Law_law 853 = .ok (.iconst 1, 1) := by decide +kernel
theorem d_Law_law_854 : decode b_Law_law 854 = .ok (.iadd, 1) := by decide +kernel
theorem d_Law_law_855 : decode b_Law_law 855 = .ok (.iaload, 1) := by decide +kernel
theorem d_Law_law_856 : decode b_Law_law 856 = .ok (.aload_n 0, 1) := by decide +kernel
theorem d_Law_law_857 : decode b_Law_law 857 = .ok (.iload 4, 2) := by decide +kernel
theorem d_Law_law_859 : decode b_Law_law 859 = .ok (.iconst 2, 1) := by decide +kernel
theorem d_Law_law_860 : decode b_Law_law 860 = .ok (.iadd, 1) := by decide +kernel
theorem d_Law_law_861 : decode b_Law_law 861 = .ok (.iaload, 1) := by decide +kernel
theorem d_Law_law_862 : decode b_Law_law 862 = .ok (.i2l, 1) := by decide +kernel
theorem d_Law_law_863 : decode b_Law_law 863 = .ok (.bipush 32, 2) := by decide +kernel
theorem d_Law_law_865 : decode b_Law_law 865 = .ok (.lshl, 1) := by decide +kernel
theorem d_Law_law_866 : decode b_Law_law 866 = .ok (.aload_n 0, 1) := by decide +kernel
theorem d_Law_law_867 : decode b_Law_law 867 = .ok (.iload 4, 2) := by decide +kernel
theorem d_Law_law_869 : decode b_Law_law 869 = .ok (.iconst 3, 1) := by decide +kernel
theorem d_Law_law_870 : decode b_Law_law 870 = .ok (.iadd, 1) := by decide +kernel
theorem d_Law_law_871 : decode b_Law_law 871 = .ok (.iaload, 1) := by decide +kernel
theorem d_Law_law_872 : decode b_Law_law 872 = .ok (.i2l, 1) := by decide +kernel
theorem d_Law_law_873 : decode b_Law_law 873 = .ok (.ldc2_w 19, 3) := by decide +kernel
theorem d_Law_law_876 : decode b_Law_law 876 = .ok (.land, 1) := by decide +kernel
theorem d_Law_law_877 : decode b_Law_law 877 = .ok (.lor, 1) := by decide +kernel
theorem d_Law_law_878 : decode b_Law_law 878 = .ok (.aload_n 0, 1) := by decide +kernel
theorem d_Law_law_879 : decode b_Law_law 879 = .ok (.iload 4, 2) := by decide +kernel
theorem d_Law_law_881 : decode b_Law_law 881 = .ok (.iconst 4, 1) := by decide +kernel
theorem d_Law_law_882 : decode b_Law_law 882 = .ok (.iadd, 1) := by decide +kernel
theorem d_Law_law_883 : decode b_Law_law 883 = .ok (.iaload, 1) := by decide +kernel
theorem d_Law_law_884 : decode b_Law_law 884 = .ok (.aload_n 3, 1) := by decide +kernel
theorem d_Law_law_885 : decode b_Law_law 885 = .ok (.invokestatic 75, 3) := by decide +kernel
theorem d_Law_law_888 : decode b_Law_law 888 = .ok (.istore 5, 2) := by decide +kernel
theorem d_Law_law_890 : decode b_Law_law 890 = .ok (.aload_n 2, 1) := by decide +kernel
theorem d_Law_law_891 : decode b_Law_law 891 = .ok (.aload_n 0, 1) := by decide +kernel
theorem d_Law_law_892 : decode b_Law_law 892 = .ok (.iload 4, 2) := by decide +kernel
theorem d_Law_law_894 : decode b_Law_law 894 = .ok (.iconst 1, 1) := by decide +kernel
theorem d_Law_law_895 : decode b_Law_law 895 = .ok (.iadd, 1) := by decide +kernel
theorem d_Law_law_896 : decode b_Law_law 896 = .ok (.iaload, 1) := by decide +kernel
theorem d_Law_law_897 : decode b_Law_law 897 = .ok (.aload_n 0, 1) := by decide +kernel
theorem d_Law_law_898 : decode b_Law_law 898 = .ok (.iload 4, 2) := by decide +kernel
theorem d_Law_law_900 : decode b_Law_law 900 = .ok (.iconst 2, 1) := by decide +kernel
theorem d_Law_law_901 : decode b_Law_law 901 = .ok (.iadd, 1) := by decide +kernel
theorem d_Law_law_902 : decode b_Law_law 902 = .ok (.iaload, 1) := by decide +kernel
theorem d_Law_law_903 : decode b_Law_law 903 = .ok (.i2l, 1) := by decide +kernel
theorem d_Law_law_904 : decode b_Law_law 904 = .ok (.bipush 32, 2) := by decide +kernel
theorem d_Law_law_906 : decode b_Law_law 906 = .ok (.lshl, 1) := by decide +kernel
theorem d_Law_law_907 : decode b_Law_law 907 = .ok (.aload_n 0, 1) := by decide +kernel
theorem d_Law_law_908 : decode b_Law_law 908 = .ok (.iload 4, 2) := by decide +kernel
theorem d_Law_law_910 : decode b_Law_law 910 = .ok (.iconst 3, 1) := by decide +kernel
theorem d_Law_law_911 : decode b_Law_law 911 = .ok (.iadd, 1) := by decide +kernel
theorem d_Law_law_912 : decode b_Law_law 912 = .ok (.iaload, 1) := by decide +kernel
theorem d_Law_law_913 : decode b_Law_law 913 = .ok (.i2l, 1) := by decide +kernel
theorem d_Law_law_914 : decode b_Law_law 914 = .ok (.ldc2_w 19, 3) := by decide +kernel
theorem d_Law_law_917 : decode b_Law_law 917 = .ok (.land, 1) := by decide +kernel
theorem d_Law_law_918 : decode b_Law_law 918 = .ok (.lor, 1) := by decide +kernel
theorem d_Law_law_919 : decode b_Law_law 919 = .ok (.aload_n 0, 1) := by decide +kernel
theorem d_Law_law_920 : decode b_Law_law 920 = .ok (.iload 4, 2) := by decide +kernel
theorem d_Law_law_922 : decode b_Law_law 922 = .ok (.iconst 4, 1) := by decide +kernel
theorem d_Law_law_923 : decode b_Law_law 923 = .ok (.iadd, 1) := by decide +kernel
theorem d_Law_law_924 : decode b_Law_law 924 = .ok (.iaload, 1) := by decide +kernel
theorem d_Law_law_925 : decode b_Law_law 925 = .ok (.invokevirtual 80, 3) := by decide +kernel
theorem d_Law_law_928 : decode b_Law_law 928 = .ok (.lstore 6, 2) := by decide +kernel
theorem d_Law_law_930 : decode b_Law_law 930 = .ok (.goto 73, 3) := by decide +kernel
theorem d_Law_law_933 : decode b_Law_law 933 = .ok (.aload_n 1, 1) := by decide +kernel
