theorem dL_law_708 : decode cL_law 708 = .ok (.aload_n 1, 1) := by decide +kernel
theorem dL_law_709 : decode cL_law 709 = .ok (.aload_n 0, 1) := by decide +kernel
theorem dL_law_710 : decode cL_law 710 = .ok (.iload_n 3, 1) := by decide +kernel
theorem dL_law_711 : decode cL_law 711 = .ok (.iconst 1, 1) := by decide +kernel
theorem dL_law_712 : decode cL_law 712 = .ok (.iadd, 1) := by decide +kernel
theorem dL_law_713 : decode cL_law 713 = .ok (.iaload, 1) := by decide +kernel
theorem dL_law_714 : decode cL_law 714 = .ok (.aload_n 0, 1) := by decide +kernel
theorem dL_law_715 : decode cL_law 715 = .ok (.iload_n 3, 1) := by decide +kernel
theorem dL_law_716 : decode cL_law 716 = .ok (.iconst 2, 1) := by decide +kernel
theorem dL_law_717 : decode cL_law 717 = .ok (.iadd, 1) := by decide +kernel
theorem dL_law_718 : decode cL_law 718 = .ok (.iaload, 1) := by decide +kernel
theorem dL_law_719 : decode cL_law 719 = .ok (.aload_n 0, 1) := by decide +kernel
theorem dL_law_720 : decode cL_law 720 = .ok (.iload_n 3, 1) := by decide +kernel
theorem dL_law_721 : decode cL_law 721 = .ok (.iconst 3, 1) := by decide +kernel
theorem dL_law_722 : decode cL_law 722 = .ok (.iadd, 1) := by decide +kernel
theorem dL_law_723 : decode cL_law 723 = .ok (.iaload, 1) := by decide +kernel
theorem dL_law_724 : decode cL_law 724 = .ok (.aload_n 0, 1) := by decide +kernel
theorem dL_law_725 : decode cL_law 725 = .ok (.iload_n 3, 1) := by decide +kernel
theorem dL_law_726 : decode cL_law 726 = .ok (.iconst 4, 1) := by decide +kernel
theorem dL_law_727 : decode cL_law 727 = .ok (.iadd, 1) := by decide +kernel
theorem dL_law_728 : decode cL_law 728 = .ok (.iaload, 1) := by decide +kernel
theorem dL_law_729 : decode cL_law 729 = .ok (.invokevirtual 113, 3) := by decide +kernel
theorem dL_law_732 : decode cL_law 732 = .ok (.aload_n 2, 1) := by decide +kernel
theorem dL_law_733 : decode cL_law 733 = .ok (.aload_n 0, 1) := by decide +kernel
theorem dL_law_734 : decode cL_law 734 = .ok (.iload_n 3, 1) := by decide +kernel
theorem dL_law_735 : decode cL_law 735 = .ok (.iconst 1, 1) := by decide +kernel
theorem dL_law_736 : decode cL_law 736 = .ok (.iadd, 1) := by decide +kernel
theorem dL_law_737 : decode cL_law 737 = .ok (.iaload, 1) := by decide +kernel
theorem dL_law_738 : decode cL_law 738 = .ok (.aload_n 0, 1) := by decide +kernel
theorem dL_law_739 : decode cL_law 739 = .ok (.iload_n 3, 1) := by decide +kernel
theorem dL_law_740 : decode cL_law 740 = .ok (.iconst 2, 1) := by decide +kernel
theorem dL_law_741 : decode cL_law 741 = .ok (.iadd, 1) := by decide +kernel
theorem dL_law_742 : decode cL_law 742 = .ok (.iaload, 1) := by decide +kernel
theorem dL_law_743 : decode cL_law 743 = .ok (.aload_n 0, 1) := by decide +kernel
theorem dL_law_744 : decode cL_law 744 = .ok (.iload_n 3, 1) := by decide +kernel
theorem dL_law_745 : decode cL_law 745 = .ok (.iconst 3, 1) := by decide +kernel
theorem dL_law_746 : decode cL_law 746 = .ok (.iadd, 1) := by decide +kernel
theorem dL_law_747 : decode cL_law 747 = .ok (.iaload, 1) := by decide +kernel
theorem dL_law_748 : decode cL_law 748 = .ok (.aload_n 0, 1) := by decide +kernel
theorem dL_law_749 : decode cL_law 749 = .ok (.iload_n 3, 1) := by decide +kernel
theorem dL_law_750 : decode cL_law 750 = .ok (.iconst 4, 1) := by decide +kernel
theorem dL_law_751 : decode cL_law 751 = .ok (.iadd, 1) := by decide +kernel
theorem dL_law_752 : decode cL_law 752 = .ok (.iaload, 1) := by decide +kernel
theorem dL_law_753 : decode cL_law 753 = .ok (.invokevirtual 117, 3) := by decide +kernel
theorem dL_law_756 : decode cL_law 756 = .ok (.if_icmp .eq 246, 3) := by decide +kernel
theorem dL_law_759 : decode cL_law 759 = .ok (.iconst 0, 1) := by decide +kernel
theorem dL_law_760 : decode cL_law 760 = .ok (.ireturn, 1) := by decide +kernel
theorem dL_law_761 : decode cL_law 761 = .ok (.aload_n 1, 1) := by decide +kernel
theorem dL_law_762 : decode cL_law 762 = .ok (.aload_n 0, 1) := by decide +kernel
theorem dL_law_763 : decode cL_law 763 = .ok (.iload_n 3, 1) := by decide +kernel
theorem dL_law_764 : decode cL_law 764 = .ok (.iconst 1, 1) := by decide +kernel
theorem dL_law_765 : decode cL_law 765 = .ok (.iadd, 1) := by decide +kernel
theorem dL_law_766 : decode cL_law 766 = .ok (.iaload, 1) := by decide +kernel
theorem dL_law_767 : decode cL_law 767 = .ok (.aload_n 0, 1) := by decide +kernel
theorem dL_law_768 : decode cL_law 768 = .ok (.iload_n 3, 1) := by decide +kernel
theorem dL_law_769 : decode cL_law 769 = .ok (.iconst 2, 1) := by decide +kernel
theorem dL_law_770 : decode cL_law 770 = .ok (.iadd, 1) := by decide +kernel
theorem dL_law_771 : decode cL_law 771 = .ok (.iaload, 1) := by decide +kernel
theorem dL_law_772 : decode cL_law 772 = .ok (.aload_n 0, 1) := by decide +kernel
theorem dL_law_773 : decode cL_law 773 = .ok (.iload_n 3, 1) := by decide +kernel
theorem dL_law_774 : decode cL_law 774 = .ok (.iconst 3, 1) := by decide +kernel
theorem dL_law_775 : decode cL_law 775 = .ok (.iadd, 1) := by decide +kernel
theorem dL_law_776 : decode cL_law 776 = .ok (.iaload, 1) := by decide +kernel
theorem dL_law_777 : decode cL_law 777 = .ok (.invokevirtual 118, 3) := by decide +kernel
theorem dL_law_780 : decode cL_law 780 = .ok (.aload_n 2, 1) := by decide +kernel
theorem dL_law_781 : decode cL_law 781 = .ok (.aload_n 0, 1) := by decide +kernel
theorem dL_law_782 : decode cL_law 782 = .ok (.iload_n 3, 1) := by decide +kernel
theorem dL_law_783 : decode cL_law 783 = .ok (.iconst 1, 1) := by decide +kernel
theorem dL_law_784 : decode cL_law 784 = .ok (.iadd, 1) := by decide +kernel
theorem dL_law_785 : decode cL_law 785 = .ok (.iaload, 1) := by decide +kernel
theorem dL_law_786 : decode cL_law 786 = .ok (.aload_n 0, 1) := by decide +kernel
theorem dL_law_787 : decode cL_law 787 = .ok (.iload_n 3, 1) := by decide +kernel
theorem dL_law_788 : decode cL_law 788 = .ok (.iconst 2, 1) := by decide +kernel
theorem dL_law_789 : decode cL_law 789 = .ok (.iadd, 1) := by decide +kernel
theorem dL_law_790 : decode cL_law 790 = .ok (.iaload, 1) := by decide +kernel
theorem dL_law_791 : decode cL_law 791 = .ok (.aload_n 0, 1) := by decide +kernel
theorem dL_law_792 : decode cL_law 792 = .ok (.iload_n 3, 1) := by decide +kernel
theorem dL_law_793 : decode cL_law 793 = .ok (.iconst 3, 1) := by decide +kernel
theorem dL_law_794 : decode cL_law 794 = .ok (.iadd, 1) := by decide +kernel
theorem dL_law_795 : decode cL_law 795 = .ok (.iaload, 1) := by decide +kernel
theorem dL_law_796 : decode cL_law 796 = .ok (.invokevirtual 121, 3) := by decide +kernel
theorem dL_law_799 : decode cL_law 799 = .ok (.if_icmp .eq 203, 3) := by decide +kernel
theorem dL_law_802 : decode cL_law 802 = .ok (.iconst 0, 1) := by decide +kernel
theorem dL_law_803 : decode cL_law 803 = .ok (.ireturn, 1) := by decide +kernel
theorem dL_law_804 : decode cL_law 804 = .ok (.aload_n 1, 1) := by decide +kernel
theorem dL_law_805 : decode cL_law 805 = .ok (.aload_n 0, 1) := by decide +kernel
theorem dL_law_806 : decode cL_law 806 = .ok (.iload_n 3, 1) := by decide +kernel
theorem dL_law_807 : decode cL_law 807 = .ok (.iconst 1, 1) := by decide +kernel
theorem dL_law_808 : decode cL_law 808 = .ok (.iadd, 1) := by decide +kernel
theorem dL_law_809 : decode cL_law 809 = .ok (.iaload, 1) := by decide +kernel
theorem dL_law_810 : decode cL_law 810 = .ok (.aload_n 0, 1) := by decide +kernel
theorem dL_law_811 : decode cL_law 811 = .ok (.iload_n 3, 1) := by decide +kernel
theorem dL_law_812 : decode cL_law 812 = .ok (.iconst 2, 1) := by decide +kernel
theorem dL_law_813 : decode cL_law 813 = .ok (.iadd, 1) := by decide +kernel
theorem dL_law_814 : decode cL_law 814 = .ok (.iaload, 1) := by decide +kernel
theorem dL_law_815 : decode cL_law 815 = .ok (.aload_n 0, 1) := by decide +kernel
theorem dL_law_816 : decode cL_law 816 = .ok (.iload_n 3, 1) := by decide +kernel
theorem dL_law_817 : decode cL_law 817 = .ok (.iconst 3, 1) := by decide +kernel
theorem dL_law_818 : decode cL_law 818 = .ok (.iadd, 1) := by decide +kernel
theorem dL_law_819 : decode cL_law 819 = .ok (.iaload, 1) := by decide +kernel
theorem dL_law_820 : decode cL_law 820 = .ok (.aload_n 0, 1) := by decide +kernel
theorem dL_law_821 : decode cL_law 821 = .ok (.iload_n 3, 1) := by decide +kernel
theorem dL_law_822 : decode cL_law 822 = .ok (.iconst 4, 1) := by decide +kernel
theorem dL_law_823 : decode cL_law 823 = .ok (.iadd, 1) := by decide +kernel
theorem dL_law_824 : decode cL_law 824 = .ok (.iaload, 1) := by decide +kernel
theorem dL_law_825 : decode cL_law 825 = .ok (.aload_n 0, 1) := by decide +kernel
theorem dL_law_826 : decode cL_law 826 = .ok (.iload_n 3, 1) := by decide +kernel
theorem dL_law_827 : decode cL_law 827 = .ok (.iconst 5, 1) := by decide +kernel
theorem dL_law_828 : decode cL_law 828 = .ok (.iadd, 1) := by decide +kernel
theorem dL_law_829 : decode cL_law 829 = .ok (.iaload, 1) := by decide +kernel
theorem dL_law_830 : decode cL_law 830 = .ok (.invokevirtual 122, 3) := by decide +kernel
theorem dL_law_833 : decode cL_law 833 = .ok (.aload_n 2, 1) := by decide +kernel
theorem dL_law_834 : decode cL_law 834 = .ok (.aload_n 0, 1) := by decide +kernel
theorem dL_law_835 : decode cL_law 835 = .ok (.iload_n 3, 1) := by decide +kernel
theorem dL_law_836 : decode cL_law 836 = .ok (.iconst 1, 1) := by decide +kernel
theorem dL_law_837 : decode cL_law 837 = .ok (.iadd, 1) := by decide +kernel
theorem dL_law_838 : decode cL_law 838 = .ok (.iaload, 1) := by decide +kernel
theorem dL_law_839 : decode cL_law 839 = .ok (.aload_n 0, 1) := by decide +kernel
theorem dL_law_840 : decode cL_law 840 = .ok (.iload_n 3, 1) := by decide +kernel
theorem dL_law_841 : decode cL_law 841 = .ok (.iconst 2, 1) := by decide +kernel
theorem dL_law_842 : decode cL_law 842 = .ok (.iadd, 1) := by decide +kernel
theorem dL_law_843 : decode cL_law 843 = .ok (.iaload, 1) := by decide +kernel
theorem dL_law_844 : decode cL_law 844 = .ok (.aload_n 0, 1) := by decide +kernel
theorem dL_law_845 : decode cL_law 845 = .ok (.iload_n 3, 1) := by decide +kernel
theorem dL_law_846 : decode cL_law 846 = .ok (.iconst 3, 1) := by decide +kernel
theorem dL_law_847 : decode cL_law 847 = .ok (.iadd, 1) := by decide +kernel
theorem dL_law_848 : decode cL_law 848 = .ok (.iaload, 1) := by decide +kernel
theorem dL_law_849 : decode cL_law 849 = .ok (.aload_n 0, 1) := by decide +kernel
theorem dL_law_850 : decode cL_law 850 = .ok (.iload_n 3, 1) := by decide +kernel
theorem dL_law_851 : decode cL_law 851 = .ok (.iconst 4, 1) := by decide +kernel
theorem dL_law_852 : decode cL_law 852 = .ok (.iadd, 1) := by decide +kernel
theorem dL_law_853 : decode cL_law 853 = .ok (.iaload, 1) := by decide +kernel
theorem dL_law_854 : decode cL_law 854 = .ok (.aload_n 0, 1) := by decide +kernel
theorem dL_law_855 : decode cL_law 855 = .ok (.iload_n 3, 1) := by decide +kernel
theorem dL_law_856 : decode cL_law 856 = .ok (.iconst 5, 1) := by decide +kernel
theorem dL_law_857 : decode cL_law 857 = .ok (.iadd, 1) := by decide +kernel
theorem dL_law_858 : decode cL_law 858 = .ok (.iaload, 1) := by decide +kernel
theorem dL_law_859 : decode cL_law 859 = .ok (.invokevirtual 126, 3) := by decide +kernel
theorem dL_law_862 : decode cL_law 862 = .ok (.if_icmp .eq 140, 3) := by decide +kernel
theorem dL_law_865 : decode cL_law 865 = .ok (.iconst 0, 1) := by decide +kernel
theorem dL_law_866 : decode cL_law 866 = .ok (.ireturn, 1) := by decide +kernel
theorem dL_law_867 : decode cL_law 867 = .ok (.aload_n 1, 1) := by decide +kernel
theorem dL_law_868 : decode cL_law 868 = .ok (.aload_n 0, 1) := by decide +kernel
theorem dL_law_869 : decode cL_law 869 = .ok (.iload_n 3, 1) := by decide +kernel
theorem dL_law_870 : decode cL_law 870 = .ok (.iconst 1, 1) := by decide +kernel
theorem dL_law_871 : decode cL_law 871 = .ok (.iadd, 1) := by decide +kernel
theorem dL_law_872 : decode cL_law 872 = .ok (.iaload, 1) := by decide +kernel
theorem dL_law_873 : decode cL_law 873 = .ok (.aload_n 0, 1) := by decide +kernel
theorem dL_law_874 : decode cL_law 874 = .ok (.iload_n 3, 1) := by decide +kernel
theorem dL_law_875 : decode cL_law 875 = .ok (.iconst 2, 1) := by decide +kernel
theorem dL_law_876 : decode cL_law 876 = .ok (.iadd, 1) := by decide +kernel
theorem dL_law_877 : decode cL_law 877 = .ok (.iaload, 1) := by decide +kernel
theorem dL_law_878 : decode cL_law 878 = .ok (.invokevirtual 127, 3) := by decide +kernel
theorem dL_law_881 : decode cL_law 881 = .ok (.aload_n 2, 1) := by decide +kernel
theorem dL_law_882 : decode cL_law 882 = .ok (.aload_n 0, 1) := by decide +kernel
theorem dL_law_883 : decode cL_law 883 = .ok (.iload_n 3, 1) := by decide +kernel
theorem dL_law_884 : decode cL_law 884 = .ok (.iconst 1, 1) := by decide +kernel
theorem dL_law_885 : decode cL_law 885 = .ok (.iadd, 1) := by decide +kernel
theorem dL_law_886 : decode cL_law 886 = .ok (.iaload, 1) := by decide +kernel
theorem dL_law_887 : decode cL_law 887 = .ok (.aload_n 0, 1) := by decide +kernel
theorem dL_law_888 : decode cL_law 888 = .ok (.iload_n 3, 1) := by decide +kernel
theorem dL_law_889 : decode cL_law 889 = .ok (.iconst 2, 1) := by decide +kernel
theorem dL_law_890 : decode cL_law 890 = .ok (.iadd, 1) := by decide +kernel
theorem dL_law_891 : decode cL_law 891 = .ok (.iaload, 1) := by decide +kernel
theorem dL_law_892 : decode cL_law 892 = .ok (.invokevirtual 130, 3) := by decide +kernel
theorem dL_law_895 : decode cL_law 895 = .ok (.if_icmp .eq 107, 3) := by decide +kernel
theorem dL_law_898 : decode cL_law 898 = .ok (.iconst 0, 1) := by decide +kernel
theorem dL_law_899 : decode cL_law 899 = .ok (.ireturn, 1) := by decide +kernel
theorem dL_law_900 : decode cL_law 900 = .ok (.aload_n 1, 1) := by decide +kernel
theorem dL_law_901 : decode cL_law 901 = .ok (.aload_n 0, 1) := by decide +kernel
theorem dL_law_902 : decode cL_law 902 = .ok (.iload_n 3, 1) := by decide +kernel
theorem dL_law_903 : decode cL_law 903 = .ok (.iconst 1, 1) := by decide +kernel
theorem dL_law_904 : decode cL_law 904 = .ok (.iadd, 1) := by decide +kernel
theorem dL_law_905 : decode cL_law 905 = .ok (.iaload, 1) := by decide +kernel
theorem dL_law_906 : decode cL_law 906 = .ok (.aload_n 0, 1) := by decide +kernel
theorem dL_law_907 : decode cL_law 907 = .ok (.iload_n 3, 1) := by decide +kernel
theorem dL_law_908 : decode cL_law 908 = .ok (.iconst 2, 1) := by decide +kernel
theorem dL_law_909 : decode cL_law 909 = .ok (.iadd, 1) := by decide +kernel
theorem dL_law_910 : decode cL_law 910 = .ok (.iaload, 1) := by decide +kernel
theorem dL_law_911 : decode cL_law 911 = .ok (.invokevirtual 131, 3) := by decide +kernel
theorem dL_law_914 : decode cL_law 914 = .ok (.aload_n 2, 1) := by decide +kernel
theorem dL_law_915 : decode cL_law 915 = .ok (.aload_n 0, 1) := by decide +kernel
theorem dL_law_916 : decode cL_law 916 = .ok (.iload_n 3, 1) := by decide +kernel
theorem dL_law_917 : decode cL_law 917 = .ok (.iconst 1, 1) := by decide +kernel
theorem dL_law_918 : decode cL_law 918 = .ok (.iadd, 1) := by decide +kernel
theorem dL_law_919 : decode cL_law 919 = .ok (.iaload, 1) := by decide +kernel
theorem dL_law_920 : decode cL_law 920 = .ok (.aload_n 0, 1) := by decide +kernel
theorem dL_law_921 : decode cL_law 921 = .ok (.iload_n 3, 1) := by decide +kernel
theorem dL_law_922 : decode cL_law 922 = .ok (.iconst 2, 1) := by decide +kernel
theorem dL_law_923 : decode cL_law 923 = .ok (.iadd, 1) := by decide +kernel
theorem dL_law_924 : decode cL_law 924 = .ok (.iaload, 1) := by decide +kernel
theorem dL_law_925 : decode cL_law 925 = .ok (.invokevirtual 134, 3) := by decide +kernel
theorem dL_law_928 : decode cL_law 928 = .ok (.if_icmp .eq 74, 3) := by decide +kernel
theorem dL_law_931 : decode cL_law 931 = .ok (.iconst 0, 1) := by decide +kernel
theorem dL_law_932 : decode cL_law 932 = .ok (.ireturn, 1) := by decide +kernel
theorem dL_law_933 : decode cL_law 933 = .ok (.aload_n 1, 1) := by decide +kernel
theorem dL_law_934 : decode cL_law 934 = .ok (.aload_n 0, 1) := by decide +kernel
theorem dL_law_935 : decode cL_law 935 = .ok (.iload_n 3, 1) := by decide +kernel
theorem dL_law_936 : decode cL_law 936 = .ok (.iconst 1, 1) := by decide +kernel
theorem dL_law_937 : decode cL_law 937 = .ok (.iadd, 1) := by decide +kernel
theorem dL_law_938 : decode cL_law 938 = .ok (.iaload, 1) := by decide +kernel
theorem dL_law_939 : decode cL_law 939 = .ok (.invokevirtual 135, 3) := by decide +kernel
theorem dL_law_942 : decode cL_law 942 = .ok (.aload_n 2, 1) := by decide +kernel
theorem dL_law_943 : decode cL_law 943 = .ok (.aload_n 0, 1) := by decide +kernel
theorem dL_law_944 : decode cL_law 944 = .ok (.iload_n 3, 1) := by decide +kernel
theorem dL_law_945 : decode cL_law 945 = .ok (.iconst 1, 1) := by decide +kernel
theorem dL_law_946 : decode cL_law 946 = .ok (.iadd, 1) := by decide +kernel
theorem dL_law_947 : decode cL_law 947 = .ok (.iaload, 1) := by decide +kernel
theorem dL_law_948 : decode cL_law 948 = .ok (.invokevirtual 138, 3) := by decide +kernel
theorem dL_law_951 : decode cL_law 951 = .ok (.if_icmp .eq 51, 3) := by decide +kernel
theorem dL_law_954 : decode cL_law 954 = .ok (.iconst 0, 1) := by decide +kernel
theorem dL_law_955 : decode cL_law 955 = .ok (.ireturn, 1) := by decide +kernel
theorem dL_law_956 : decode cL_law 956 = .ok (.aload_n 1, 1) := by decide +kernel
theorem dL_law_957 : decode cL_law 957 = .ok (.aload_n 0, 1) := by decide +kernel
theorem dL_law_958 : decode cL_law 958 = .ok (.iload_n 3, 1) := by decide +kernel
theorem dL_law_959 : decode cL_law 959 = .ok (.iconst 1, 1) := by decide +kernel
theorem dL_law_960 : decode cL_law 960 = .ok (.iadd, 1) := by decide +kernel
theorem dL_law_961 : decode cL_law 961 = .ok (.iaload, 1) := by decide +kernel
theorem dL_law_962 : decode cL_law 962 = .ok (.invokevirtual 139, 3) := by decide +kernel
theorem dL_law_965 : decode cL_law 965 = .ok (.aload_n 2, 1) := by decide +kernel
theorem dL_law_966 : decode cL_law 966 = .ok (.aload_n 0, 1) := by decide +kernel
theorem dL_law_967 : decode cL_law 967 = .ok (.iload_n 3, 1) := by decide +kernel
theorem dL_law_968 : decode cL_law 968 = .ok (.iconst 1, 1) := by decide +kernel
theorem dL_law_969 : decode cL_law 969 = .ok (.iadd, 1) := by decide +kernel
theorem dL_law_970 : decode cL_law 970 = .ok (.iaload, 1) := by decide +kernel
theorem dL_law_971 : decode cL_law 971 = .ok (.invokevirtual 142, 3) := by decide +kernel
theorem dL_law_974 : decode cL_law 974 = .ok (.if_icmp .eq 28, 3) := by decide +kernel
theorem dL_law_977 : decode cL_law 977 = .ok (.iconst 0, 1) := by decide +kernel
theorem dL_law_978 : decode cL_law 978 = .ok (.ireturn, 1) := by decide +kernel
theorem dL_law_979 : decode cL_law 979 = .ok (.aload_n 1, 1) := by decide +kernel
theorem dL_law_980 : decode cL_law 980 = .ok (.aload_n 0, 1) := by decide +kernel
theorem dL_law_981 : decode cL_law 981 = .ok (.iload_n 3, 1) := by decide +kernel
theorem dL_law_982 : decode cL_law 982 = .ok (.iconst 1, 1) := by decide +kernel
theorem dL_law_983 : decode cL_law 983 = .ok (.iadd, 1) := by decide +kernel
theorem dL_law_984 : decode cL_law 984 = .ok (.iaload, 1) := by decide +kernel
theorem dL_law_985 : decode cL_law 985 = .ok (.invokevirtual 143, 3) := by decide +kernel
theorem dL_law_988 : decode cL_law 988 = .ok (.aload_n 2, 1) := by decide +kernel
theorem dL_law_989 : decode cL_law 989 = .ok (.aload_n 0, 1) := by decide +kernel
theorem dL_law_990 : decode cL_law 990 = .ok (.iload_n 3, 1) := by decide +kernel
theorem dL_law_991 : decode cL_law 991 = .ok (.iconst 1, 1) := by decide +kernel
theorem dL_law_992 : decode cL_law 992 = .ok (.iadd, 1) := by decide +kernel
theorem dL_law_993 : decode cL_law 993 = .ok (.iaload, 1) := by decide +kernel
theorem dL_law_994 : decode cL_law 994 = .ok (.invokevirtual 146, 3) := by decide +kernel
theorem dL_law_997 : decode cL_law 997 = .ok (.if_icmp .eq 5, 3) := by decide +kernel
theorem dL_law_1000 : decode cL_law 1000 = .ok (.iconst 0, 1) := by decide +kernel
theorem dL_law_1001 : decode cL_law 1001 = .ok (.ireturn, 1) := by decide +kernel
theorem dL_law_1002 : decode cL_law 1002 = .ok (.iinc 3 6, 3) := by decide +kernel
theorem dL_law_1005 : decode cL_law 1005 = .ok (.goto (-987), 3) := by decide +kernel
theorem dL_law_1008 : decode cL_law 1008 = .ok (.iconst 1, 1) := by decide +kernel
theorem dL_law_1009 : decode cL_law 1009 = .ok (.ireturn, 1) := by decide +kernel
theorem wyn_195 : Cond.methodLink RL 113 yX8_set ∈ WL_ := wl_in (tj_4 (List.mem_of_getElem? (i := 181) rfl)) rfl
theorem wyn_196 : Cond.instanceMethod yX8_set ∈ WL_ := wl_in (tj_4 (List.mem_of_getElem? (i := 182) rfl)) rfl
theorem wyn_197 : Cond.selects RX8 yX8_set yX8_set ∈ WL_ := wl_in (tj_4 (List.mem_of_getElem? (i := 183) rfl)) rfl
theorem wyn_198 : Cond.code yX8_set cX8_set 7 (some .int) ∈ WL_ := wl_in (tj_4 (List.mem_of_getElem? (i := 184) rfl)) rfl
theorem wyn_199 : Cond.methodLink RL 117 yX9_set ∈ WL_ := wl_in (tj_7 (List.mem_of_getElem? (i := 1) rfl)) rfl
theorem wyn_200 : Cond.instanceMethod yX9_set ∈ WL_ := wl_in (tj_7 (List.mem_of_getElem? (i := 2) rfl)) rfl
theorem wyn_201 : Cond.selects RX9 yX9_set yX9_set ∈ WL_ := wl_in (tj_7 (List.mem_of_getElem? (i := 3) rfl)) rfl
theorem wyn_202 : Cond.code yX9_set cX9_set 7 (some .int) ∈ WL_ := wl_in (tj_7 (List.mem_of_getElem? (i := 4) rfl)) rfl
theorem wyn_203 : Cond.methodLink RL 118 yX8_get ∈ WL_ := wl_in (tj_4 (List.mem_of_getElem? (i := 202) rfl)) rfl
theorem wyn_204 : Cond.instanceMethod yX8_get ∈ WL_ := wl_in (tj_4 (List.mem_of_getElem? (i := 203) rfl)) rfl
theorem wyn_205 : Cond.selects RX8 yX8_get yX8_get ∈ WL_ := wl_in (tj_4 (List.mem_of_getElem? (i := 204) rfl)) rfl
theorem wyn_206 : Cond.code yX8_get cX8_get 5 (some .int) ∈ WL_ := wl_in (tj_4 (List.mem_of_getElem? (i := 205) rfl)) rfl
theorem wyn_207 : Cond.methodLink RL 121 yX9_get ∈ WL_ := wl_in (tj_7 (List.mem_of_getElem? (i := 11) rfl)) rfl
theorem wyn_208 : Cond.instanceMethod yX9_get ∈ WL_ := wl_in (tj_7 (List.mem_of_getElem? (i := 12) rfl)) rfl
theorem wyn_209 : Cond.selects RX9 yX9_get yX9_get ∈ WL_ := wl_in (tj_7 (List.mem_of_getElem? (i := 13) rfl)) rfl
theorem wyn_210 : Cond.code yX9_get cX9_get 5 (some .int) ∈ WL_ := wl_in (tj_7 (List.mem_of_getElem? (i := 14) rfl)) rfl
theorem wyn_211 : Cond.methodLink RL 122 yX8_copy ∈ WL_ := wl_in (tj_4 (List.mem_of_getElem? (i := 206) rfl)) rfl
theorem wyn_212 : Cond.instanceMethod yX8_copy ∈ WL_ := wl_in (tj_4 (List.mem_of_getElem? (i := 207) rfl)) rfl
theorem wyn_213 : Cond.selects RX8 yX8_copy yX8_copy ∈ WL_ := wl_in (tj_4 (List.mem_of_getElem? (i := 208) rfl)) rfl
theorem wyn_214 : Cond.code yX8_copy cX8_copy 6 (some .int) ∈ WL_ := wl_in (tj_4 (List.mem_of_getElem? (i := 209) rfl)) rfl
theorem wyn_215 : Cond.methodLink RL 126 yX9_copy ∈ WL_ := wl_in (tj_7 (List.mem_of_getElem? (i := 15) rfl)) rfl
theorem wyn_216 : Cond.instanceMethod yX9_copy ∈ WL_ := wl_in (tj_7 (List.mem_of_getElem? (i := 16) rfl)) rfl
theorem wyn_217 : Cond.selects RX9 yX9_copy yX9_copy ∈ WL_ := wl_in (tj_7 (List.mem_of_getElem? (i := 17) rfl)) rfl
theorem wyn_218 : Cond.code yX9_copy cX9_copy 9 (some .int) ∈ WL_ := wl_in (tj_7 (List.mem_of_getElem? (i := 18) rfl)) rfl
theorem wyn_219 : Cond.methodLink RL 127 yX8_append ∈ WL_ := wl_in (tj_4 (List.mem_of_getElem? (i := 224) rfl)) rfl
theorem wyn_220 : Cond.instanceMethod yX8_append ∈ WL_ := wl_in (tj_4 (List.mem_of_getElem? (i := 225) rfl)) rfl
theorem wyn_221 : Cond.selects RX8 yX8_append yX8_append ∈ WL_ := wl_in (tj_4 (List.mem_of_getElem? (i := 226) rfl)) rfl
theorem wyn_222 : Cond.code yX8_append cX8_append 3 (some .int) ∈ WL_ := wl_in (tj_4 (List.mem_of_getElem? (i := 227) rfl)) rfl
theorem wyn_223 : Cond.methodLink RL 130 yX9_append ∈ WL_ := wl_in (tj_7 (List.mem_of_getElem? (i := 23) rfl)) rfl
theorem wyn_224 : Cond.instanceMethod yX9_append ∈ WL_ := wl_in (tj_7 (List.mem_of_getElem? (i := 24) rfl)) rfl
theorem wyn_225 : Cond.selects RX9 yX9_append yX9_append ∈ WL_ := wl_in (tj_7 (List.mem_of_getElem? (i := 25) rfl)) rfl
theorem wyn_226 : Cond.code yX9_append cX9_append 5 (some .int) ∈ WL_ := wl_in (tj_7 (List.mem_of_getElem? (i := 26) rfl)) rfl
theorem wyn_227 : Cond.methodLink RL 131 yX8_load ∈ WL_ := wl_in (tj_4 (List.mem_of_getElem? (i := 237) rfl)) rfl
theorem wyn_228 : Cond.instanceMethod yX8_load ∈ WL_ := wl_in (tj_4 (List.mem_of_getElem? (i := 238) rfl)) rfl
theorem wyn_229 : Cond.selects RX8 yX8_load yX8_load ∈ WL_ := wl_in (tj_4 (List.mem_of_getElem? (i := 239) rfl)) rfl
theorem wyn_230 : Cond.code yX8_load cX8_load 6 (some .int) ∈ WL_ := wl_in (tj_5 (List.mem_of_getElem? (i := 0) rfl)) rfl
theorem wyn_231 : Cond.methodLink RL 134 yX9_load ∈ WL_ := wl_in (tj_7 (List.mem_of_getElem? (i := 27) rfl)) rfl
theorem wyn_232 : Cond.instanceMethod yX9_load ∈ WL_ := wl_in (tj_7 (List.mem_of_getElem? (i := 28) rfl)) rfl
theorem wyn_233 : Cond.selects RX9 yX9_load yX9_load ∈ WL_ := wl_in (tj_7 (List.mem_of_getElem? (i := 29) rfl)) rfl
theorem wyn_234 : Cond.code yX9_load cX9_load 6 (some .int) ∈ WL_ := wl_in (tj_7 (List.mem_of_getElem? (i := 30) rfl)) rfl
theorem wyn_235 : Cond.methodLink RL 135 yX8_sum ∈ WL_ := wl_in (tj_5 (List.mem_of_getElem? (i := 1) rfl)) rfl
theorem wyn_236 : Cond.instanceMethod yX8_sum ∈ WL_ := wl_in (tj_5 (List.mem_of_getElem? (i := 2) rfl)) rfl
theorem wyn_237 : Cond.selects RX8 yX8_sum yX8_sum ∈ WL_ := wl_in (tj_5 (List.mem_of_getElem? (i := 3) rfl)) rfl
theorem wyn_238 : Cond.code yX8_sum cX8_sum 2 (some .int) ∈ WL_ := wl_in (tj_5 (List.mem_of_getElem? (i := 4) rfl)) rfl
theorem wyn_239 : Cond.methodLink RL 138 yX9_sum ∈ WL_ := wl_in (tj_7 (List.mem_of_getElem? (i := 31) rfl)) rfl
theorem wyn_240 : Cond.instanceMethod yX9_sum ∈ WL_ := wl_in (tj_7 (List.mem_of_getElem? (i := 32) rfl)) rfl
theorem wyn_241 : Cond.selects RX9 yX9_sum yX9_sum ∈ WL_ := wl_in (tj_7 (List.mem_of_getElem? (i := 33) rfl)) rfl
theorem wyn_242 : Cond.code yX9_sum cX9_sum 4 (some .int) ∈ WL_ := wl_in (tj_7 (List.mem_of_getElem? (i := 34) rfl)) rfl
theorem wyn_243 : Cond.methodLink RL 139 yX8_drop ∈ WL_ := wl_in (tj_5 (List.mem_of_getElem? (i := 11) rfl)) rfl
theorem wyn_244 : Cond.instanceMethod yX8_drop ∈ WL_ := wl_in (tj_5 (List.mem_of_getElem? (i := 12) rfl)) rfl
theorem wyn_245 : Cond.selects RX8 yX8_drop yX8_drop ∈ WL_ := wl_in (tj_5 (List.mem_of_getElem? (i := 13) rfl)) rfl
theorem wyn_246 : Cond.code yX8_drop cX8_drop 3 (some .int) ∈ WL_ := wl_in (tj_5 (List.mem_of_getElem? (i := 14) rfl)) rfl
theorem wyn_247 : Cond.methodLink RL 142 yX9_drop ∈ WL_ := wl_in (tj_7 (List.mem_of_getElem? (i := 36) rfl)) rfl
theorem wyn_248 : Cond.instanceMethod yX9_drop ∈ WL_ := wl_in (tj_7 (List.mem_of_getElem? (i := 37) rfl)) rfl
theorem wyn_249 : Cond.selects RX9 yX9_drop yX9_drop ∈ WL_ := wl_in (tj_7 (List.mem_of_getElem? (i := 38) rfl)) rfl
theorem wyn_250 : Cond.code yX9_drop cX9_drop 3 (some .int) ∈ WL_ := wl_in (tj_7 (List.mem_of_getElem? (i := 39) rfl)) rfl
theorem wyn_251 : Cond.methodLink RL 143 yX8_count ∈ WL_ := wl_in (tj_5 (List.mem_of_getElem? (i := 19) rfl)) rfl
theorem wyn_252 : Cond.instanceMethod yX8_count ∈ WL_ := wl_in (tj_5 (List.mem_of_getElem? (i := 20) rfl)) rfl
theorem wyn_253 : Cond.selects RX8 yX8_count yX8_count ∈ WL_ := wl_in (tj_5 (List.mem_of_getElem? (i := 21) rfl)) rfl
theorem wyn_254 : Cond.code yX8_count cX8_count 2 (some .int) ∈ WL_ := wl_in (tj_5 (List.mem_of_getElem? (i := 22) rfl)) rfl
theorem wyn_255 : Cond.methodLink RL 146 yX9_count ∈ WL_ := wl_in (tj_7 (List.mem_of_getElem? (i := 40) rfl)) rfl
theorem wyn_256 : Cond.instanceMethod yX9_count ∈ WL_ := wl_in (tj_7 (List.mem_of_getElem? (i := 41) rfl)) rfl
theorem wyn_257 : Cond.selects RX9 yX9_count yX9_count ∈ WL_ := wl_in (tj_7 (List.mem_of_getElem? (i := 42) rfl)) rfl
theorem wyn_258 : Cond.code yX9_count cX9_count 2 (some .int) ∈ WL_ := wl_in (tj_7 (List.mem_of_getElem? (i := 43) rfl)) rfl
section LAWC
variable {adK adV : Nat → Nat} {tA : Nat} {p : Program} {l : Launch} {e : Env} {s : State} {m : MethodId} {args : Array Value} {below : List Frame} {meth : Method} {c : Code} {H : Heap} {locs : List Loc} {Q : State → Prop} {D : va_G} {aC : Nat → ClassId} {A : Nat → Prop} {ls : Array Slot} {a : Nat → Nat → Nat} {b L i : Nat} {xs : Nat → Int32} {x t n n2 v d v2 d2 g w v3 d3 q r o : Ob_T}
set_option maxHeartbeats 4000000 in
set_option maxRecDepth 100000 in
theorem lc_set (hE : EX_ adK adV tA A s s.heap) (hX : K_X p s m args meth c cL_law 4 WL_ RL D aC A) (hSc : va_X b L xs s s.heap) (hbl : b < s.heap.size) (hbA : ¬ A b) (hi : i + 6 ≤ L) (hL : L ≤ 3072) (h : RR_ x t n v w g q r o) (hZ : K_S D A s (FL (BK_ aC a x t n n2 v d v2 d2 g w v3 d3 q r o) A15) H locs) (hl : lv_has ls 4 [(0, .ref b), (1, .ref (a 0 0)), (2, .ref (a 14 0)), (3, .int (nI i))]) (kk : ∀ (x t n n2 v d v2 d2 g w v3 d3 q r o : Ob_T) (H : Heap) (locs : List Loc), RR_ x t n v w g q r o → K_S D A s (FL (BK_ aC a x t n n2 v d v2 d2 g w v3 d3 q r o) A15) H locs → W p l e room_1 s m args below meth c H locs 86 1484 Q (F0 m 1002 ls [])) : W p l e room_1 s m args below meth c H locs 86 1484 Q (F0 m 708 ls []) := by
  obtain ⟨hx, hb, hml, hown, hts, hK, hA, hlk⟩ := id hX
  obtain ⟨u, hu, y, hy, e1, hR⟩ := rr_set h (xs (nI i + 1).toNatClampNeg) (xs (nI i + 2).toNatClampNeg) (xs (nI i + 3).toNatClampNeg) (xs (nI i + 4).toNatClampNeg)
  refine lv_aload_n hx hb dL_law_708 rfl (lv_at hl 1 rfl) ?_
  refine lv_aload_n hx hb dL_law_709 rfl (lv_at hl 0 rfl) ?_
  refine lv_iload_n hx hb dL_law_710 rfl (lv_at hl 3 rfl) ?_
  refine lv_iconst (v := 1) hx hb dL_law_711 (by decide) ?_
  refine lv_iadd hx hb dL_law_712 ?_
  refine va_sld hx hb hSc hbl hbA hZ.2.2 (sc_in (j := 1) (by omega) hL) dL_law_713 ?_
  refine lv_aload_n hx hb dL_law_714 rfl (lv_at hl 0 rfl) ?_
  refine lv_iload_n hx hb dL_law_715 rfl (lv_at hl 3 rfl) ?_
  refine lv_iconst (v := 2) hx hb dL_law_716 (by decide) ?_
  refine lv_iadd hx hb dL_law_717 ?_
  refine va_sld hx hb hSc hbl hbA hZ.2.2 (sc_in (j := 2) (by omega) hL) dL_law_718 ?_
  refine lv_aload_n hx hb dL_law_719 rfl (lv_at hl 0 rfl) ?_
  refine lv_iload_n hx hb dL_law_720 rfl (lv_at hl 3 rfl) ?_
  refine lv_iconst (v := 3) hx hb dL_law_721 (by decide) ?_
  refine lv_iadd hx hb dL_law_722 ?_
  refine va_sld hx hb hSc hbl hbA hZ.2.2 (sc_in (j := 3) (by omega) hL) dL_law_723 ?_
  refine lv_aload_n hx hb dL_law_724 rfl (lv_at hl 0 rfl) ?_
  refine lv_iload_n hx hb dL_law_725 rfl (lv_at hl 3 rfl) ?_
  refine lv_iconst (v := 4) hx hb dL_law_726 (by decide) ?_
  refine lv_iadd hx hb dL_law_727 ?_
  refine va_sld hx hb hSc hbl hbA hZ.2.2 (sc_in (j := 4) (by omega) hL) dL_law_728 ?_
  refine k_LW (B := BK_ aC a x t n n2 v d v2 d2 g w v3 d3 q r o) (B' := BK_ aC a x t n n2 v d v2 d2 g w v3 d3 q u.2 o) (As := [.int (xs (nI i + 1).toNatClampNeg), .int (xs (nI i + 2).toNatClampNeg), .int (xs (nI i + 3).toNatClampNeg), .int (xs (nI i + 4).toNatClampNeg)]) (rest := []) (v := some (.int u.1)) (st1 := [.int u.1]) hX hl.1 [0, 13] [1, 2, 3, 4, 5, 6, 7, 8, 9, 10, 11, 12, 14] A15 hZ (by decide) (c_X8_set (aC := aC) (a_x := a 0) (a_r := a 13) (a_t := a 1) (a_n := a 2) (a_n2 := a 3) (a_v := a 4) (a_v2 := a 6) (a_g := a 8) (a_w := a 9) (a_q := a 12) x r (xs (nI i + 1).toNatClampNeg) (xs (nI i + 2).toNatClampNeg) (xs (nI i + 3).toNatClampNeg) (xs (nI i + 4).toNatClampNeg) hu) rfl rfl (gv_ wyn_195 wyn_196 wyn_197 wyn_4 wyn_198) rfl hd_X8_set ⟨rfl, rfl⟩ 8 rfl rfl rfl rfl rfl dL_law_729 rfl ⟨rfl, rfl⟩ (fun H locs hZ => ?_)
  refine lv_aload_n hx hb dL_law_732 rfl (lv_at hl 2 rfl) ?_
  refine lv_aload_n hx hb dL_law_733 rfl (lv_at hl 0 rfl) ?_
  refine lv_iload_n hx hb dL_law_734 rfl (lv_at hl 3 rfl) ?_
  refine lv_iconst (v := 1) hx hb dL_law_735 (by decide) ?_
  refine lv_iadd hx hb dL_law_736 ?_
  refine va_sld hx hb hSc hbl hbA hZ.2.2 (sc_in (j := 1) (by omega) hL) dL_law_737 ?_
  refine lv_aload_n hx hb dL_law_738 rfl (lv_at hl 0 rfl) ?_
  refine lv_iload_n hx hb dL_law_739 rfl (lv_at hl 3 rfl) ?_
  refine lv_iconst (v := 2) hx hb dL_law_740 (by decide) ?_
  refine lv_iadd hx hb dL_law_741 ?_
  refine va_sld hx hb hSc hbl hbA hZ.2.2 (sc_in (j := 2) (by omega) hL) dL_law_742 ?_
  refine lv_aload_n hx hb dL_law_743 rfl (lv_at hl 0 rfl) ?_
  refine lv_iload_n hx hb dL_law_744 rfl (lv_at hl 3 rfl) ?_
  refine lv_iconst (v := 3) hx hb dL_law_745 (by decide) ?_
  refine lv_iadd hx hb dL_law_746 ?_
  refine va_sld hx hb hSc hbl hbA hZ.2.2 (sc_in (j := 3) (by omega) hL) dL_law_747 ?_
  refine lv_aload_n hx hb dL_law_748 rfl (lv_at hl 0 rfl) ?_
  refine lv_iload_n hx hb dL_law_749 rfl (lv_at hl 3 rfl) ?_
  refine lv_iconst (v := 4) hx hb dL_law_750 (by decide) ?_
  refine lv_iadd hx hb dL_law_751 ?_
  refine va_sld hx hb hSc hbl hbA hZ.2.2 (sc_in (j := 4) (by omega) hL) dL_law_752 ?_
  refine k_LW (B := BK_ aC a x t n n2 v d v2 d2 g w v3 d3 q u.2 o) (B' := BK_ aC a x t n n2 v d v2 d2 g w v3 d3 q u.2 y.2) (As := [.int (xs (nI i + 1).toNatClampNeg), .int (xs (nI i + 2).toNatClampNeg), .int (xs (nI i + 3).toNatClampNeg), .int (xs (nI i + 4).toNatClampNeg)]) (rest := [.int u.1]) (v := some (.int y.1)) (st1 := [.int y.1, .int u.1]) hX hl.1 [14] [0, 1, 2, 3, 4, 5, 6, 7, 8, 9, 10, 11, 12, 13] A15 hZ (by decide) (c_X9_set (aC := aC) (a_o := a 14) o (xs (nI i + 1).toNatClampNeg) (xs (nI i + 2).toNatClampNeg) (xs (nI i + 3).toNatClampNeg) (xs (nI i + 4).toNatClampNeg) hy) rfl rfl (gv_ wyn_199 wyn_200 wyn_201 wyn_9 wyn_202) rfl hd_X9_set ⟨rfl, rfl⟩ 9 rfl rfl rfl rfl rfl dL_law_753 rfl ⟨rfl, rfl⟩ (fun H locs hZ => ?_)
  refine lv_icmp_eq (tgt := 1002) hx hb dL_law_756 (by decide) (fun _ => ?_) (fun cd => absurd e1 cd)
  exact kk _ _ _ _ _ _ _ _ _ _ _ _ _ _ _ _ _ hR hZ
set_option maxHeartbeats 4000000 in
set_option maxRecDepth 100000 in
theorem lc_get (hE : EX_ adK adV tA A s s.heap) (hX : K_X p s m args meth c cL_law 4 WL_ RL D aC A) (hSc : va_X b L xs s s.heap) (hbl : b < s.heap.size) (hbA : ¬ A b) (hi : i + 6 ≤ L) (hL : L ≤ 3072) (h : RR_ x t n v w g q r o) (hZ : K_S D A s (FL (BK_ aC a x t n n2 v d v2 d2 g w v3 d3 q r o) A15) H locs) (hl : lv_has ls 4 [(0, .ref b), (1, .ref (a 0 0)), (2, .ref (a 14 0)), (3, .int (nI i))]) (kk : ∀ (x t n n2 v d v2 d2 g w v3 d3 q r o : Ob_T) (H : Heap) (locs : List Loc), RR_ x t n v w g q r o → K_S D A s (FL (BK_ aC a x t n n2 v d v2 d2 g w v3 d3 q r o) A15) H locs → W p l e room_1 s m args below meth c H locs 86 1484 Q (F0 m 1002 ls [])) : W p l e room_1 s m args below meth c H locs 86 1484 Q (F0 m 761 ls []) := by
  obtain ⟨hx, hb, hml, hown, hts, hK, hA, hlk⟩ := id hX
  obtain ⟨u, hu, y, hy, e1⟩ := rr_get h (xs (nI i + 1).toNatClampNeg) (xs (nI i + 2).toNatClampNeg) (xs (nI i + 3).toNatClampNeg)
  refine lv_aload_n hx hb dL_law_761 rfl (lv_at hl 1 rfl) ?_
  refine lv_aload_n hx hb dL_law_762 rfl (lv_at hl 0 rfl) ?_
  refine lv_iload_n hx hb dL_law_763 rfl (lv_at hl 3 rfl) ?_
  refine lv_iconst (v := 1) hx hb dL_law_764 (by decide) ?_
  refine lv_iadd hx hb dL_law_765 ?_
  refine va_sld hx hb hSc hbl hbA hZ.2.2 (sc_in (j := 1) (by omega) hL) dL_law_766 ?_
  refine lv_aload_n hx hb dL_law_767 rfl (lv_at hl 0 rfl) ?_
  refine lv_iload_n hx hb dL_law_768 rfl (lv_at hl 3 rfl) ?_
  refine lv_iconst (v := 2) hx hb dL_law_769 (by decide) ?_
  refine lv_iadd hx hb dL_law_770 ?_
  refine va_sld hx hb hSc hbl hbA hZ.2.2 (sc_in (j := 2) (by omega) hL) dL_law_771 ?_
  refine lv_aload_n hx hb dL_law_772 rfl (lv_at hl 0 rfl) ?_
  refine lv_iload_n hx hb dL_law_773 rfl (lv_at hl 3 rfl) ?_
  refine lv_iconst (v := 3) hx hb dL_law_774 (by decide) ?_
  refine lv_iadd hx hb dL_law_775 ?_
  refine va_sld hx hb hSc hbl hbA hZ.2.2 (sc_in (j := 3) (by omega) hL) dL_law_776 ?_
  refine k_LR (B := BK_ aC a x t n n2 v d v2 d2 g w v3 d3 q r o) (As := [.int (xs (nI i + 1).toNatClampNeg), .int (xs (nI i + 2).toNatClampNeg), .int (xs (nI i + 3).toNatClampNeg)]) (rest := []) (v := some (.int u)) (st1 := [.int u]) hX hl.1 [0, 13] [1, 2, 3, 4, 5, 6, 7, 8, 9, 10, 11, 12, 14] A15 hZ (by decide) (c_X8_get (aC := aC) (a_x := a 0) (a_r := a 13) (a_t := a 1) (a_n := a 2) (a_n2 := a 3) (a_v := a 4) (a_v2 := a 6) (a_g := a 8) (a_w := a 9) (a_q := a 12) x r (xs (nI i + 1).toNatClampNeg) (xs (nI i + 2).toNatClampNeg) (xs (nI i + 3).toNatClampNeg) hu) (gv_ wyn_203 wyn_204 wyn_205 wyn_4 wyn_206) rfl hd_X8_get ⟨rfl, rfl⟩ 8 rfl rfl rfl rfl rfl dL_law_777 rfl ⟨rfl, rfl⟩ (fun locs hZ => ?_)
  refine lv_aload_n hx hb dL_law_780 rfl (lv_at hl 2 rfl) ?_
  refine lv_aload_n hx hb dL_law_781 rfl (lv_at hl 0 rfl) ?_
  refine lv_iload_n hx hb dL_law_782 rfl (lv_at hl 3 rfl) ?_
  refine lv_iconst (v := 1) hx hb dL_law_783 (by decide) ?_
  refine lv_iadd hx hb dL_law_784 ?_
  refine va_sld hx hb hSc hbl hbA hZ.2.2 (sc_in (j := 1) (by omega) hL) dL_law_785 ?_
  refine lv_aload_n hx hb dL_law_786 rfl (lv_at hl 0 rfl) ?_
  refine lv_iload_n hx hb dL_law_787 rfl (lv_at hl 3 rfl) ?_
  refine lv_iconst (v := 2) hx hb dL_law_788 (by decide) ?_
  refine lv_iadd hx hb dL_law_789 ?_
  refine va_sld hx hb hSc hbl hbA hZ.2.2 (sc_in (j := 2) (by omega) hL) dL_law_790 ?_
  refine lv_aload_n hx hb dL_law_791 rfl (lv_at hl 0 rfl) ?_
  refine lv_iload_n hx hb dL_law_792 rfl (lv_at hl 3 rfl) ?_
  refine lv_iconst (v := 3) hx hb dL_law_793 (by decide) ?_
  refine lv_iadd hx hb dL_law_794 ?_
  refine va_sld hx hb hSc hbl hbA hZ.2.2 (sc_in (j := 3) (by omega) hL) dL_law_795 ?_
  refine k_LR (B := BK_ aC a x t n n2 v d v2 d2 g w v3 d3 q r o) (As := [.int (xs (nI i + 1).toNatClampNeg), .int (xs (nI i + 2).toNatClampNeg), .int (xs (nI i + 3).toNatClampNeg)]) (rest := [.int u]) (v := some (.int y)) (st1 := [.int y, .int u]) hX hl.1 [14] [0, 1, 2, 3, 4, 5, 6, 7, 8, 9, 10, 11, 12, 13] A15 hZ (by decide) (c_X9_get (aC := aC) (a_o := a 14) o (xs (nI i + 1).toNatClampNeg) (xs (nI i + 2).toNatClampNeg) (xs (nI i + 3).toNatClampNeg) hy) (gv_ wyn_207 wyn_208 wyn_209 wyn_9 wyn_210) rfl hd_X9_get ⟨rfl, rfl⟩ 9 rfl rfl rfl rfl rfl dL_law_796 rfl ⟨rfl, rfl⟩ (fun locs hZ => ?_)
  refine lv_icmp_eq (tgt := 1002) hx hb dL_law_799 (by decide) (fun _ => ?_) (fun cd => absurd e1 cd)
  exact kk _ _ _ _ _ _ _ _ _ _ _ _ _ _ _ _ _ h hZ
set_option maxHeartbeats 4000000 in
set_option maxRecDepth 100000 in
theorem lc_copy (hE : EX_ adK adV tA A s s.heap) (hX : K_X p s m args meth c cL_law 4 WL_ RL D aC A) (hSc : va_X b L xs s s.heap) (hbl : b < s.heap.size) (hbA : ¬ A b) (hi : i + 6 ≤ L) (hL : L ≤ 3072) (h : RR_ x t n v w g q r o) (hZ : K_S D A s (FL (BK_ aC a x t n n2 v d v2 d2 g w v3 d3 q r o) A15) H locs) (hl : lv_has ls 4 [(0, .ref b), (1, .ref (a 0 0)), (2, .ref (a 14 0)), (3, .int (nI i))]) (kk : ∀ (x t n n2 v d v2 d2 g w v3 d3 q r o : Ob_T) (H : Heap) (locs : List Loc), RR_ x t n v w g q r o → K_S D A s (FL (BK_ aC a x t n n2 v d v2 d2 g w v3 d3 q r o) A15) H locs → W p l e room_1 s m args below meth c H locs 86 1484 Q (F0 m 1002 ls [])) : W p l e room_1 s m args below meth c H locs 86 1484 Q (F0 m 804 ls []) := by
  obtain ⟨hx, hb, hml, hown, hts, hK, hA, hlk⟩ := id hX
  obtain ⟨u, hu, y, hy, e1, hR⟩ := rr_copy h (xs (nI i + 1).toNatClampNeg) (xs (nI i + 2).toNatClampNeg) (xs (nI i + 3).toNatClampNeg) (xs (nI i + 4).toNatClampNeg) (xs (nI i + 5).toNatClampNeg)
  refine lv_aload_n hx hb dL_law_804 rfl (lv_at hl 1 rfl) ?_
  refine lv_aload_n hx hb dL_law_805 rfl (lv_at hl 0 rfl) ?_
  refine lv_iload_n hx hb dL_law_806 rfl (lv_at hl 3 rfl) ?_
  refine lv_iconst (v := 1) hx hb dL_law_807 (by decide) ?_
  refine lv_iadd hx hb dL_law_808 ?_
  refine va_sld hx hb hSc hbl hbA hZ.2.2 (sc_in (j := 1) (by omega) hL) dL_law_809 ?_
  refine lv_aload_n hx hb dL_law_810 rfl (lv_at hl 0 rfl) ?_
  refine lv_iload_n hx hb dL_law_811 rfl (lv_at hl 3 rfl) ?_
  refine lv_iconst (v := 2) hx hb dL_law_812 (by decide) ?_
  refine lv_iadd hx hb dL_law_813 ?_
  refine va_sld hx hb hSc hbl hbA hZ.2.2 (sc_in (j := 2) (by omega) hL) dL_law_814 ?_
  refine lv_aload_n hx hb dL_law_815 rfl (lv_at hl 0 rfl) ?_
  refine lv_iload_n hx hb dL_law_816 rfl (lv_at hl 3 rfl) ?_
  refine lv_iconst (v := 3) hx hb dL_law_817 (by decide) ?_
  refine lv_iadd hx hb dL_law_818 ?_
  refine va_sld hx hb hSc hbl hbA hZ.2.2 (sc_in (j := 3) (by omega) hL) dL_law_819 ?_
  refine lv_aload_n hx hb dL_law_820 rfl (lv_at hl 0 rfl) ?_
  refine lv_iload_n hx hb dL_law_821 rfl (lv_at hl 3 rfl) ?_
  refine lv_iconst (v := 4) hx hb dL_law_822 (by decide) ?_
  refine lv_iadd hx hb dL_law_823 ?_
  refine va_sld hx hb hSc hbl hbA hZ.2.2 (sc_in (j := 4) (by omega) hL) dL_law_824 ?_
  refine lv_aload_n hx hb dL_law_825 rfl (lv_at hl 0 rfl) ?_
  refine lv_iload_n hx hb dL_law_826 rfl (lv_at hl 3 rfl) ?_
  refine lv_iconst (v := 5) hx hb dL_law_827 (by decide) ?_
  refine lv_iadd hx hb dL_law_828 ?_
  refine va_sld hx hb hSc hbl hbA hZ.2.2 (sc_in (j := 5) (by omega) hL) dL_law_829 ?_
  refine k_LW (B := BK_ aC a x t n n2 v d v2 d2 g w v3 d3 q r o) (B' := BK_ aC a x t n n2 v d v2 d2 g w v3 d3 q u.2 o) (As := [.int (xs (nI i + 1).toNatClampNeg), .int (xs (nI i + 2).toNatClampNeg), .int (xs (nI i + 3).toNatClampNeg), .int (xs (nI i + 4).toNatClampNeg), .int (xs (nI i + 5).toNatClampNeg)]) (rest := []) (v := some (.int u.1)) (st1 := [.int u.1]) hX hl.1 [0, 13] [1, 2, 3, 4, 5, 6, 7, 8, 9, 10, 11, 12, 14] A15 hZ (by decide) (c_X8_copy (aC := aC) (a_x := a 0) (a_r := a 13) (a_t := a 1) (a_n := a 2) (a_n2 := a 3) (a_v := a 4) (a_v2 := a 6) (a_g := a 8) (a_w := a 9) (a_q := a 12) x r (xs (nI i + 1).toNatClampNeg) (xs (nI i + 2).toNatClampNeg) (xs (nI i + 3).toNatClampNeg) (xs (nI i + 4).toNatClampNeg) (xs (nI i + 5).toNatClampNeg) hu) rfl rfl (gv_ wyn_211 wyn_212 wyn_213 wyn_4 wyn_214) rfl hd_X8_copy ⟨rfl, rfl⟩ 8 rfl rfl rfl rfl rfl dL_law_830 rfl ⟨rfl, rfl⟩ (fun H locs hZ => ?_)
  refine lv_aload_n hx hb dL_law_833 rfl (lv_at hl 2 rfl) ?_
  refine lv_aload_n hx hb dL_law_834 rfl (lv_at hl 0 rfl) ?_
  refine lv_iload_n hx hb dL_law_835 rfl (lv_at hl 3 rfl) ?_
  refine lv_iconst (v := 1) hx hb dL_law_836 (by decide) ?_
  refine lv_iadd hx hb dL_law_837 ?_
  refine va_sld hx hb hSc hbl hbA hZ.2.2 (sc_in (j := 1) (by omega) hL) dL_law_838 ?_
  refine lv_aload_n hx hb dL_law_839 rfl (lv_at hl 0 rfl) ?_
  refine lv_iload_n hx hb dL_law_840 rfl (lv_at hl 3 rfl) ?_
  refine lv_iconst (v := 2) hx hb dL_law_841 (by decide) ?_
  refine lv_iadd hx hb dL_law_842 ?_
  refine va_sld hx hb hSc hbl hbA hZ.2.2 (sc_in (j := 2) (by omega) hL) dL_law_843 ?_
  refine lv_aload_n hx hb dL_law_844 rfl (lv_at hl 0 rfl) ?_
  refine lv_iload_n hx hb dL_law_845 rfl (lv_at hl 3 rfl) ?_
  refine lv_iconst (v := 3) hx hb dL_law_846 (by decide) ?_
  refine lv_iadd hx hb dL_law_847 ?_
  refine va_sld hx hb hSc hbl hbA hZ.2.2 (sc_in (j := 3) (by omega) hL) dL_law_848 ?_
  refine lv_aload_n hx hb dL_law_849 rfl (lv_at hl 0 rfl) ?_
  refine lv_iload_n hx hb dL_law_850 rfl (lv_at hl 3 rfl) ?_
  refine lv_iconst (v := 4) hx hb dL_law_851 (by decide) ?_
  refine lv_iadd hx hb dL_law_852 ?_
  refine va_sld hx hb hSc hbl hbA hZ.2.2 (sc_in (j := 4) (by omega) hL) dL_law_853 ?_
  refine lv_aload_n hx hb dL_law_854 rfl (lv_at hl 0 rfl) ?_
  refine lv_iload_n hx hb dL_law_855 rfl (lv_at hl 3 rfl) ?_
  refine lv_iconst (v := 5) hx hb dL_law_856 (by decide) ?_
  refine lv_iadd hx hb dL_law_857 ?_
  refine va_sld hx hb hSc hbl hbA hZ.2.2 (sc_in (j := 5) (by omega) hL) dL_law_858 ?_
  refine k_LW (B := BK_ aC a x t n n2 v d v2 d2 g w v3 d3 q u.2 o) (B' := BK_ aC a x t n n2 v d v2 d2 g w v3 d3 q u.2 y.2) (As := [.int (xs (nI i + 1).toNatClampNeg), .int (xs (nI i + 2).toNatClampNeg), .int (xs (nI i + 3).toNatClampNeg), .int (xs (nI i + 4).toNatClampNeg), .int (xs (nI i + 5).toNatClampNeg)]) (rest := [.int u.1]) (v := some (.int y.1)) (st1 := [.int y.1, .int u.1]) hX hl.1 [14] [0, 1, 2, 3, 4, 5, 6, 7, 8, 9, 10, 11, 12, 13] A15 hZ (by decide) (c_X9_copy (aC := aC) (a_o := a 14) o (xs (nI i + 1).toNatClampNeg) (xs (nI i + 2).toNatClampNeg) (xs (nI i + 3).toNatClampNeg) (xs (nI i + 4).toNatClampNeg) (xs (nI i + 5).toNatClampNeg) hy) rfl rfl (gv_ wyn_215 wyn_216 wyn_217 wyn_9 wyn_218) rfl hd_X9_copy ⟨rfl, rfl⟩ 9 rfl rfl rfl rfl rfl dL_law_859 rfl ⟨rfl, rfl⟩ (fun H locs hZ => ?_)
  refine lv_icmp_eq (tgt := 1002) hx hb dL_law_862 (by decide) (fun _ => ?_) (fun cd => absurd e1 cd)
  exact kk _ _ _ _ _ _ _ _ _ _ _ _ _ _ _ _ _ hR hZ
set_option maxHeartbeats 4000000 in
set_option maxRecDepth 100000 in
theorem lc_append (hE : EX_ adK adV tA A s s.heap) (hX : K_X p s m args meth c cL_law 4 WL_ RL D aC A) (hSc : va_X b L xs s s.heap) (hbl : b < s.heap.size) (hbA : ¬ A b) (hi : i + 6 ≤ L) (hL : L ≤ 3072) (h : RR_ x t n v w g q r o) (hZ : K_S D A s (FL (BK_ aC a x t n n2 v d v2 d2 g w v3 d3 q r o) A15) H locs) (hl : lv_has ls 4 [(0, .ref b), (1, .ref (a 0 0)), (2, .ref (a 14 0)), (3, .int (nI i))]) (kk : ∀ (x t n n2 v d v2 d2 g w v3 d3 q r o : Ob_T) (H : Heap) (locs : List Loc), RR_ x t n v w g q r o → K_S D A s (FL (BK_ aC a x t n n2 v d v2 d2 g w v3 d3 q r o) A15) H locs → W p l e room_1 s m args below meth c H locs 86 1484 Q (F0 m 1002 ls [])) : W p l e room_1 s m args below meth c H locs 86 1484 Q (F0 m 867 ls []) := by
  obtain ⟨hx, hb, hml, hown, hts, hK, hA, hlk⟩ := id hX
  obtain ⟨u, hu, y, hy, e1, hR⟩ := rr_append h (xs (nI i + 1).toNatClampNeg) (xs (nI i + 2).toNatClampNeg)
  refine lv_aload_n hx hb dL_law_867 rfl (lv_at hl 1 rfl) ?_
  refine lv_aload_n hx hb dL_law_868 rfl (lv_at hl 0 rfl) ?_
  refine lv_iload_n hx hb dL_law_869 rfl (lv_at hl 3 rfl) ?_
  refine lv_iconst (v := 1) hx hb dL_law_870 (by decide) ?_
  refine lv_iadd hx hb dL_law_871 ?_
  refine va_sld hx hb hSc hbl hbA hZ.2.2 (sc_in (j := 1) (by omega) hL) dL_law_872 ?_
  refine lv_aload_n hx hb dL_law_873 rfl (lv_at hl 0 rfl) ?_
  refine lv_iload_n hx hb dL_law_874 rfl (lv_at hl 3 rfl) ?_
  refine lv_iconst (v := 2) hx hb dL_law_875 (by decide) ?_
  refine lv_iadd hx hb dL_law_876 ?_
  refine va_sld hx hb hSc hbl hbA hZ.2.2 (sc_in (j := 2) (by omega) hL) dL_law_877 ?_
  refine k_LW (B := BK_ aC a x t n n2 v d v2 d2 g w v3 d3 q r o) (B' := BK_ aC a x t n n2 v d v2 d2 g w v3 d3 q u.2 o) (As := [.int (xs (nI i + 1).toNatClampNeg), .int (xs (nI i + 2).toNatClampNeg)]) (rest := []) (v := some (.int u.1)) (st1 := [.int u.1]) hX hl.1 [0, 13] [1, 2, 3, 4, 5, 6, 7, 8, 9, 10, 11, 12, 14] A15 hZ (by decide) (c_X8_append (aC := aC) (a_x := a 0) (a_r := a 13) (a_t := a 1) (a_n := a 2) (a_n2 := a 3) (a_v := a 4) (a_v2 := a 6) (a_g := a 8) (a_w := a 9) (a_q := a 12) x r (xs (nI i + 1).toNatClampNeg) (xs (nI i + 2).toNatClampNeg) hu) rfl rfl (gv_ wyn_219 wyn_220 wyn_221 wyn_4 wyn_222) rfl hd_X8_append ⟨rfl, rfl⟩ 8 rfl rfl rfl rfl rfl dL_law_878 rfl ⟨rfl, rfl⟩ (fun H locs hZ => ?_)
  refine lv_aload_n hx hb dL_law_881 rfl (lv_at hl 2 rfl) ?_
  refine lv_aload_n hx hb dL_law_882 rfl (lv_at hl 0 rfl) ?_
  refine lv_iload_n hx hb dL_law_883 rfl (lv_at hl 3 rfl) ?_
  refine lv_iconst (v := 1) hx hb dL_law_884 (by decide) ?_
  refine lv_iadd hx hb dL_law_885 ?_
  refine va_sld hx hb hSc hbl hbA hZ.2.2 (sc_in (j := 1) (by omega) hL) dL_law_886 ?_
  refine lv_aload_n hx hb dL_law_887 rfl (lv_at hl 0 rfl) ?_
  refine lv_iload_n hx hb dL_law_888 rfl (lv_at hl 3 rfl) ?_
  refine lv_iconst (v := 2) hx hb dL_law_889 (by decide) ?_
  refine lv_iadd hx hb dL_law_890 ?_
  refine va_sld hx hb hSc hbl hbA hZ.2.2 (sc_in (j := 2) (by omega) hL) dL_law_891 ?_
  refine k_LW (B := BK_ aC a x t n n2 v d v2 d2 g w v3 d3 q u.2 o) (B' := BK_ aC a x t n n2 v d v2 d2 g w v3 d3 q u.2 y.2) (As := [.int (xs (nI i + 1).toNatClampNeg), .int (xs (nI i + 2).toNatClampNeg)]) (rest := [.int u.1]) (v := some (.int y.1)) (st1 := [.int y.1, .int u.1]) hX hl.1 [14] [0, 1, 2, 3, 4, 5, 6, 7, 8, 9, 10, 11, 12, 13] A15 hZ (by decide) (c_X9_append (aC := aC) (a_o := a 14) o (xs (nI i + 1).toNatClampNeg) (xs (nI i + 2).toNatClampNeg) hy) rfl rfl (gv_ wyn_223 wyn_224 wyn_225 wyn_9 wyn_226) rfl hd_X9_append ⟨rfl, rfl⟩ 9 rfl rfl rfl rfl rfl dL_law_892 rfl ⟨rfl, rfl⟩ (fun H locs hZ => ?_)
  refine lv_icmp_eq (tgt := 1002) hx hb dL_law_895 (by decide) (fun _ => ?_) (fun cd => absurd e1 cd)
  exact kk _ _ _ _ _ _ _ _ _ _ _ _ _ _ _ _ _ hR hZ
set_option maxHeartbeats 4000000 in
set_option maxRecDepth 100000 in
theorem lc_load (hE : EX_ adK adV tA A s s.heap) (hX : K_X p s m args meth c cL_law 4 WL_ RL D aC A) (hSc : va_X b L xs s s.heap) (hbl : b < s.heap.size) (hbA : ¬ A b) (hi : i + 6 ≤ L) (hL : L ≤ 3072) (h : RR_ x t n v w g q r o) (hZ : K_S D A s (FL (BK_ aC a x t n n2 v d v2 d2 g w v3 d3 q r o) A15) H locs) (hl : lv_has ls 4 [(0, .ref b), (1, .ref (a 0 0)), (2, .ref (a 14 0)), (3, .int (nI i))]) (kk : ∀ (x t n n2 v d v2 d2 g w v3 d3 q r o : Ob_T) (H : Heap) (locs : List Loc), RR_ x t n v w g q r o → K_S D A s (FL (BK_ aC a x t n n2 v d v2 d2 g w v3 d3 q r o) A15) H locs → W p l e room_1 s m args below meth c H locs 86 1484 Q (F0 m 1002 ls [])) : W p l e room_1 s m args below meth c H locs 86 1484 Q (F0 m 900 ls []) := by
  obtain ⟨hx, hb, hml, hown, hts, hK, hA, hlk⟩ := id hX
  obtain ⟨u, hu, y, hy, e1, hR⟩ := rr_load h d (xs (nI i + 1).toNatClampNeg) (xs (nI i + 2).toNatClampNeg)
  refine lv_aload_n hx hb dL_law_900 rfl (lv_at hl 1 rfl) ?_
  refine lv_aload_n hx hb dL_law_901 rfl (lv_at hl 0 rfl) ?_
  refine lv_iload_n hx hb dL_law_902 rfl (lv_at hl 3 rfl) ?_
  refine lv_iconst (v := 1) hx hb dL_law_903 (by decide) ?_
  refine lv_iadd hx hb dL_law_904 ?_
  refine va_sld hx hb hSc hbl hbA hZ.2.2 (sc_in (j := 1) (by omega) hL) dL_law_905 ?_
  refine lv_aload_n hx hb dL_law_906 rfl (lv_at hl 0 rfl) ?_
  refine lv_iload_n hx hb dL_law_907 rfl (lv_at hl 3 rfl) ?_
  refine lv_iconst (v := 2) hx hb dL_law_908 (by decide) ?_
  refine lv_iadd hx hb dL_law_909 ?_
  refine va_sld hx hb hSc hbl hbA hZ.2.2 (sc_in (j := 2) (by omega) hL) dL_law_910 ?_
  refine k_LW (B := BK_ aC a x t n n2 v d v2 d2 g w v3 d3 q r o) (B' := BK_ aC a u.2.1 t n n2 u.2.2.1 u.2.2.2.1 v2 d2 g w v3 d3 q u.2.2.2.2 o) (As := [.int (xs (nI i + 1).toNatClampNeg), .int (xs (nI i + 2).toNatClampNeg)]) (rest := []) (v := some (.int u.1)) (st1 := [.int u.1]) hX hl.1 [0, 2, 4, 5, 8, 13] [1, 3, 6, 7, 9, 10, 11, 12, 14] A15 hZ (by decide) (c_X8_load (aC := aC) (a_x := a 0) (a_n := a 2) (a_v := a 4) (a_d := a 5) (a_g := a 8) (a_r := a 13) (a_t := a 1) (a_n2 := a 3) (a_v2 := a 6) (a_w := a 9) (a_q := a 12) x n v d g r (xs (nI i + 1).toNatClampNeg) (xs (nI i + 2).toNatClampNeg) hu) rfl rfl (gv_ wyn_227 wyn_228 wyn_229 wyn_4 wyn_230) rfl hd_X8_load ⟨rfl, rfl⟩ 8 rfl rfl rfl rfl rfl dL_law_911 rfl ⟨rfl, rfl⟩ (fun H locs hZ => ?_)
  refine lv_aload_n hx hb dL_law_914 rfl (lv_at hl 2 rfl) ?_
  refine lv_aload_n hx hb dL_law_915 rfl (lv_at hl 0 rfl) ?_
  refine lv_iload_n hx hb dL_law_916 rfl (lv_at hl 3 rfl) ?_
  refine lv_iconst (v := 1) hx hb dL_law_917 (by decide) ?_
  refine lv_iadd hx hb dL_law_918 ?_
  refine va_sld hx hb hSc hbl hbA hZ.2.2 (sc_in (j := 1) (by omega) hL) dL_law_919 ?_
  refine lv_aload_n hx hb dL_law_920 rfl (lv_at hl 0 rfl) ?_
  refine lv_iload_n hx hb dL_law_921 rfl (lv_at hl 3 rfl) ?_
  refine lv_iconst (v := 2) hx hb dL_law_922 (by decide) ?_
  refine lv_iadd hx hb dL_law_923 ?_
  refine va_sld hx hb hSc hbl hbA hZ.2.2 (sc_in (j := 2) (by omega) hL) dL_law_924 ?_
  refine k_LW (B := BK_ aC a u.2.1 t n n2 u.2.2.1 u.2.2.2.1 v2 d2 g w v3 d3 q u.2.2.2.2 o) (B' := BK_ aC a u.2.1 t n n2 u.2.2.1 u.2.2.2.1 v2 d2 g w v3 d3 q u.2.2.2.2 y.2) (As := [.int (xs (nI i + 1).toNatClampNeg), .int (xs (nI i + 2).toNatClampNeg)]) (rest := [.int u.1]) (v := some (.int y.1)) (st1 := [.int y.1, .int u.1]) hX hl.1 [14] [0, 1, 2, 3, 4, 5, 6, 7, 8, 9, 10, 11, 12, 13] A15 hZ (by decide) (c_X9_load (aC := aC) (a_o := a 14) o (xs (nI i + 1).toNatClampNeg) (xs (nI i + 2).toNatClampNeg) hy) rfl rfl (gv_ wyn_231 wyn_232 wyn_233 wyn_9 wyn_234) rfl hd_X9_load ⟨rfl, rfl⟩ 9 rfl rfl rfl rfl rfl dL_law_925 rfl ⟨rfl, rfl⟩ (fun H locs hZ => ?_)
  refine lv_icmp_eq (tgt := 1002) hx hb dL_law_928 (by decide) (fun _ => ?_) (fun cd => absurd e1 cd)
  exact kk _ _ _ _ _ _ _ _ _ _ _ _ _ _ _ _ _ hR hZ
set_option maxHeartbeats 4000000 in
set_option maxRecDepth 100000 in
theorem lc_sum (hE : EX_ adK adV tA A s s.heap) (hX : K_X p s m args meth c cL_law 4 WL_ RL D aC A) (hSc : va_X b L xs s s.heap) (hbl : b < s.heap.size) (hbA : ¬ A b) (hi : i + 6 ≤ L) (hL : L ≤ 3072) (h : RR_ x t n v w g q r o) (hZ : K_S D A s (FL (BK_ aC a x t n n2 v d v2 d2 g w v3 d3 q r o) A15) H locs) (hl : lv_has ls 4 [(0, .ref b), (1, .ref (a 0 0)), (2, .ref (a 14 0)), (3, .int (nI i))]) (kk : ∀ (x t n n2 v d v2 d2 g w v3 d3 q r o : Ob_T) (H : Heap) (locs : List Loc), RR_ x t n v w g q r o → K_S D A s (FL (BK_ aC a x t n n2 v d v2 d2 g w v3 d3 q r o) A15) H locs → W p l e room_1 s m args below meth c H locs 86 1484 Q (F0 m 1002 ls [])) : W p l e room_1 s m args below meth c H locs 86 1484 Q (F0 m 933 ls []) := by
  obtain ⟨hx, hb, hml, hown, hts, hK, hA, hlk⟩ := id hX
  obtain ⟨u, hu, y, hy, e1⟩ := rr_sum h (xs (nI i + 1).toNatClampNeg)
  refine lv_aload_n hx hb dL_law_933 rfl (lv_at hl 1 rfl) ?_
  refine lv_aload_n hx hb dL_law_934 rfl (lv_at hl 0 rfl) ?_
  refine lv_iload_n hx hb dL_law_935 rfl (lv_at hl 3 rfl) ?_
  refine lv_iconst (v := 1) hx hb dL_law_936 (by decide) ?_
  refine lv_iadd hx hb dL_law_937 ?_
  refine va_sld hx hb hSc hbl hbA hZ.2.2 (sc_in (j := 1) (by omega) hL) dL_law_938 ?_
  refine k_LR (B := BK_ aC a x t n n2 v d v2 d2 g w v3 d3 q r o) (As := [.int (xs (nI i + 1).toNatClampNeg)]) (rest := []) (v := some (.int u)) (st1 := [.int u]) hX hl.1 [0, 13] [1, 2, 3, 4, 5, 6, 7, 8, 9, 10, 11, 12, 14] A15 hZ (by decide) (c_X8_sum (aC := aC) (a_x := a 0) (a_r := a 13) (a_t := a 1) (a_n := a 2) (a_n2 := a 3) (a_v := a 4) (a_v2 := a 6) (a_g := a 8) (a_w := a 9) (a_q := a 12) x r (xs (nI i + 1).toNatClampNeg) hu) (gv_ wyn_235 wyn_236 wyn_237 wyn_4 wyn_238) rfl hd_X8_sum ⟨rfl, rfl⟩ 8 rfl rfl rfl rfl rfl dL_law_939 rfl ⟨rfl, rfl⟩ (fun locs hZ => ?_)
  refine lv_aload_n hx hb dL_law_942 rfl (lv_at hl 2 rfl) ?_
  refine lv_aload_n hx hb dL_law_943 rfl (lv_at hl 0 rfl) ?_
  refine lv_iload_n hx hb dL_law_944 rfl (lv_at hl 3 rfl) ?_
  refine lv_iconst (v := 1) hx hb dL_law_945 (by decide) ?_
  refine lv_iadd hx hb dL_law_946 ?_
  refine va_sld hx hb hSc hbl hbA hZ.2.2 (sc_in (j := 1) (by omega) hL) dL_law_947 ?_
  refine k_LR (B := BK_ aC a x t n n2 v d v2 d2 g w v3 d3 q r o) (As := [.int (xs (nI i + 1).toNatClampNeg)]) (rest := [.int u]) (v := some (.int y)) (st1 := [.int y, .int u]) hX hl.1 [14] [0, 1, 2, 3, 4, 5, 6, 7, 8, 9, 10, 11, 12, 13] A15 hZ (by decide) (c_X9_sum (aC := aC) (a_o := a 14) o (xs (nI i + 1).toNatClampNeg) hy) (gv_ wyn_239 wyn_240 wyn_241 wyn_9 wyn_242) rfl hd_X9_sum ⟨rfl, rfl⟩ 9 rfl rfl rfl rfl rfl dL_law_948 rfl ⟨rfl, rfl⟩ (fun locs hZ => ?_)
  refine lv_icmp_eq (tgt := 1002) hx hb dL_law_951 (by decide) (fun _ => ?_) (fun cd => absurd e1 cd)
  exact kk _ _ _ _ _ _ _ _ _ _ _ _ _ _ _ _ _ h hZ
set_option maxHeartbeats 4000000 in
set_option maxRecDepth 100000 in
theorem lc_drop (hE : EX_ adK adV tA A s s.heap) (hX : K_X p s m args meth c cL_law 4 WL_ RL D aC A) (hSc : va_X b L xs s s.heap) (hbl : b < s.heap.size) (hbA : ¬ A b) (hi : i + 6 ≤ L) (hL : L ≤ 3072) (h : RR_ x t n v w g q r o) (hZ : K_S D A s (FL (BK_ aC a x t n n2 v d v2 d2 g w v3 d3 q r o) A15) H locs) (hl : lv_has ls 4 [(0, .ref b), (1, .ref (a 0 0)), (2, .ref (a 14 0)), (3, .int (nI i))]) (kk : ∀ (x t n n2 v d v2 d2 g w v3 d3 q r o : Ob_T) (H : Heap) (locs : List Loc), RR_ x t n v w g q r o → K_S D A s (FL (BK_ aC a x t n n2 v d v2 d2 g w v3 d3 q r o) A15) H locs → W p l e room_1 s m args below meth c H locs 86 1484 Q (F0 m 1002 ls [])) : W p l e room_1 s m args below meth c H locs 86 1484 Q (F0 m 956 ls []) := by
  obtain ⟨hx, hb, hml, hown, hts, hK, hA, hlk⟩ := id hX
  obtain ⟨u, hu, y, hy, e1, hR⟩ := rr_drop h (xs (nI i + 1).toNatClampNeg)
  refine lv_aload_n hx hb dL_law_956 rfl (lv_at hl 1 rfl) ?_
  refine lv_aload_n hx hb dL_law_957 rfl (lv_at hl 0 rfl) ?_
  refine lv_iload_n hx hb dL_law_958 rfl (lv_at hl 3 rfl) ?_
  refine lv_iconst (v := 1) hx hb dL_law_959 (by decide) ?_
  refine lv_iadd hx hb dL_law_960 ?_
  refine va_sld hx hb hSc hbl hbA hZ.2.2 (sc_in (j := 1) (by omega) hL) dL_law_961 ?_
  refine k_LW (B := BK_ aC a x t n n2 v d v2 d2 g w v3 d3 q r o) (B' := BK_ aC a x t n n2 v d v2 d2 g w v3 d3 q u.2 o) (As := [.int (xs (nI i + 1).toNatClampNeg)]) (rest := []) (v := some (.int u.1)) (st1 := [.int u.1]) hX hl.1 [0, 13] [1, 2, 3, 4, 5, 6, 7, 8, 9, 10, 11, 12, 14] A15 hZ (by decide) (c_X8_drop (aC := aC) (a_x := a 0) (a_r := a 13) (a_t := a 1) (a_n := a 2) (a_n2 := a 3) (a_v := a 4) (a_v2 := a 6) (a_g := a 8) (a_w := a 9) (a_q := a 12) x r (xs (nI i + 1).toNatClampNeg) hu) rfl rfl (gv_ wyn_243 wyn_244 wyn_245 wyn_4 wyn_246) rfl hd_X8_drop ⟨rfl, rfl⟩ 8 rfl rfl rfl rfl rfl dL_law_962 rfl ⟨rfl, rfl⟩ (fun H locs hZ => ?_)
  refine lv_aload_n hx hb dL_law_965 rfl (lv_at hl 2 rfl) ?_
  refine lv_aload_n hx hb dL_law_966 rfl (lv_at hl 0 rfl) ?_
  refine lv_iload_n hx hb dL_law_967 rfl (lv_at hl 3 rfl) ?_
  refine lv_iconst (v := 1) hx hb dL_law_968 (by decide) ?_
  refine lv_iadd hx hb dL_law_969 ?_
  refine va_sld hx hb hSc hbl hbA hZ.2.2 (sc_in (j := 1) (by omega) hL) dL_law_970 ?_
  refine k_LW (B := BK_ aC a x t n n2 v d v2 d2 g w v3 d3 q u.2 o) (B' := BK_ aC a x t n n2 v d v2 d2 g w v3 d3 q u.2 y.2) (As := [.int (xs (nI i + 1).toNatClampNeg)]) (rest := [.int u.1]) (v := some (.int y.1)) (st1 := [.int y.1, .int u.1]) hX hl.1 [14] [0, 1, 2, 3, 4, 5, 6, 7, 8, 9, 10, 11, 12, 13] A15 hZ (by decide) (c_X9_drop (aC := aC) (a_o := a 14) o (xs (nI i + 1).toNatClampNeg) hy) rfl rfl (gv_ wyn_247 wyn_248 wyn_249 wyn_9 wyn_250) rfl hd_X9_drop ⟨rfl, rfl⟩ 9 rfl rfl rfl rfl rfl dL_law_971 rfl ⟨rfl, rfl⟩ (fun H locs hZ => ?_)
  refine lv_icmp_eq (tgt := 1002) hx hb dL_law_974 (by decide) (fun _ => ?_) (fun cd => absurd e1 cd)
  exact kk _ _ _ _ _ _ _ _ _ _ _ _ _ _ _ _ _ hR hZ
set_option maxHeartbeats 4000000 in
set_option maxRecDepth 100000 in
theorem lc_count (hE : EX_ adK adV tA A s s.heap) (hX : K_X p s m args meth c cL_law 4 WL_ RL D aC A) (hSc : va_X b L xs s s.heap) (hbl : b < s.heap.size) (hbA : ¬ A b) (hi : i + 6 ≤ L) (hL : L ≤ 3072) (h : RR_ x t n v w g q r o) (hZ : K_S D A s (FL (BK_ aC a x t n n2 v d v2 d2 g w v3 d3 q r o) A15) H locs) (hl : lv_has ls 4 [(0, .ref b), (1, .ref (a 0 0)), (2, .ref (a 14 0)), (3, .int (nI i))]) (kk : ∀ (x t n n2 v d v2 d2 g w v3 d3 q r o : Ob_T) (H : Heap) (locs : List Loc), RR_ x t n v w g q r o → K_S D A s (FL (BK_ aC a x t n n2 v d v2 d2 g w v3 d3 q r o) A15) H locs → W p l e room_1 s m args below meth c H locs 86 1484 Q (F0 m 1002 ls [])) : W p l e room_1 s m args below meth c H locs 86 1484 Q (F0 m 979 ls []) := by
  obtain ⟨hx, hb, hml, hown, hts, hK, hA, hlk⟩ := id hX
  obtain ⟨u, hu, y, hy, e1⟩ := rr_count h (xs (nI i + 1).toNatClampNeg)
  refine lv_aload_n hx hb dL_law_979 rfl (lv_at hl 1 rfl) ?_
  refine lv_aload_n hx hb dL_law_980 rfl (lv_at hl 0 rfl) ?_
  refine lv_iload_n hx hb dL_law_981 rfl (lv_at hl 3 rfl) ?_
  refine lv_iconst (v := 1) hx hb dL_law_982 (by decide) ?_
  refine lv_iadd hx hb dL_law_983 ?_
  refine va_sld hx hb hSc hbl hbA hZ.2.2 (sc_in (j := 1) (by omega) hL) dL_law_984 ?_
  refine k_LR (B := BK_ aC a x t n n2 v d v2 d2 g w v3 d3 q r o) (As := [.int (xs (nI i + 1).toNatClampNeg)]) (rest := []) (v := some (.int u)) (st1 := [.int u]) hX hl.1 [0, 1, 2, 8, 12, 13] [3, 4, 5, 6, 7, 9, 10, 11, 14] A15 hZ (by decide) (c_X8_count (aC := aC) (a_x := a 0) (a_t := a 1) (a_n := a 2) (a_g := a 8) (a_q := a 12) (a_r := a 13) (a_n2 := a 3) (a_v := a 4) (a_v2 := a 6) (a_w := a 9) x t n g q r (xs (nI i + 1).toNatClampNeg) hu) (gv_ wyn_251 wyn_252 wyn_253 wyn_4 wyn_254) rfl hd_X8_count ⟨rfl, rfl⟩ 8 rfl rfl rfl rfl rfl dL_law_985 rfl ⟨rfl, rfl⟩ (fun locs hZ => ?_)
  refine lv_aload_n hx hb dL_law_988 rfl (lv_at hl 2 rfl) ?_
  refine lv_aload_n hx hb dL_law_989 rfl (lv_at hl 0 rfl) ?_
  refine lv_iload_n hx hb dL_law_990 rfl (lv_at hl 3 rfl) ?_
  refine lv_iconst (v := 1) hx hb dL_law_991 (by decide) ?_
  refine lv_iadd hx hb dL_law_992 ?_
  refine va_sld hx hb hSc hbl hbA hZ.2.2 (sc_in (j := 1) (by omega) hL) dL_law_993 ?_
  refine k_LR (B := BK_ aC a x t n n2 v d v2 d2 g w v3 d3 q r o) (As := [.int (xs (nI i + 1).toNatClampNeg)]) (rest := [.int u]) (v := some (.int y)) (st1 := [.int y, .int u]) hX hl.1 [14] [0, 1, 2, 3, 4, 5, 6, 7, 8, 9, 10, 11, 12, 13] A15 hZ (by decide) (c_X9_count (aC := aC) (a_o := a 14) o (xs (nI i + 1).toNatClampNeg) hy) (gv_ wyn_255 wyn_256 wyn_257 wyn_9 wyn_258) rfl hd_X9_count ⟨rfl, rfl⟩ 9 rfl rfl rfl rfl rfl dL_law_994 rfl ⟨rfl, rfl⟩ (fun locs hZ => ?_)
  refine lv_icmp_eq (tgt := 1002) hx hb dL_law_997 (by decide) (fun _ => ?_) (fun cd => absurd e1 cd)
  exact kk _ _ _ _ _ _ _ _ _ _ _ _ _ _ _ _ _ h hZ
end LAWC
