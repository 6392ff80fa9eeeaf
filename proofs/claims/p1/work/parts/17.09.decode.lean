theorem d_L_law_755 : decode code 755 = .ok (.iaload, 1) := by decide +kernel
theorem d_L_law_764 : decode code 764 = .ok (.aload_n 1, 1) := by decide +kernel
theorem d_L_law_759 : decode code 759 = .ok (.if_icmp .eq 643, 3) := by decide +kernel
theorem d_L_law_768 : decode code 768 = .ok (.iadd, 1) := by decide +kernel
theorem d_L_law_767 : decode code 767 = .ok (.iconst 1, 1) := by decide +kernel
theorem d_L_law_766 : decode code 766 = .ok (.iload_n 3, 1) := by decide +kernel
theorem d_L_law_770 : decode code 770 = .ok (.invokevirtual 99, 3) := by decide +kernel
theorem d_L_law_769 : decode code 769 = .ok (.iaload, 1) := by decide +kernel
theorem d_L_law_782 : decode code 782 = .ok (.if_icmp .eq 620, 3) := by decide +kernel
theorem d_L_law_777 : decode code 777 = .ok (.iadd, 1) := by decide +kernel
theorem d_L_law_775 : decode code 775 = .ok (.iload_n 3, 1) := by decide +kernel
theorem d_L_law_774 : decode code 774 = .ok (.aload_n 0, 1) := by decide +kernel
theorem d_L_law_776 : decode code 776 = .ok (.iconst 1, 1) := by decide +kernel
theorem d_L_law_779 : decode code 779 = .ok (.invokevirtual 102, 3) := by decide +kernel
theorem d_L_law_778 : decode code 778 = .ok (.iaload, 1) := by decide +kernel
theorem d_L_law_789 : decode code 789 = .ok (.iload_n 3, 1) := by decide +kernel
theorem d_L_law_788 : decode code 788 = .ok (.aload_n 0, 1) := by decide +kernel
theorem d_L_law_787 : decode code 787 = .ok (.aload_n 1, 1) := by decide +kernel
theorem d_L_law_791 : decode code 791 = .ok (.iadd, 1) := by decide +kernel
theorem d_L_law_790 : decode code 790 = .ok (.iconst 1, 1) := by decide +kernel
theorem d_L_law_1099 : decode code 1099 = .ok (.invokevirtual 151, 3) := by decide +kernel
theorem d_L_law_930 : decode code 930 = .ok (.aload_n 0, 1) := by decide +kernel
theorem d_L_law_863 : decode code 863 = .ok (.aload_n 0, 1) := by decide +kernel
theorem d_L_law_829 : decode code 829 = .ok (.aload_n 2, 1) := by decide +kernel
theorem d_L_law_808 : decode code 808 = .ok (.iload_n 3, 1) := by decide +kernel
theorem d_L_law_801 : decode code 801 = .ok (.aload_n 2, 1) := by decide +kernel
theorem d_L_law_796 : decode code 796 = .ok (.iadd, 1) := by decide +kernel
theorem d_L_law_794 : decode code 794 = .ok (.iload_n 3, 1) := by decide +kernel
theorem d_L_law_793 : decode code 793 = .ok (.aload_n 0, 1) := by decide +kernel
theorem d_L_law_795 : decode code 795 = .ok (.iconst 2, 1) := by decide +kernel
theorem d_L_law_798 : decode code 798 = .ok (.invokevirtual 103, 3) := by decide +kernel
theorem d_L_law_797 : decode code 797 = .ok (.iaload, 1) := by decide +kernel
theorem d_L_law_805 : decode code 805 = .ok (.iadd, 1) := by decide +kernel
theorem d_L_law_803 : decode code 803 = .ok (.iload_n 3, 1) := by decide +kernel
theorem d_L_law_802 : decode code 802 = .ok (.aload_n 0, 1) := by decide +kernel
theorem d_L_law_804 : decode code 804 = .ok (.iconst 1, 1) := by decide +kernel
theorem d_L_law_807 : decode code 807 = .ok (.aload_n 0, 1) := by decide +kernel
theorem d_L_law_806 : decode code 806 = .ok (.iaload, 1) := by decide +kernel
theorem d_L_law_821 : decode code 821 = .ok (.aload_n 0, 1) := by decide +kernel
theorem d_L_law_812 : decode code 812 = .ok (.invokevirtual 106, 3) := by decide +kernel
theorem d_L_law_810 : decode code 810 = .ok (.iadd, 1) := by decide +kernel
theorem d_L_law_809 : decode code 809 = .ok (.iconst 2, 1) := by decide +kernel
theorem d_L_law_811 : decode code 811 = .ok (.iaload, 1) := by decide +kernel
theorem d_L_law_820 : decode code 820 = .ok (.aload_n 1, 1) := by decide +kernel
theorem d_L_law_815 : decode code 815 = .ok (.if_icmp .eq 587, 3) := by decide +kernel
theorem d_L_law_824 : decode code 824 = .ok (.iadd, 1) := by decide +kernel
theorem d_L_law_823 : decode code 823 = .ok (.iconst 1, 1) := by decide +kernel
theorem d_L_law_822 : decode code 822 = .ok (.iload_n 3, 1) := by decide +kernel
theorem d_L_law_826 : decode code 826 = .ok (.invokevirtual 107, 3) := by decide +kernel
theorem d_L_law_825 : decode code 825 = .ok (.iaload, 1) := by decide +kernel
theorem d_L_law_848 : decode code 848 = .ok (.iaload, 1) := by decide +kernel
theorem d_L_law_838 : decode code 838 = .ok (.if_icmp .eq 564, 3) := by decide +kernel
theorem d_L_law_833 : decode code 833 = .ok (.iadd, 1) := by decide +kernel
theorem d_L_law_831 : decode code 831 = .ok (.iload_n 3, 1) := by decide +kernel
theorem d_L_law_830 : decode code 830 = .ok (.aload_n 0, 1) := by decide +kernel
theorem d_L_law_832 : decode code 832 = .ok (.iconst 1, 1) := by decide +kernel
theorem d_L_law_835 : decode code 835 = .ok (.invokevirtual 110, 3) := by decide +kernel
theorem d_L_law_834 : decode code 834 = .ok (.iaload, 1) := by decide +kernel
theorem d_L_law_845 : decode code 845 = .ok (.iload_n 3, 1) := by decide +kernel
theorem d_L_law_844 : decode code 844 = .ok (.aload_n 0, 1) := by decide +kernel
theorem d_L_law_843 : decode code 843 = .ok (.aload_n 1, 1) := by decide +kernel
theorem d_L_law_847 : decode code 847 = .ok (.iadd, 1) := by decide +kernel
theorem d_L_law_846 : decode code 846 = .ok (.iconst 1, 1) := by decide +kernel
theorem d_L_law_855 : decode code 855 = .ok (.iload_n 3, 1) := by decide +kernel
theorem d_L_law_852 : decode code 852 = .ok (.iadd, 1) := by decide +kernel
theorem d_L_law_850 : decode code 850 = .ok (.iload_n 3, 1) := by decide +kernel
theorem d_L_law_849 : decode code 849 = .ok (.aload_n 0, 1) := by decide +kernel
theorem d_L_law_851 : decode code 851 = .ok (.iconst 2, 1) := by decide +kernel
theorem d_L_law_854 : decode code 854 = .ok (.aload_n 0, 1) := by decide +kernel
theorem d_L_law_853 : decode code 853 = .ok (.iaload, 1) := by decide +kernel
theorem d_L_law_858 : decode code 858 = .ok (.iaload, 1) := by decide +kernel
theorem d_L_law_857 : decode code 857 = .ok (.iadd, 1) := by decide +kernel
theorem d_L_law_856 : decode code 856 = .ok (.iconst 3, 1) := by decide +kernel
theorem d_L_law_862 : decode code 862 = .ok (.aload_n 2, 1) := by decide +kernel
theorem d_L_law_859 : decode code 859 = .ok (.invokevirtual 111, 3) := by decide +kernel
theorem d_L_law_896 : decode code 896 = .ok (.iaload, 1) := by decide +kernel
theorem d_L_law_877 : decode code 877 = .ok (.iaload, 1) := by decide +kernel
theorem d_L_law_870 : decode code 870 = .ok (.iconst 2, 1) := by decide +kernel
theorem d_L_law_867 : decode code 867 = .ok (.iaload, 1) := by decide +kernel
theorem d_L_law_865 : decode code 865 = .ok (.iconst 1, 1) := by decide +kernel
theorem d_L_law_864 : decode code 864 = .ok (.iload_n 3, 1) := by decide +kernel
theorem d_L_law_866 : decode code 866 = .ok (.iadd, 1) := by decide +kernel
theorem d_L_law_869 : decode code 869 = .ok (.iload_n 3, 1) := by decide +kernel
theorem d_L_law_868 : decode code 868 = .ok (.aload_n 0, 1) := by decide +kernel
theorem d_L_law_874 : decode code 874 = .ok (.iload_n 3, 1) := by decide +kernel
theorem d_L_law_872 : decode code 872 = .ok (.iaload, 1) := by decide +kernel
theorem d_L_law_871 : decode code 871 = .ok (.iadd, 1) := by decide +kernel
theorem d_L_law_873 : decode code 873 = .ok (.aload_n 0, 1) := by decide +kernel
theorem d_L_law_876 : decode code 876 = .ok (.iadd, 1) := by decide +kernel
theorem d_L_law_875 : decode code 875 = .ok (.iconst 3, 1) := by decide +kernel
theorem d_L_law_890 : decode code 890 = .ok (.iadd, 1) := by decide +kernel
theorem d_L_law_887 : decode code 887 = .ok (.aload_n 0, 1) := by decide +kernel
theorem d_L_law_881 : decode code 881 = .ok (.if_icmp .eq 521, 3) := by decide +kernel
theorem d_L_law_878 : decode code 878 = .ok (.invokevirtual 114, 3) := by decide +kernel
theorem d_L_law_886 : decode code 886 = .ok (.aload_n 1, 1) := by decide +kernel
theorem d_L_law_889 : decode code 889 = .ok (.iconst 1, 1) := by decide +kernel
theorem d_L_law_888 : decode code 888 = .ok (.iload_n 3, 1) := by decide +kernel
theorem d_L_law_893 : decode code 893 = .ok (.iload_n 3, 1) := by decide +kernel
theorem d_L_law_892 : decode code 892 = .ok (.aload_n 0, 1) := by decide +kernel
theorem d_L_law_891 : decode code 891 = .ok (.iaload, 1) := by decide +kernel
theorem d_L_law_895 : decode code 895 = .ok (.iadd, 1) := by decide +kernel
theorem d_L_law_894 : decode code 894 = .ok (.iconst 2, 1) := by decide +kernel
theorem d_L_law_911 : decode code 911 = .ok (.aload_n 0, 1) := by decide +kernel
theorem d_L_law_905 : decode code 905 = .ok (.aload_n 2, 1) := by decide +kernel
theorem d_L_law_900 : decode code 900 = .ok (.iadd, 1) := by decide +kernel
theorem d_L_law_898 : decode code 898 = .ok (.iload_n 3, 1) := by decide +kernel
theorem d_L_law_897 : decode code 897 = .ok (.aload_n 0, 1) := by decide +kernel
theorem d_L_law_899 : decode code 899 = .ok (.iconst 3, 1) := by decide +kernel
theorem d_L_law_902 : decode code 902 = .ok (.invokevirtual 115, 3) := by decide +kernel
theorem d_L_law_901 : decode code 901 = .ok (.iaload, 1) := by decide +kernel
theorem d_L_law_908 : decode code 908 = .ok (.iconst 1, 1) := by decide +kernel
theorem d_L_law_907 : decode code 907 = .ok (.iload_n 3, 1) := by decide +kernel
theorem d_L_law_906 : decode code 906 = .ok (.aload_n 0, 1) := by decide +kernel
theorem d_L_law_910 : decode code 910 = .ok (.iaload, 1) := by decide +kernel
theorem d_L_law_909 : decode code 909 = .ok (.iadd, 1) := by decide +kernel
theorem d_L_law_918 : decode code 918 = .ok (.iconst 3, 1) := by decide +kernel
theorem d_L_law_915 : decode code 915 = .ok (.iaload, 1) := by decide +kernel
theorem d_L_law_913 : decode code 913 = .ok (.iconst 2, 1) := by decide +kernel
theorem d_L_law_912 : decode code 912 = .ok (.iload_n 3, 1) := by decide +kernel
theorem d_L_law_914 : decode code 914 = .ok (.iadd, 1) := by decide +kernel
theorem d_L_law_917 : decode code 917 = .ok (.iload_n 3, 1) := by decide +kernel
theorem d_L_law_916 : decode code 916 = .ok (.aload_n 0, 1) := by decide +kernel
theorem d_L_law_921 : decode code 921 = .ok (.invokevirtual 118, 3) := by decide +kernel
theorem d_L_law_920 : decode code 920 = .ok (.iaload, 1) := by decide +kernel
theorem d_L_law_919 : decode code 919 = .ok (.iadd, 1) := by decide +kernel
theorem d_L_law_929 : decode code 929 = .ok (.aload_n 1, 1) := by decide +kernel
theorem d_L_law_924 : decode code 924 = .ok (.if_icmp .eq 478, 3) := by decide +kernel
theorem d_L_law_999 : decode code 999 = .ok (.iadd, 1) := by decide +kernel
theorem d_L_law_959 : decode code 959 = .ok (.aload_n 0, 1) := by decide +kernel
theorem d_L_law_944 : decode code 944 = .ok (.iaload, 1) := by decide +kernel
theorem d_L_law_937 : decode code 937 = .ok (.iconst 2, 1) := by decide +kernel
theorem d_L_law_934 : decode code 934 = .ok (.iaload, 1) := by decide +kernel
theorem d_L_law_932 : decode code 932 = .ok (.iconst 1, 1) := by decide +kernel
theorem d_L_law_931 : decode code 931 = .ok (.iload_n 3, 1) := by decide +kernel
theorem d_L_law_933 : decode code 933 = .ok (.iadd, 1) := by decide +kernel
theorem d_L_law_936 : decode code 936 = .ok (.iload_n 3, 1) := by decide +kernel
theorem d_L_law_935 : decode code 935 = .ok (.aload_n 0, 1) := by decide +kernel
theorem d_L_law_941 : decode code 941 = .ok (.iload_n 3, 1) := by decide +kernel
theorem d_L_law_939 : decode code 939 = .ok (.iaload, 1) := by decide +kernel
theorem d_L_law_938 : decode code 938 = .ok (.iadd, 1) := by decide +kernel
theorem d_L_law_940 : decode code 940 = .ok (.aload_n 0, 1) := by decide +kernel
theorem d_L_law_943 : decode code 943 = .ok (.iadd, 1) := by decide +kernel
theorem d_L_law_942 : decode code 942 = .ok (.iconst 3, 1) := by decide +kernel
theorem d_L_law_953 : decode code 953 = .ok (.iaload, 1) := by decide +kernel
theorem d_L_law_950 : decode code 950 = .ok (.iload_n 3, 1) := by decide +kernel
theorem d_L_law_948 : decode code 948 = .ok (.aload_n 2, 1) := by decide +kernel
theorem d_L_law_945 : decode code 945 = .ok (.invokevirtual 119, 3) := by decide +kernel
theorem d_L_law_949 : decode code 949 = .ok (.aload_n 0, 1) := by decide +kernel
theorem d_L_law_952 : decode code 952 = .ok (.iadd, 1) := by decide +kernel
theorem d_L_law_951 : decode code 951 = .ok (.iconst 1, 1) := by decide +kernel
theorem d_L_law_956 : decode code 956 = .ok (.iconst 2, 1) := by decide +kernel
theorem d_L_law_955 : decode code 955 = .ok (.iload_n 3, 1) := by decide +kernel
theorem d_L_law_954 : decode code 954 = .ok (.aload_n 0, 1) := by decide +kernel
theorem d_L_law_958 : decode code 958 = .ok (.iaload, 1) := by decide +kernel
theorem d_L_law_957 : decode code 957 = .ok (.iadd, 1) := by decide +kernel
theorem d_L_law_978 : decode code 978 = .ok (.invokevirtual 123, 3) := by decide +kernel
theorem d_L_law_972 : decode code 972 = .ok (.aload_n 1, 1) := by decide +kernel
theorem d_L_law_963 : decode code 963 = .ok (.iaload, 1) := by decide +kernel
theorem d_L_law_961 : decode code 961 = .ok (.iconst 3, 1) := by decide +kernel
theorem d_L_law_960 : decode code 960 = .ok (.iload_n 3, 1) := by decide +kernel
theorem d_L_law_962 : decode code 962 = .ok (.iadd, 1) := by decide +kernel
theorem d_L_law_967 : decode code 967 = .ok (.if_icmp .eq 435, 3) := by decide +kernel
theorem d_L_law_964 : decode code 964 = .ok (.invokevirtual 122, 3) := by decide +kernel
theorem d_L_law_975 : decode code 975 = .ok (.iconst 1, 1) := by decide +kernel
theorem d_L_law_974 : decode code 974 = .ok (.iload_n 3, 1) := by decide +kernel
theorem d_L_law_973 : decode code 973 = .ok (.aload_n 0, 1) := by decide +kernel
theorem d_L_law_977 : decode code 977 = .ok (.iaload, 1) := by decide +kernel
theorem d_L_law_976 : decode code 976 = .ok (.iadd, 1) := by decide +kernel
theorem d_L_law_987 : decode code 987 = .ok (.invokevirtual 126, 3) := by decide +kernel
theorem d_L_law_984 : decode code 984 = .ok (.iconst 1, 1) := by decide +kernel
theorem d_L_law_982 : decode code 982 = .ok (.aload_n 0, 1) := by decide +kernel
theorem d_L_law_981 : decode code 981 = .ok (.aload_n 2, 1) := by decide +kernel
theorem d_L_law_983 : decode code 983 = .ok (.iload_n 3, 1) := by decide +kernel
theorem d_L_law_986 : decode code 986 = .ok (.iaload, 1) := by decide +kernel
theorem d_L_law_985 : decode code 985 = .ok (.iadd, 1) := by decide +kernel
theorem d_L_law_996 : decode code 996 = .ok (.aload_n 0, 1) := by decide +kernel
theorem d_L_law_995 : decode code 995 = .ok (.aload_n 1, 1) := by decide +kernel
theorem d_L_law_990 : decode code 990 = .ok (.if_icmp .eq 412, 3) := by decide +kernel
theorem d_L_law_998 : decode code 998 = .ok (.iconst 1, 1) := by decide +kernel
theorem d_L_law_997 : decode code 997 = .ok (.iload_n 3, 1) := by decide +kernel
theorem d_L_law_1041 : decode code 1041 = .ok (.aload_n 1, 1) := by decide +kernel
theorem d_L_law_1020 : decode code 1020 = .ok (.iload_n 3, 1) := by decide +kernel
theorem d_L_law_1008 : decode code 1008 = .ok (.iadd, 1) := by decide +kernel
theorem d_L_law_1005 : decode code 1005 = .ok (.aload_n 0, 1) := by decide +kernel
theorem d_L_law_1001 : decode code 1001 = .ok (.invokevirtual 127, 3) := by decide +kernel
theorem d_L_law_1000 : decode code 1000 = .ok (.iaload, 1) := by decide +kernel
theorem d_L_law_1004 : decode code 1004 = .ok (.aload_n 2, 1) := by decide +kernel
theorem d_L_law_1007 : decode code 1007 = .ok (.iconst 1, 1) := by decide +kernel
theorem d_L_law_1006 : decode code 1006 = .ok (.iload_n 3, 1) := by decide +kernel
theorem d_L_law_1013 : decode code 1013 = .ok (.if_icmp .eq 389, 3) := by decide +kernel
theorem d_L_law_1010 : decode code 1010 = .ok (.invokevirtual 130, 3) := by decide +kernel
theorem d_L_law_1009 : decode code 1009 = .ok (.iaload, 1) := by decide +kernel
theorem d_L_law_1019 : decode code 1019 = .ok (.aload_n 0, 1) := by decide +kernel
theorem d_L_law_1018 : decode code 1018 = .ok (.aload_n 1, 1) := by decide +kernel
theorem d_L_law_1029 : decode code 1029 = .ok (.iload_n 3, 1) := by decide +kernel
theorem d_L_law_1024 : decode code 1024 = .ok (.invokevirtual 131, 3) := by decide +kernel
theorem d_L_law_1022 : decode code 1022 = .ok (.iadd, 1) := by decide +kernel
theorem d_L_law_1021 : decode code 1021 = .ok (.iconst 1, 1) := by decide +kernel
theorem d_L_law_1023 : decode code 1023 = .ok (.iaload, 1) := by decide +kernel
theorem d_L_law_1028 : decode code 1028 = .ok (.aload_n 0, 1) := by decide +kernel
theorem d_L_law_1027 : decode code 1027 = .ok (.aload_n 2, 1) := by decide +kernel
theorem d_L_law_1032 : decode code 1032 = .ok (.iaload, 1) := by decide +kernel
theorem d_L_law_1031 : decode code 1031 = .ok (.iadd, 1) := by decide +kernel
theorem d_L_law_1030 : decode code 1030 = .ok (.iconst 1, 1) := by decide +kernel
theorem d_L_law_1036 : decode code 1036 = .ok (.if_icmp .eq 366, 3) := by decide +kernel
theorem d_L_law_1033 : decode code 1033 = .ok (.invokevirtual 134, 3) := by decide +kernel
theorem d_L_law_1072 : decode code 1072 = .ok (.invokevirtual 146, 3) := by decide +kernel
theorem d_L_law_1058 : decode code 1058 = .ok (.aload_n 2, 1) := by decide +kernel
theorem d_L_law_1049 : decode code 1049 = .ok (.if_icmp .eq 353, 3) := by decide +kernel
theorem d_L_law_1045 : decode code 1045 = .ok (.aload_n 2, 1) := by decide +kernel
theorem d_L_law_1042 : decode code 1042 = .ok (.invokevirtual 135, 3) := by decide +kernel
theorem d_L_law_1046 : decode code 1046 = .ok (.invokevirtual 138, 3) := by decide +kernel
theorem d_L_law_1055 : decode code 1055 = .ok (.invokevirtual 139, 3) := by decide +kernel
theorem d_L_law_1054 : decode code 1054 = .ok (.aload_n 1, 1) := by decide +kernel
theorem d_L_law_1067 : decode code 1067 = .ok (.aload_n 1, 1) := by decide +kernel
theorem d_L_law_1062 : decode code 1062 = .ok (.if_icmp .eq 340, 3) := by decide +kernel
theorem d_L_law_1059 : decode code 1059 = .ok (.invokevirtual 142, 3) := by decide +kernel
theorem d_L_law_1071 : decode code 1071 = .ok (.aload_n 2, 1) := by decide +kernel
theorem d_L_law_1068 : decode code 1068 = .ok (.invokevirtual 143, 3) := by decide +kernel
theorem d_L_law_1093 : decode code 1093 = .ok (.aload_n 1, 1) := by decide +kernel
theorem d_L_law_1084 : decode code 1084 = .ok (.aload_n 2, 1) := by decide +kernel
theorem d_L_law_1080 : decode code 1080 = .ok (.aload_n 1, 1) := by decide +kernel
theorem d_L_law_1075 : decode code 1075 = .ok (.if_icmp .eq 327, 3) := by decide +kernel
theorem d_L_law_1081 : decode code 1081 = .ok (.invokevirtual 147, 3) := by decide +kernel
theorem d_L_law_1088 : decode code 1088 = .ok (.if_icmp .eq 314, 3) := by decide +kernel
theorem d_L_law_1085 : decode code 1085 = .ok (.invokevirtual 150, 3) := by decide +kernel
theorem d_L_law_1096 : decode code 1096 = .ok (.iconst 1, 1) := by decide +kernel
theorem d_L_law_1095 : decode code 1095 = .ok (.iload_n 3, 1) := by decide +kernel
theorem d_L_law_1094 : decode code 1094 = .ok (.aload_n 0, 1) := by decide +kernel
theorem d_L_law_1098 : decode code 1098 = .ok (.iaload, 1) := by decide +kernel
theorem d_L_law_1097 : decode code 1097 = .ok (.iadd, 1) := by decide +kernel
theorem d_L_law_1255 : decode code 1255 = .ok (.iload_n 3, 1) := by decide +kernel
theorem d_L_law_1174 : decode code 1174 = .ok (.iconst 2, 1) := by decide +kernel
theorem d_L_law_1142 : decode code 1142 = .ok (.iconst 1, 1) := by decide +kernel
theorem d_L_law_1121 : decode code 1121 = .ok (.iaload, 1) := by decide +kernel
theorem d_L_law_1108 : decode code 1108 = .ok (.invokevirtual 154, 3) := by decide +kernel
theorem d_L_law_1105 : decode code 1105 = .ok (.iconst 1, 1) := by decide +kernel
theorem d_L_law_1103 : decode code 1103 = .ok (.aload_n 0, 1) := by decide +kernel
theorem d_L_law_1102 : decode code 1102 = .ok (.aload_n 2, 1) := by decide +kernel
theorem d_L_law_1104 : decode code 1104 = .ok (.iload_n 3, 1) := by decide +kernel
theorem d_L_law_1107 : decode code 1107 = .ok (.iaload, 1) := by decide +kernel
theorem d_L_law_1106 : decode code 1106 = .ok (.iadd, 1) := by decide +kernel
theorem d_L_law_1118 : decode code 1118 = .ok (.iload_n 3, 1) := by decide +kernel
theorem d_L_law_1116 : decode code 1116 = .ok (.aload_n 1, 1) := by decide +kernel
theorem d_L_law_1111 : decode code 1111 = .ok (.if_icmp .eq 291, 3) := by decide +kernel
theorem d_L_law_1117 : decode code 1117 = .ok (.aload_n 0, 1) := by decide +kernel
theorem d_L_law_1120 : decode code 1120 = .ok (.iadd, 1) := by decide +kernel
theorem d_L_law_1119 : decode code 1119 = .ok (.iconst 1, 1) := by decide +kernel
theorem d_L_law_1130 : decode code 1130 = .ok (.iaload, 1) := by decide +kernel
theorem d_L_law_1127 : decode code 1127 = .ok (.iload_n 3, 1) := by decide +kernel
theorem d_L_law_1125 : decode code 1125 = .ok (.aload_n 2, 1) := by decide +kernel
theorem d_L_law_1122 : decode code 1122 = .ok (.invokevirtual 155, 3) := by decide +kernel
theorem d_L_law_1126 : decode code 1126 = .ok (.aload_n 0, 1) := by decide +kernel
theorem d_L_law_1129 : decode code 1129 = .ok (.iadd, 1) := by decide +kernel
theorem d_L_law_1128 : decode code 1128 = .ok (.iconst 1, 1) := by decide +kernel
theorem d_L_law_1139 : decode code 1139 = .ok (.aload_n 1, 1) := by decide +kernel
theorem d_L_law_1134 : decode code 1134 = .ok (.if_icmp .eq 268, 3) := by decide +kernel
theorem d_L_law_1131 : decode code 1131 = .ok (.invokevirtual 158, 3) := by decide +kernel
theorem d_L_law_1141 : decode code 1141 = .ok (.iload_n 3, 1) := by decide +kernel
theorem d_L_law_1140 : decode code 1140 = .ok (.aload_n 0, 1) := by decide +kernel
theorem d_L_law_1155 : decode code 1155 = .ok (.ifCond .eq 7, 3) := by decide +kernel
theorem d_L_law_1149 : decode code 1149 = .ok (.iaload, 1) := by decide +kernel
theorem d_L_law_1146 : decode code 1146 = .ok (.iload_n 3, 1) := by decide +kernel
theorem d_L_law_1144 : decode code 1144 = .ok (.iaload, 1) := by decide +kernel
theorem d_L_law_1143 : decode code 1143 = .ok (.iadd, 1) := by decide +kernel
theorem d_L_law_1145 : decode code 1145 = .ok (.aload_n 0, 1) := by decide +kernel
theorem d_L_law_1148 : decode code 1148 = .ok (.iadd, 1) := by decide +kernel
theorem d_L_law_1147 : decode code 1147 = .ok (.iconst 2, 1) := by decide +kernel
theorem d_L_law_1152 : decode code 1152 = .ok (.iconst 3, 1) := by decide +kernel
theorem d_L_law_1151 : decode code 1151 = .ok (.iload_n 3, 1) := by decide +kernel
theorem d_L_law_1150 : decode code 1150 = .ok (.aload_n 0, 1) := by decide +kernel
theorem d_L_law_1154 : decode code 1154 = .ok (.iaload, 1) := by decide +kernel
theorem d_L_law_1153 : decode code 1153 = .ok (.iadd, 1) := by decide +kernel
theorem d_L_law_1168 : decode code 1168 = .ok (.iload_n 3, 1) := by decide +kernel
theorem d_L_law_1163 : decode code 1163 = .ok (.invokevirtual 159, 3) := by decide +kernel
theorem d_L_law_1159 : decode code 1159 = .ok (.goto 4, 3) := by decide +kernel
theorem d_L_law_1158 : decode code 1158 = .ok (.iconst 1, 1) := by decide +kernel
theorem d_L_law_1162 : decode code 1162 = .ok (.iconst 0, 1) := by decide +kernel
theorem d_L_law_1167 : decode code 1167 = .ok (.aload_n 0, 1) := by decide +kernel
theorem d_L_law_1166 : decode code 1166 = .ok (.aload_n 2, 1) := by decide +kernel
theorem d_L_law_1171 : decode code 1171 = .ok (.iaload, 1) := by decide +kernel
theorem d_L_law_1170 : decode code 1170 = .ok (.iadd, 1) := by decide +kernel
theorem d_L_law_1169 : decode code 1169 = .ok (.iconst 1, 1) := by decide +kernel
theorem d_L_law_1173 : decode code 1173 = .ok (.iload_n 3, 1) := by decide +kernel
theorem d_L_law_1172 : decode code 1172 = .ok (.aload_n 0, 1) := by decide +kernel
theorem d_L_law_1213 : decode code 1213 = .ok (.invokevirtual 168, 3) := by decide +kernel
theorem d_L_law_1198 : decode code 1198 = .ok (.aload_n 1, 1) := by decide +kernel
theorem d_L_law_1181 : decode code 1181 = .ok (.iaload, 1) := by decide +kernel
theorem d_L_law_1178 : decode code 1178 = .ok (.iload_n 3, 1) := by decide +kernel
theorem d_L_law_1176 : decode code 1176 = .ok (.iaload, 1) := by decide +kernel
theorem d_L_law_1175 : decode code 1175 = .ok (.iadd, 1) := by decide +kernel
theorem d_L_law_1177 : decode code 1177 = .ok (.aload_n 0, 1) := by decide +kernel
theorem d_L_law_1180 : decode code 1180 = .ok (.iadd, 1) := by decide +kernel
theorem d_L_law_1179 : decode code 1179 = .ok (.iconst 3, 1) := by decide +kernel
theorem d_L_law_1189 : decode code 1189 = .ok (.iconst 0, 1) := by decide +kernel
theorem d_L_law_1185 : decode code 1185 = .ok (.iconst 1, 1) := by decide +kernel
theorem d_L_law_1182 : decode code 1182 = .ok (.ifCond .eq 7, 3) := by decide +kernel
theorem d_L_law_1186 : decode code 1186 = .ok (.goto 4, 3) := by decide +kernel
theorem d_L_law_1193 : decode code 1193 = .ok (.if_icmp .eq 209, 3) := by decide +kernel
theorem d_L_law_1190 : decode code 1190 = .ok (.invokevirtual 163, 3) := by decide +kernel
theorem d_L_law_1207 : decode code 1207 = .ok (.aload_n 2, 1) := by decide +kernel
theorem d_L_law_1202 : decode code 1202 = .ok (.iadd, 1) := by decide +kernel
theorem d_L_law_1200 : decode code 1200 = .ok (.iload_n 3, 1) := by decide +kernel
theorem d_L_law_1199 : decode code 1199 = .ok (.aload_n 0, 1) := by decide +kernel
theorem d_L_law_1201 : decode code 1201 = .ok (.iconst 1, 1) := by decide +kernel
theorem d_L_law_1204 : decode code 1204 = .ok (.invokevirtual 164, 3) := by decide +kernel
theorem d_L_law_1203 : decode code 1203 = .ok (.iaload, 1) := by decide +kernel
theorem d_L_law_1210 : decode code 1210 = .ok (.iconst 1, 1) := by decide +kernel
theorem d_L_law_1209 : decode code 1209 = .ok (.iload_n 3, 1) := by decide +kernel
theorem d_L_law_1208 : decode code 1208 = .ok (.aload_n 0, 1) := by decide +kernel
theorem d_L_law_1212 : decode code 1212 = .ok (.iaload, 1) := by decide +kernel
theorem d_L_law_1211 : decode code 1211 = .ok (.iadd, 1) := by decide +kernel
theorem d_L_law_1234 : decode code 1234 = .ok (.iadd, 1) := by decide +kernel
theorem d_L_law_1226 : decode code 1226 = .ok (.iaload, 1) := by decide +kernel
theorem d_L_law_1223 : decode code 1223 = .ok (.iload_n 3, 1) := by decide +kernel
theorem d_L_law_1221 : decode code 1221 = .ok (.aload_n 1, 1) := by decide +kernel
theorem d_L_law_1216 : decode code 1216 = .ok (.if_icmp .eq 186, 3) := by decide +kernel
theorem d_L_law_1222 : decode code 1222 = .ok (.aload_n 0, 1) := by decide +kernel
theorem d_L_law_1225 : decode code 1225 = .ok (.iadd, 1) := by decide +kernel
theorem d_L_law_1224 : decode code 1224 = .ok (.iconst 1, 1) := by decide +kernel
theorem d_L_law_1231 : decode code 1231 = .ok (.aload_n 0, 1) := by decide +kernel
theorem d_L_law_1230 : decode code 1230 = .ok (.aload_n 2, 1) := by decide +kernel
theorem d_L_law_1227 : decode code 1227 = .ok (.invokevirtual 169, 3) := by decide +kernel
theorem d_L_law_1233 : decode code 1233 = .ok (.iconst 1, 1) := by decide +kernel
theorem d_L_law_1232 : decode code 1232 = .ok (.iload_n 3, 1) := by decide +kernel
theorem d_L_law_1247 : decode code 1247 = .ok (.iconst 1, 1) := by decide +kernel
theorem d_L_law_1244 : decode code 1244 = .ok (.aload_n 1, 1) := by decide +kernel
theorem d_L_law_1236 : decode code 1236 = .ok (.invokevirtual 172, 3) := by decide +kernel
theorem d_L_law_1235 : decode code 1235 = .ok (.iaload, 1) := by decide +kernel
theorem d_L_law_1239 : decode code 1239 = .ok (.if_icmp .eq 163, 3) := by decide +kernel
theorem d_L_law_1246 : decode code 1246 = .ok (.iload_n 3, 1) := by decide +kernel
theorem d_L_law_1245 : decode code 1245 = .ok (.aload_n 0, 1) := by decide +kernel
theorem d_L_law_1250 : decode code 1250 = .ok (.invokevirtual 173, 3) := by decide +kernel
theorem d_L_law_1249 : decode code 1249 = .ok (.iaload, 1) := by decide +kernel
theorem d_L_law_1248 : decode code 1248 = .ok (.iadd, 1) := by decide +kernel
theorem d_L_law_1254 : decode code 1254 = .ok (.aload_n 0, 1) := by decide +kernel
theorem d_L_law_1253 : decode code 1253 = .ok (.aload_n 2, 1) := by decide +kernel
theorem d_L_law_1324 : decode code 1324 = .ok (.iaload, 1) := by decide +kernel
theorem d_L_law_1290 : decode code 1290 = .ok (.iadd, 1) := by decide +kernel
theorem d_L_law_1275 : decode code 1275 = .ok (.iconst 2, 1) := by decide +kernel
theorem d_L_law_1268 : decode code 1268 = .ok (.aload_n 0, 1) := by decide +kernel
theorem d_L_law_1259 : decode code 1259 = .ok (.invokevirtual 176, 3) := by decide +kernel
theorem d_L_law_1257 : decode code 1257 = .ok (.iadd, 1) := by decide +kernel
theorem d_L_law_1256 : decode code 1256 = .ok (.iconst 1, 1) := by decide +kernel
theorem d_L_law_1258 : decode code 1258 = .ok (.iaload, 1) := by decide +kernel
theorem d_L_law_1267 : decode code 1267 = .ok (.aload_n 1, 1) := by decide +kernel
theorem d_L_law_1262 : decode code 1262 = .ok (.if_icmp .eq 140, 3) := by decide +kernel
theorem d_L_law_1272 : decode code 1272 = .ok (.iaload, 1) := by decide +kernel
theorem d_L_law_1270 : decode code 1270 = .ok (.iconst 1, 1) := by decide +kernel
theorem d_L_law_1269 : decode code 1269 = .ok (.iload_n 3, 1) := by decide +kernel
theorem d_L_law_1271 : decode code 1271 = .ok (.iadd, 1) := by decide +kernel
theorem d_L_law_1274 : decode code 1274 = .ok (.iload_n 3, 1) := by decide +kernel
theorem d_L_law_1273 : decode code 1273 = .ok (.aload_n 0, 1) := by decide +kernel
theorem d_L_law_1284 : decode code 1284 = .ok (.iconst 1, 1) := by decide +kernel
theorem d_L_law_1281 : decode code 1281 = .ok (.aload_n 2, 1) := by decide +kernel
theorem d_L_law_1277 : decode code 1277 = .ok (.iaload, 1) := by decide +kernel
theorem d_L_law_1276 : decode code 1276 = .ok (.iadd, 1) := by decide +kernel
theorem d_L_law_1278 : decode code 1278 = .ok (.invokevirtual 177, 3) := by decide +kernel
theorem d_L_law_1283 : decode code 1283 = .ok (.iload_n 3, 1) := by decide +kernel
theorem d_L_law_1282 : decode code 1282 = .ok (.aload_n 0, 1) := by decide +kernel
theorem d_L_law_1287 : decode code 1287 = .ok (.aload_n 0, 1) := by decide +kernel
theorem d_L_law_1286 : decode code 1286 = .ok (.iaload, 1) := by decide +kernel
theorem d_L_law_1285 : decode code 1285 = .ok (.iadd, 1) := by decide +kernel
theorem d_L_law_1289 : decode code 1289 = .ok (.iconst 2, 1) := by decide +kernel
theorem d_L_law_1288 : decode code 1288 = .ok (.iload_n 3, 1) := by decide +kernel
theorem d_L_law_1309 : decode code 1309 = .ok (.iadd, 1) := by decide +kernel
theorem d_L_law_1303 : decode code 1303 = .ok (.iconst 1, 1) := by decide +kernel
theorem d_L_law_1300 : decode code 1300 = .ok (.aload_n 1, 1) := by decide +kernel
theorem d_L_law_1292 : decode code 1292 = .ok (.invokevirtual 180, 3) := by decide +kernel
theorem d_L_law_1291 : decode code 1291 = .ok (.iaload, 1) := by decide +kernel
theorem d_L_law_1295 : decode code 1295 = .ok (.if_icmp .eq 107, 3) := by decide +kernel
theorem d_L_law_1302 : decode code 1302 = .ok (.iload_n 3, 1) := by decide +kernel
theorem d_L_law_1301 : decode code 1301 = .ok (.aload_n 0, 1) := by decide +kernel
theorem d_L_law_1306 : decode code 1306 = .ok (.aload_n 0, 1) := by decide +kernel
theorem d_L_law_1305 : decode code 1305 = .ok (.iaload, 1) := by decide +kernel
theorem d_L_law_1304 : decode code 1304 = .ok (.iadd, 1) := by decide +kernel
theorem d_L_law_1308 : decode code 1308 = .ok (.iconst 2, 1) := by decide +kernel
theorem d_L_law_1307 : decode code 1307 = .ok (.iload_n 3, 1) := by decide +kernel
theorem d_L_law_1318 : decode code 1318 = .ok (.iadd, 1) := by decide +kernel
theorem d_L_law_1315 : decode code 1315 = .ok (.aload_n 0, 1) := by decide +kernel
theorem d_L_law_1311 : decode code 1311 = .ok (.invokevirtual 181, 3) := by decide +kernel
theorem d_L_law_1310 : decode code 1310 = .ok (.iaload, 1) := by decide +kernel
theorem d_L_law_1314 : decode code 1314 = .ok (.aload_n 2, 1) := by decide +kernel
theorem d_L_law_1317 : decode code 1317 = .ok (.iconst 1, 1) := by decide +kernel
theorem d_L_law_1316 : decode code 1316 = .ok (.iload_n 3, 1) := by decide +kernel
theorem d_L_law_1321 : decode code 1321 = .ok (.iload_n 3, 1) := by decide +kernel
theorem d_L_law_1320 : decode code 1320 = .ok (.aload_n 0, 1) := by decide +kernel
theorem d_L_law_1319 : decode code 1319 = .ok (.iaload, 1) := by decide +kernel
theorem d_L_law_1323 : decode code 1323 = .ok (.iadd, 1) := by decide +kernel
theorem d_L_law_1322 : decode code 1322 = .ok (.iconst 2, 1) := by decide +kernel
theorem d_L_law_1366 : decode code 1366 = .ok (.aload_n 0, 1) := by decide +kernel
theorem d_L_law_1345 : decode code 1345 = .ok (.iconst 1, 1) := by decide +kernel
theorem d_L_law_1337 : decode code 1337 = .ok (.iadd, 1) := by decide +kernel
theorem d_L_law_1334 : decode code 1334 = .ok (.aload_n 0, 1) := by decide +kernel
theorem d_L_law_1328 : decode code 1328 = .ok (.if_icmp .eq 74, 3) := by decide +kernel
theorem d_L_law_1325 : decode code 1325 = .ok (.invokevirtual 184, 3) := by decide +kernel
theorem d_L_law_1333 : decode code 1333 = .ok (.aload_n 1, 1) := by decide +kernel
theorem d_L_law_1336 : decode code 1336 = .ok (.iconst 1, 1) := by decide +kernel
theorem d_L_law_1335 : decode code 1335 = .ok (.iload_n 3, 1) := by decide +kernel
theorem d_L_law_1342 : decode code 1342 = .ok (.aload_n 2, 1) := by decide +kernel
theorem d_L_law_1339 : decode code 1339 = .ok (.invokevirtual 185, 3) := by decide +kernel
theorem d_L_law_1338 : decode code 1338 = .ok (.iaload, 1) := by decide +kernel
theorem d_L_law_1344 : decode code 1344 = .ok (.iload_n 3, 1) := by decide +kernel
theorem d_L_law_1343 : decode code 1343 = .ok (.aload_n 0, 1) := by decide +kernel
theorem d_L_law_1358 : decode code 1358 = .ok (.iload_n 3, 1) := by decide +kernel
theorem d_L_law_1351 : decode code 1351 = .ok (.if_icmp .eq 51, 3) := by decide +kernel
theorem d_L_law_1347 : decode code 1347 = .ok (.iaload, 1) := by decide +kernel
theorem d_L_law_1346 : decode code 1346 = .ok (.iadd, 1) := by decide +kernel
theorem d_L_law_1348 : decode code 1348 = .ok (.invokevirtual 188, 3) := by decide +kernel
theorem d_L_law_1357 : decode code 1357 = .ok (.aload_n 0, 1) := by decide +kernel
theorem d_L_law_1356 : decode code 1356 = .ok (.aload_n 1, 1) := by decide +kernel
theorem d_L_law_1361 : decode code 1361 = .ok (.iaload, 1) := by decide +kernel
theorem d_L_law_1360 : decode code 1360 = .ok (.iadd, 1) := by decide +kernel
theorem d_L_law_1359 : decode code 1359 = .ok (.iconst 1, 1) := by decide +kernel
theorem d_L_law_1365 : decode code 1365 = .ok (.aload_n 2, 1) := by decide +kernel
theorem d_L_law_1362 : decode code 1362 = .ok (.invokevirtual 189, 3) := by decide +kernel
theorem d_L_law_1385 : decode code 1385 = .ok (.invokevirtual 193, 3) := by decide +kernel
theorem d_L_law_1379 : decode code 1379 = .ok (.aload_n 1, 1) := by decide +kernel
theorem d_L_law_1370 : decode code 1370 = .ok (.iaload, 1) := by decide +kernel
theorem d_L_law_1368 : decode code 1368 = .ok (.iconst 1, 1) := by decide +kernel
theorem d_L_law_1367 : decode code 1367 = .ok (.iload_n 3, 1) := by decide +kernel
theorem d_L_law_1369 : decode code 1369 = .ok (.iadd, 1) := by decide +kernel
theorem d_L_law_1374 : decode code 1374 = .ok (.if_icmp .eq 28, 3) := by decide +kernel
theorem d_L_law_1371 : decode code 1371 = .ok (.invokevirtual 192, 3) := by decide +kernel
theorem d_L_law_1382 : decode code 1382 = .ok (.iconst 1, 1) := by decide +kernel
theorem d_L_law_1381 : decode code 1381 = .ok (.iload_n 3, 1) := by decide +kernel
theorem d_L_law_1380 : decode code 1380 = .ok (.aload_n 0, 1) := by decide +kernel
theorem d_L_law_1384 : decode code 1384 = .ok (.iaload, 1) := by decide +kernel
theorem d_L_law_1383 : decode code 1383 = .ok (.iadd, 1) := by decide +kernel
theorem d_L_law_1394 : decode code 1394 = .ok (.invokevirtual 196, 3) := by decide +kernel
theorem d_L_law_1391 : decode code 1391 = .ok (.iconst 1, 1) := by decide +kernel
theorem d_L_law_1389 : decode code 1389 = .ok (.aload_n 0, 1) := by decide +kernel
theorem d_L_law_1388 : decode code 1388 = .ok (.aload_n 2, 1) := by decide +kernel
theorem d_L_law_1390 : decode code 1390 = .ok (.iload_n 3, 1) := by decide +kernel
theorem d_L_law_1393 : decode code 1393 = .ok (.iaload, 1) := by decide +kernel
theorem d_L_law_1392 : decode code 1392 = .ok (.iadd, 1) := by decide +kernel
theorem d_L_law_1405 : decode code 1405 = .ok (.goto (-1387), 3) := by decide +kernel
theorem d_L_law_1402 : decode code 1402 = .ok (.iinc 3 6, 3) := by decide +kernel
theorem d_L_law_1397 : decode code 1397 = .ok (.if_icmp .eq 5, 3) := by decide +kernel
theorem d_L_law_1409 : decode code 1409 = .ok (.ireturn, 1) := by decide +kernel
theorem d_L_law_1408 : decode code 1408 = .ok (.iconst 1, 1) := by decide +kernel
