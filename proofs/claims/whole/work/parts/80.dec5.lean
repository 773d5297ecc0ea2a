theorem d_lw_838 : decode code 838 = .ok (.bipush 32, 2) := by decide +kernel
theorem d_lw_840 : decode code 840 = .ok (.lshl, 1) := by decide +kernel
theorem d_lw_841 : decode code 841 = .ok (.aload_n 0, 1) := by decide +kernel
theorem d_lw_842 : decode code 842 = .ok (.iload 4, 2) := by decide +kernel
theorem d_lw_844 : decode code 844 = .ok (.iconst 4, 1) := by decide +kernel
theorem d_lw_845 : decode code 845 = .ok (.iadd, 1) := by decide +kernel
theorem d_lw_846 : decode code 846 = .ok (.iaload, 1) := by decide +kernel
theorem d_lw_847 : decode code 847 = .ok (.i2l, 1) := by decide +kernel
theorem d_lw_848 : decode code 848 = .ok (.ldc2_w 77, 3) := by decide +kernel
theorem d_lw_851 : decode code 851 = .ok (.land, 1) := by decide +kernel
theorem d_lw_852 : decode code 852 = .ok (.lor, 1) := by decide +kernel
theorem d_lw_853 : decode code 853 = .ok (.aload_n 0, 1) := by decide +kernel
theorem d_lw_854 : decode code 854 = .ok (.iload 4, 2) := by decide +kernel
theorem d_lw_856 : decode code 856 = .ok (.iconst 5, 1) := by decide +kernel
theorem d_lw_857 : decode code 857 = .ok (.iadd, 1) := by decide +kernel
theorem d_lw_858 : decode code 858 = .ok (.iaload, 1) := by decide +kernel
theorem d_lw_859 : decode code 859 = .ok (.i2l, 1) := by decide +kernel
theorem d_lw_860 : decode code 860 = .ok (.bipush 32, 2) := by decide +kernel
theorem d_lw_862 : decode code 862 = .ok (.lshl, 1) := by decide +kernel
theorem d_lw_863 : decode code 863 = .ok (.aload_n 0, 1) := by decide +kernel
theorem d_lw_864 : decode code 864 = .ok (.iload 4, 2) := by decide +kernel
theorem d_lw_866 : decode code 866 = .ok (.bipush 6, 2) := by decide +kernel
theorem d_lw_868 : decode code 868 = .ok (.iadd, 1) := by decide +kernel
theorem d_lw_869 : decode code 869 = .ok (.iaload, 1) := by decide +kernel
theorem d_lw_870 : decode code 870 = .ok (.i2l, 1) := by decide +kernel
theorem d_lw_871 : decode code 871 = .ok (.ldc2_w 77, 3) := by decide +kernel
theorem d_lw_874 : decode code 874 = .ok (.land, 1) := by decide +kernel
theorem d_lw_875 : decode code 875 = .ok (.lor, 1) := by decide +kernel
theorem d_lw_876 : decode code 876 = .ok (.invokevirtual 107, 3) := by decide +kernel
theorem d_lw_879 : decode code 879 = .ok (.aload_n 2, 1) := by decide +kernel
theorem d_lw_880 : decode code 880 = .ok (.aload_n 0, 1) := by decide +kernel
theorem d_lw_881 : decode code 881 = .ok (.iload 4, 2) := by decide +kernel
theorem d_lw_883 : decode code 883 = .ok (.iconst 1, 1) := by decide +kernel
theorem d_lw_884 : decode code 884 = .ok (.iadd, 1) := by decide +kernel
theorem d_lw_885 : decode code 885 = .ok (.iaload, 1) := by decide +kernel
theorem d_lw_886 : decode code 886 = .ok (.aload_n 0, 1) := by decide +kernel
theorem d_lw_887 : decode code 887 = .ok (.iload 4, 2) := by decide +kernel
theorem d_lw_889 : decode code 889 = .ok (.iconst 2, 1) := by decide +kernel
theorem d_lw_890 : decode code 890 = .ok (.iadd, 1) := by decide +kernel
theorem d_lw_891 : decode code 891 = .ok (.iaload, 1) := by decide +kernel
theorem d_lw_892 : decode code 892 = .ok (.aload_n 0, 1) := by decide +kernel
theorem d_lw_893 : decode code 893 = .ok (.iload 4, 2) := by decide +kernel
theorem d_lw_895 : decode code 895 = .ok (.iconst 3, 1) := by decide +kernel
theorem d_lw_896 : decode code 896 = .ok (.iadd, 1) := by decide +kernel
theorem d_lw_897 : decode code 897 = .ok (.iaload, 1) := by decide +kernel
theorem d_lw_898 : decode code 898 = .ok (.i2l, 1) := by decide +kernel
theorem d_lw_899 : decode code 899 = .ok (.bipush 32, 2) := by decide +kernel
theorem d_lw_901 : decode code 901 = .ok (.lshl, 1) := by decide +kernel
theorem d_lw_902 : decode code 902 = .ok (.aload_n 0, 1) := by decide +kernel
theorem d_lw_903 : decode code 903 = .ok (.iload 4, 2) := by decide +kernel
theorem d_lw_905 : decode code 905 = .ok (.iconst 4, 1) := by decide +kernel
theorem d_lw_906 : decode code 906 = .ok (.iadd, 1) := by decide +kernel
theorem d_lw_907 : decode code 907 = .ok (.iaload, 1) := by decide +kernel
theorem d_lw_908 : decode code 908 = .ok (.i2l, 1) := by decide +kernel
theorem d_lw_909 : decode code 909 = .ok (.ldc2_w 77, 3) := by decide +kernel
theorem d_lw_912 : decode code 912 = .ok (.land, 1) := by decide +kernel
theorem d_lw_913 : decode code 913 = .ok (.lor, 1) := by decide +kernel
theorem d_lw_914 : decode code 914 = .ok (.aload_n 0, 1) := by decide +kernel
theorem d_lw_915 : decode code 915 = .ok (.iload 4, 2) := by decide +kernel
theorem d_lw_917 : decode code 917 = .ok (.iconst 5, 1) := by decide +kernel
theorem d_lw_918 : decode code 918 = .ok (.iadd, 1) := by decide +kernel
theorem d_lw_919 : decode code 919 = .ok (.iaload, 1) := by decide +kernel
theorem d_lw_920 : decode code 920 = .ok (.i2l, 1) := by decide +kernel
theorem d_lw_921 : decode code 921 = .ok (.bipush 32, 2) := by decide +kernel
theorem d_lw_923 : decode code 923 = .ok (.lshl, 1) := by decide +kernel
theorem d_lw_924 : decode code 924 = .ok (.aload_n 0, 1) := by decide +kernel
theorem d_lw_925 : decode code 925 = .ok (.iload 4, 2) := by decide +kernel
theorem d_lw_927 : decode code 927 = .ok (.bipush 6, 2) := by decide +kernel
theorem d_lw_929 : decode code 929 = .ok (.iadd, 1) := by decide +kernel
theorem d_lw_930 : decode code 930 = .ok (.iaload, 1) := by decide +kernel
theorem d_lw_931 : decode code 931 = .ok (.i2l, 1) := by decide +kernel
theorem d_lw_932 : decode code 932 = .ok (.ldc2_w 77, 3) := by decide +kernel
theorem d_lw_935 : decode code 935 = .ok (.land, 1) := by decide +kernel
theorem d_lw_936 : decode code 936 = .ok (.lor, 1) := by decide +kernel
theorem d_lw_937 : decode code 937 = .ok (.invokevirtual 111, 3) := by decide +kernel
theorem d_lw_940 : decode code 940 = .ok (.if_icmp .eq 256, 3) := by decide +kernel
theorem d_lw_943 : decode code 943 = .ok (.iconst 0, 1) := by decide +kernel
theorem d_lw_944 : decode code 944 = .ok (.ireturn, 1) := by decide +kernel
theorem d_lw_945 : decode code 945 = .ok (.aload_n 1, 1) := by decide +kernel
theorem d_lw_946 : decode code 946 = .ok (.aload_n 0, 1) := by decide +kernel
theorem d_lw_947 : decode code 947 = .ok (.iload 4, 2) := by decide +kernel
theorem d_lw_949 : decode code 949 = .ok (.iconst 1, 1) := by decide +kernel
theorem d_lw_950 : decode code 950 = .ok (.iadd, 1) := by decide +kernel
theorem d_lw_951 : decode code 951 = .ok (.iaload, 1) := by decide +kernel
theorem d_lw_952 : decode code 952 = .ok (.aload_n 0, 1) := by decide +kernel
theorem d_lw_953 : decode code 953 = .ok (.iload 4, 2) := by decide +kernel
theorem d_lw_955 : decode code 955 = .ok (.iconst 2, 1) := by decide +kernel
theorem d_lw_956 : decode code 956 = .ok (.iadd, 1) := by decide +kernel
theorem d_lw_957 : decode code 957 = .ok (.iaload, 1) := by decide +kernel
theorem d_lw_958 : decode code 958 = .ok (.aload_n 0, 1) := by decide +kernel
theorem d_lw_959 : decode code 959 = .ok (.iload 4, 2) := by decide +kernel
theorem d_lw_961 : decode code 961 = .ok (.iconst 3, 1) := by decide +kernel
theorem d_lw_962 : decode code 962 = .ok (.iadd, 1) := by decide +kernel
theorem d_lw_963 : decode code 963 = .ok (.iaload, 1) := by decide +kernel
theorem d_lw_964 : decode code 964 = .ok (.invokevirtual 112, 3) := by decide +kernel
theorem d_lw_967 : decode code 967 = .ok (.aload_n 2, 1) := by decide +kernel
theorem d_lw_968 : decode code 968 = .ok (.aload_n 0, 1) := by decide +kernel
theorem d_lw_969 : decode code 969 = .ok (.iload 4, 2) := by decide +kernel
theorem d_lw_971 : decode code 971 = .ok (.iconst 1, 1) := by decide +kernel
theorem d_lw_972 : decode code 972 = .ok (.iadd, 1) := by decide +kernel
