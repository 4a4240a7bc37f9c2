/-! the law, instruction by instruction -/
set_option maxRecDepth 100000 in
theorem f_331_794 : fe 331 794 = some (.iadd, 1, 13, some .boolean) := fe_of pg_331 (by decide +kernel)
set_option maxRecDepth 100000 in
theorem f_331_795 : fe 331 795 = some (.iaload, 1, 13, some .boolean) := fe_of pg_331 (by decide +kernel)
set_option maxRecDepth 100000 in
theorem f_331_796 : fe 331 796 = some (.aload_n 0, 1, 13, some .boolean) := fe_of pg_331 (by decide +kernel)
set_option maxRecDepth 100000 in
theorem f_331_797 : fe 331 797 = some (.iload_n 3, 1, 13, some .boolean) := fe_of pg_331 (by decide +kernel)
set_option maxRecDepth 100000 in
theorem f_331_798 : fe 331 798 = some (.iconst 2, 1, 13, some .boolean) := fe_of pg_331 (by decide +kernel)
set_option maxRecDepth 100000 in
theorem f_331_799 : fe 331 799 = some (.iadd, 1, 13, some .boolean) := fe_of pg_331 (by decide +kernel)
set_option maxRecDepth 100000 in
theorem f_331_800 : fe 331 800 = some (.iaload, 1, 13, some .boolean) := fe_of pg_331 (by decide +kernel)
set_option maxRecDepth 100000 in
theorem f_331_801 : fe 331 801 = some (.aload_n 0, 1, 13, some .boolean) := fe_of pg_331 (by decide +kernel)
set_option maxRecDepth 100000 in
theorem f_331_802 : fe 331 802 = some (.iload_n 3, 1, 13, some .boolean) := fe_of pg_331 (by decide +kernel)
set_option maxRecDepth 100000 in
theorem f_331_803 : fe 331 803 = some (.iconst 3, 1, 13, some .boolean) := fe_of pg_331 (by decide +kernel)
set_option maxRecDepth 100000 in
theorem f_331_804 : fe 331 804 = some (.iadd, 1, 13, some .boolean) := fe_of pg_331 (by decide +kernel)
set_option maxRecDepth 100000 in
theorem f_331_805 : fe 331 805 = some (.iaload, 1, 13, some .boolean) := fe_of pg_331 (by decide +kernel)
set_option maxRecDepth 100000 in
theorem f_331_806 : fe 331 806 = some (.invokevirtual 82, 3, 13, some .boolean) := fe_of pg_331 (by decide +kernel)
set_option maxRecDepth 100000 in
theorem f_331_809 : fe 331 809 = some (.if_icmp .eq 639, 3, 13, some .boolean) := fe_of pg_331 (by decide +kernel)
set_option maxRecDepth 100000 in
theorem f_331_812 : fe 331 812 = some (.iconst 0, 1, 13, some .boolean) := fe_of pg_331 (by decide +kernel)
set_option maxRecDepth 100000 in
theorem f_331_813 : fe 331 813 = some (.ireturn, 1, 13, some .boolean) := fe_of pg_331 (by decide +kernel)
set_option maxRecDepth 100000 in
theorem f_331_814 : fe 331 814 = some (.aload_n 1, 1, 13, some .boolean) := fe_of pg_331 (by decide +kernel)
set_option maxRecDepth 100000 in
theorem f_331_815 : fe 331 815 = some (.aload_n 0, 1, 13, some .boolean) := fe_of pg_331 (by decide +kernel)
set_option maxRecDepth 100000 in
theorem f_331_816 : fe 331 816 = some (.iload_n 3, 1, 13, some .boolean) := fe_of pg_331 (by decide +kernel)
set_option maxRecDepth 100000 in
theorem f_331_817 : fe 331 817 = some (.iconst 1, 1, 13, some .boolean) := fe_of pg_331 (by decide +kernel)
set_option maxRecDepth 100000 in
theorem f_331_818 : fe 331 818 = some (.iadd, 1, 13, some .boolean) := fe_of pg_331 (by decide +kernel)
set_option maxRecDepth 100000 in
theorem f_331_819 : fe 331 819 = some (.iaload, 1, 13, some .boolean) := fe_of pg_331 (by decide +kernel)
set_option maxRecDepth 100000 in
theorem f_331_820 : fe 331 820 = some (.aload_n 0, 1, 13, some .boolean) := fe_of pg_331 (by decide +kernel)
set_option maxRecDepth 100000 in
theorem f_331_821 : fe 331 821 = some (.iload_n 3, 1, 13, some .boolean) := fe_of pg_331 (by decide +kernel)
set_option maxRecDepth 100000 in
theorem f_331_822 : fe 331 822 = some (.iconst 2, 1, 13, some .boolean) := fe_of pg_331 (by decide +kernel)
set_option maxRecDepth 100000 in
theorem f_331_823 : fe 331 823 = some (.iadd, 1, 13, some .boolean) := fe_of pg_331 (by decide +kernel)
set_option maxRecDepth 100000 in
theorem f_331_824 : fe 331 824 = some (.iaload, 1, 13, some .boolean) := fe_of pg_331 (by decide +kernel)
set_option maxRecDepth 100000 in
theorem f_331_825 : fe 331 825 = some (.invokevirtual 83, 3, 13, some .boolean) := fe_of pg_331 (by decide +kernel)
set_option maxRecDepth 100000 in
theorem f_331_828 : fe 331 828 = some (.aload_n 2, 1, 13, some .boolean) := fe_of pg_331 (by decide +kernel)
set_option maxRecDepth 100000 in
theorem f_331_829 : fe 331 829 = some (.aload_n 0, 1, 13, some .boolean) := fe_of pg_331 (by decide +kernel)
set_option maxRecDepth 100000 in
theorem f_331_830 : fe 331 830 = some (.iload_n 3, 1, 13, some .boolean) := fe_of pg_331 (by decide +kernel)
set_option maxRecDepth 100000 in
theorem f_331_831 : fe 331 831 = some (.iconst 1, 1, 13, some .boolean) := fe_of pg_331 (by decide +kernel)
set_option maxRecDepth 100000 in
theorem f_331_832 : fe 331 832 = some (.iadd, 1, 13, some .boolean) := fe_of pg_331 (by decide +kernel)
set_option maxRecDepth 100000 in
theorem f_331_833 : fe 331 833 = some (.iaload, 1, 13, some .boolean) := fe_of pg_331 (by decide +kernel)
set_option maxRecDepth 100000 in
theorem f_331_834 : fe 331 834 = some (.aload_n 0, 1, 13, some .boolean) := fe_of pg_331 (by decide +kernel)
set_option maxRecDepth 100000 in
theorem f_331_835 : fe 331 835 = some (.iload_n 3, 1, 13, some .boolean) := fe_of pg_331 (by decide +kernel)
set_option maxRecDepth 100000 in
theorem f_331_836 : fe 331 836 = some (.iconst 2, 1, 13, some .boolean) := fe_of pg_331 (by decide +kernel)
set_option maxRecDepth 100000 in
theorem f_331_837 : fe 331 837 = some (.iadd, 1, 13, some .boolean) := fe_of pg_331 (by decide +kernel)
set_option maxRecDepth 100000 in
theorem f_331_838 : fe 331 838 = some (.iaload, 1, 13, some .boolean) := fe_of pg_331 (by decide +kernel)
set_option maxRecDepth 100000 in
theorem f_331_839 : fe 331 839 = some (.invokevirtual 86, 3, 13, some .boolean) := fe_of pg_331 (by decide +kernel)
set_option maxRecDepth 100000 in
theorem f_331_842 : fe 331 842 = some (.if_icmp .eq 606, 3, 13, some .boolean) := fe_of pg_331 (by decide +kernel)
set_option maxRecDepth 100000 in
theorem f_331_845 : fe 331 845 = some (.iconst 0, 1, 13, some .boolean) := fe_of pg_331 (by decide +kernel)
set_option maxRecDepth 100000 in
theorem f_331_846 : fe 331 846 = some (.ireturn, 1, 13, some .boolean) := fe_of pg_331 (by decide +kernel)
set_option maxRecDepth 100000 in
theorem f_331_847 : fe 331 847 = some (.aload_n 1, 1, 13, some .boolean) := fe_of pg_331 (by decide +kernel)
set_option maxRecDepth 100000 in
theorem f_331_848 : fe 331 848 = some (.aload_n 0, 1, 13, some .boolean) := fe_of pg_331 (by decide +kernel)
set_option maxRecDepth 100000 in
theorem f_331_849 : fe 331 849 = some (.iload_n 3, 1, 13, some .boolean) := fe_of pg_331 (by decide +kernel)
set_option maxRecDepth 100000 in
theorem f_331_850 : fe 331 850 = some (.iconst 1, 1, 13, some .boolean) := fe_of pg_331 (by decide +kernel)
set_option maxRecDepth 100000 in
theorem f_331_851 : fe 331 851 = some (.iadd, 1, 13, some .boolean) := fe_of pg_331 (by decide +kernel)
set_option maxRecDepth 100000 in
theorem f_331_852 : fe 331 852 = some (.iaload, 1, 13, some .boolean) := fe_of pg_331 (by decide +kernel)
set_option maxRecDepth 100000 in
theorem f_331_853 : fe 331 853 = some (.aload_n 0, 1, 13, some .boolean) := fe_of pg_331 (by decide +kernel)
set_option maxRecDepth 100000 in
theorem f_331_854 : fe 331 854 = some (.iload_n 3, 1, 13, some .boolean) := fe_of pg_331 (by decide +kernel)
set_option maxRecDepth 100000 in
theorem f_331_855 : fe 331 855 = some (.iconst 2, 1, 13, some .boolean) := fe_of pg_331 (by decide +kernel)
set_option maxRecDepth 100000 in
theorem f_331_856 : fe 331 856 = some (.iadd, 1, 13, some .boolean) := fe_of pg_331 (by decide +kernel)
set_option maxRecDepth 100000 in
theorem f_331_857 : fe 331 857 = some (.iaload, 1, 13, some .boolean) := fe_of pg_331 (by decide +kernel)
set_option maxRecDepth 100000 in
theorem f_331_858 : fe 331 858 = some (.aload_n 0, 1, 13, some .boolean) := fe_of pg_331 (by decide +kernel)
set_option maxRecDepth 100000 in
theorem f_331_859 : fe 331 859 = some (.iload_n 3, 1, 13, some .boolean) := fe_of pg_331 (by decide +kernel)
set_option maxRecDepth 100000 in
theorem f_331_860 : fe 331 860 = some (.iconst 3, 1, 13, some .boolean) := fe_of pg_331 (by decide +kernel)
set_option maxRecDepth 100000 in
theorem f_331_861 : fe 331 861 = some (.iadd, 1, 13, some .boolean) := fe_of pg_331 (by decide +kernel)
set_option maxRecDepth 100000 in
theorem f_331_862 : fe 331 862 = some (.iaload, 1, 13, some .boolean) := fe_of pg_331 (by decide +kernel)
set_option maxRecDepth 100000 in
theorem f_331_863 : fe 331 863 = some (.aload_n 0, 1, 13, some .boolean) := fe_of pg_331 (by decide +kernel)
set_option maxRecDepth 100000 in
theorem f_331_864 : fe 331 864 = some (.iload_n 3, 1, 13, some .boolean) := fe_of pg_331 (by decide +kernel)
set_option maxRecDepth 100000 in
theorem f_331_865 : fe 331 865 = some (.iconst 4, 1, 13, some .boolean) := fe_of pg_331 (by decide +kernel)
set_option maxRecDepth 100000 in
theorem f_331_866 : fe 331 866 = some (.iadd, 1, 13, some .boolean) := fe_of pg_331 (by decide +kernel)
set_option maxRecDepth 100000 in
theorem f_331_867 : fe 331 867 = some (.iaload, 1, 13, some .boolean) := fe_of pg_331 (by decide +kernel)
set_option maxRecDepth 100000 in
theorem f_331_868 : fe 331 868 = some (.invokevirtual 87, 3, 13, some .boolean) := fe_of pg_331 (by decide +kernel)
set_option maxRecDepth 100000 in
theorem f_331_871 : fe 331 871 = some (.aload_n 2, 1, 13, some .boolean) := fe_of pg_331 (by decide +kernel)
set_option maxRecDepth 100000 in
theorem f_331_872 : fe 331 872 = some (.aload_n 0, 1, 13, some .boolean) := fe_of pg_331 (by decide +kernel)
set_option maxRecDepth 100000 in
theorem f_331_873 : fe 331 873 = some (.iload_n 3, 1, 13, some .boolean) := fe_of pg_331 (by decide +kernel)
set_option maxRecDepth 100000 in
theorem f_331_874 : fe 331 874 = some (.iconst 1, 1, 13, some .boolean) := fe_of pg_331 (by decide +kernel)
set_option maxRecDepth 100000 in
theorem f_331_875 : fe 331 875 = some (.iadd, 1, 13, some .boolean) := fe_of pg_331 (by decide +kernel)
set_option maxRecDepth 100000 in
theorem f_331_876 : fe 331 876 = some (.iaload, 1, 13, some .boolean) := fe_of pg_331 (by decide +kernel)
set_option maxRecDepth 100000 in
theorem f_331_877 : fe 331 877 = some (.aload_n 0, 1, 13, some .boolean) := fe_of pg_331 (by decide +kernel)
set_option maxRecDepth 100000 in
theorem f_331_878 : fe 331 878 = some (.iload_n 3, 1, 13, some .boolean) := fe_of pg_331 (by decide +kernel)
set_option maxRecDepth 100000 in
theorem f_331_879 : fe 331 879 = some (.iconst 2, 1, 13, some .boolean) := fe_of pg_331 (by decide +kernel)
set_option maxRecDepth 100000 in
theorem f_331_880 : fe 331 880 = some (.iadd, 1, 13, some .boolean) := fe_of pg_331 (by decide +kernel)
set_option maxRecDepth 100000 in
theorem f_331_881 : fe 331 881 = some (.iaload, 1, 13, some .boolean) := fe_of pg_331 (by decide +kernel)
set_option maxRecDepth 100000 in
theorem f_331_882 : fe 331 882 = some (.aload_n 0, 1, 13, some .boolean) := fe_of pg_331 (by decide +kernel)
set_option maxRecDepth 100000 in
theorem f_331_883 : fe 331 883 = some (.iload_n 3, 1, 13, some .boolean) := fe_of pg_331 (by decide +kernel)
set_option maxRecDepth 100000 in
theorem f_331_884 : fe 331 884 = some (.iconst 3, 1, 13, some .boolean) := fe_of pg_331 (by decide +kernel)
set_option maxRecDepth 100000 in
theorem f_331_885 : fe 331 885 = some (.iadd, 1, 13, some .boolean) := fe_of pg_331 (by decide +kernel)
set_option maxRecDepth 100000 in
theorem f_331_886 : fe 331 886 = some (.iaload, 1, 13, some .boolean) := fe_of pg_331 (by decide +kernel)
set_option maxRecDepth 100000 in
theorem f_331_887 : fe 331 887 = some (.aload_n 0, 1, 13, some .boolean) := fe_of pg_331 (by decide +kernel)
set_option maxRecDepth 100000 in
theorem f_331_888 : fe 331 888 = some (.iload_n 3, 1, 13, some .boolean) := fe_of pg_331 (by decide +kernel)
set_option maxRecDepth 100000 in
theorem f_331_889 : fe 331 889 = some (.iconst 4, 1, 13, some .boolean) := fe_of pg_331 (by decide +kernel)
set_option maxRecDepth 100000 in
theorem f_331_890 : fe 331 890 = some (.iadd, 1, 13, some .boolean) := fe_of pg_331 (by decide +kernel)
set_option maxRecDepth 100000 in
theorem f_331_891 : fe 331 891 = some (.iaload, 1, 13, some .boolean) := fe_of pg_331 (by decide +kernel)
set_option maxRecDepth 100000 in
theorem f_331_892 : fe 331 892 = some (.invokevirtual 90, 3, 13, some .boolean) := fe_of pg_331 (by decide +kernel)
set_option maxRecDepth 100000 in
theorem f_331_895 : fe 331 895 = some (.if_icmp .eq 553, 3, 13, some .boolean) := fe_of pg_331 (by decide +kernel)
set_option maxRecDepth 100000 in
theorem f_331_898 : fe 331 898 = some (.iconst 0, 1, 13, some .boolean) := fe_of pg_331 (by decide +kernel)
set_option maxRecDepth 100000 in
theorem f_331_899 : fe 331 899 = some (.ireturn, 1, 13, some .boolean) := fe_of pg_331 (by decide +kernel)
set_option maxRecDepth 100000 in
theorem f_331_900 : fe 331 900 = some (.aload_n 1, 1, 13, some .boolean) := fe_of pg_331 (by decide +kernel)
set_option maxRecDepth 100000 in
theorem f_331_901 : fe 331 901 = some (.aload_n 0, 1, 13, some .boolean) := fe_of pg_331 (by decide +kernel)
set_option maxRecDepth 100000 in
theorem f_331_902 : fe 331 902 = some (.iload_n 3, 1, 13, some .boolean) := fe_of pg_331 (by decide +kernel)
set_option maxRecDepth 100000 in
theorem f_331_903 : fe 331 903 = some (.iconst 1, 1, 13, some .boolean) := fe_of pg_331 (by decide +kernel)
set_option maxRecDepth 100000 in
theorem f_331_904 : fe 331 904 = some (.iadd, 1, 13, some .boolean) := fe_of pg_331 (by decide +kernel)
set_option maxRecDepth 100000 in
theorem f_331_905 : fe 331 905 = some (.iaload, 1, 13, some .boolean) := fe_of pg_331 (by decide +kernel)
set_option maxRecDepth 100000 in
theorem f_331_906 : fe 331 906 = some (.aload_n 0, 1, 13, some .boolean) := fe_of pg_331 (by decide +kernel)
set_option maxRecDepth 100000 in
theorem f_331_907 : fe 331 907 = some (.iload_n 3, 1, 13, some .boolean) := fe_of pg_331 (by decide +kernel)
set_option maxRecDepth 100000 in
theorem f_331_908 : fe 331 908 = some (.iconst 2, 1, 13, some .boolean) := fe_of pg_331 (by decide +kernel)
set_option maxRecDepth 100000 in
theorem f_331_909 : fe 331 909 = some (.iadd, 1, 13, some .boolean) := fe_of pg_331 (by decide +kernel)
set_option maxRecDepth 100000 in
theorem f_331_910 : fe 331 910 = some (.iaload, 1, 13, some .boolean) := fe_of pg_331 (by decide +kernel)
set_option maxRecDepth 100000 in
theorem f_331_911 : fe 331 911 = some (.invokevirtual 91, 3, 13, some .boolean) := fe_of pg_331 (by decide +kernel)
set_option maxRecDepth 100000 in
theorem f_331_914 : fe 331 914 = some (.aload_n 2, 1, 13, some .boolean) := fe_of pg_331 (by decide +kernel)
set_option maxRecDepth 100000 in
theorem f_331_915 : fe 331 915 = some (.aload_n 0, 1, 13, some .boolean) := fe_of pg_331 (by decide +kernel)
set_option maxRecDepth 100000 in
theorem f_331_916 : fe 331 916 = some (.iload_n 3, 1, 13, some .boolean) := fe_of pg_331 (by decide +kernel)
set_option maxRecDepth 100000 in
theorem f_331_917 : fe 331 917 = some (.iconst 1, 1, 13, some .boolean) := fe_of pg_331 (by decide +kernel)
set_option maxRecDepth 100000 in
theorem f_331_918 : fe 331 918 = some (.iadd, 1, 13, some .boolean) := fe_of pg_331 (by decide +kernel)
set_option maxRecDepth 100000 in
theorem f_331_919 : fe 331 919 = some (.iaload, 1, 13, some .boolean) := fe_of pg_331 (by decide +kernel)
set_option maxRecDepth 100000 in
theorem f_331_920 : fe 331 920 = some (.aload_n 0, 1, 13, some .boolean) := fe_of pg_331 (by decide +kernel)
set_option maxRecDepth 100000 in
theorem f_331_921 : fe 331 921 = some (.iload_n 3, 1, 13, some .boolean) := fe_of pg_331 (by decide +kernel)
set_option maxRecDepth 100000 in
theorem f_331_922 : fe 331 922 = some (.iconst 2, 1, 13, some .boolean) := fe_of pg_331 (by decide +kernel)
set_option maxRecDepth 100000 in
theorem f_331_923 : fe 331 923 = some (.iadd, 1, 13, some .boolean) := fe_of pg_331 (by decide +kernel)
set_option maxRecDepth 100000 in
theorem f_331_924 : fe 331 924 = some (.iaload, 1, 13, some .boolean) := fe_of pg_331 (by decide +kernel)
set_option maxRecDepth 100000 in
theorem f_331_925 : fe 331 925 = some (.invokevirtual 94, 3, 13, some .boolean) := fe_of pg_331 (by decide +kernel)
set_option maxRecDepth 100000 in
theorem f_331_928 : fe 331 928 = some (.if_icmp .eq 520, 3, 13, some .boolean) := fe_of pg_331 (by decide +kernel)
set_option maxRecDepth 100000 in
theorem f_331_931 : fe 331 931 = some (.iconst 0, 1, 13, some .boolean) := fe_of pg_331 (by decide +kernel)
set_option maxRecDepth 100000 in
theorem f_331_932 : fe 331 932 = some (.ireturn, 1, 13, some .boolean) := fe_of pg_331 (by decide +kernel)
set_option maxRecDepth 100000 in
theorem f_331_933 : fe 331 933 = some (.aload_n 1, 1, 13, some .boolean) := fe_of pg_331 (by decide +kernel)
set_option maxRecDepth 100000 in
theorem f_331_934 : fe 331 934 = some (.aload_n 0, 1, 13, some .boolean) := fe_of pg_331 (by decide +kernel)
set_option maxRecDepth 100000 in
theorem f_331_935 : fe 331 935 = some (.iload_n 3, 1, 13, some .boolean) := fe_of pg_331 (by decide +kernel)
set_option maxRecDepth 100000 in
theorem f_331_936 : fe 331 936 = some (.iconst 1, 1, 13, some .boolean) := fe_of pg_331 (by decide +kernel)
set_option maxRecDepth 100000 in
theorem f_331_937 : fe 331 937 = some (.iadd, 1, 13, some .boolean) := fe_of pg_331 (by decide +kernel)
set_option maxRecDepth 100000 in
theorem f_331_938 : fe 331 938 = some (.iaload, 1, 13, some .boolean) := fe_of pg_331 (by decide +kernel)
set_option maxRecDepth 100000 in
theorem f_331_939 : fe 331 939 = some (.aload_n 0, 1, 13, some .boolean) := fe_of pg_331 (by decide +kernel)
set_option maxRecDepth 100000 in
theorem f_331_940 : fe 331 940 = some (.iload_n 3, 1, 13, some .boolean) := fe_of pg_331 (by decide +kernel)
set_option maxRecDepth 100000 in
theorem f_331_941 : fe 331 941 = some (.iconst 2, 1, 13, some .boolean) := fe_of pg_331 (by decide +kernel)
set_option maxRecDepth 100000 in
theorem f_331_942 : fe 331 942 = some (.iadd, 1, 13, some .boolean) := fe_of pg_331 (by decide +kernel)
set_option maxRecDepth 100000 in
theorem f_331_943 : fe 331 943 = some (.iaload, 1, 13, some .boolean) := fe_of pg_331 (by decide +kernel)
set_option maxRecDepth 100000 in
theorem f_331_944 : fe 331 944 = some (.aload_n 0, 1, 13, some .boolean) := fe_of pg_331 (by decide +kernel)
set_option maxRecDepth 100000 in
theorem f_331_945 : fe 331 945 = some (.iload_n 3, 1, 13, some .boolean) := fe_of pg_331 (by decide +kernel)
set_option maxRecDepth 100000 in
theorem f_331_946 : fe 331 946 = some (.iconst 3, 1, 13, some .boolean) := fe_of pg_331 (by decide +kernel)
set_option maxRecDepth 100000 in
theorem f_331_947 : fe 331 947 = some (.iadd, 1, 13, some .boolean) := fe_of pg_331 (by decide +kernel)
set_option maxRecDepth 100000 in
theorem f_331_948 : fe 331 948 = some (.iaload, 1, 13, some .boolean) := fe_of pg_331 (by decide +kernel)
set_option maxRecDepth 100000 in
theorem f_331_949 : fe 331 949 = some (.aload_n 0, 1, 13, some .boolean) := fe_of pg_331 (by decide +kernel)
set_option maxRecDepth 100000 in
theorem f_331_950 : fe 331 950 = some (.iload_n 3, 1, 13, some .boolean) := fe_of pg_331 (by decide +kernel)
set_option maxRecDepth 100000 in
theorem f_331_951 : fe 331 951 = some (.iconst 4, 1, 13, some .boolean) := fe_of pg_331 (by decide +kernel)
set_option maxRecDepth 100000 in
theorem f_331_952 : fe 331 952 = some (.iadd, 1, 13, some .boolean) := fe_of pg_331 (by decide +kernel)
set_option maxRecDepth 100000 in
theorem f_331_953 : fe 331 953 = some (.iaload, 1, 13, some .boolean) := fe_of pg_331 (by decide +kernel)
set_option maxRecDepth 100000 in
theorem f_331_954 : fe 331 954 = some (.invokevirtual 95, 3, 13, some .boolean) := fe_of pg_331 (by decide +kernel)
set_option maxRecDepth 100000 in
theorem f_331_957 : fe 331 957 = some (.aload_n 2, 1, 13, some .boolean) := fe_of pg_331 (by decide +kernel)
set_option maxRecDepth 100000 in
theorem f_331_958 : fe 331 958 = some (.aload_n 0, 1, 13, some .boolean) := fe_of pg_331 (by decide +kernel)
set_option maxRecDepth 100000 in
theorem f_331_959 : fe 331 959 = some (.iload_n 3, 1, 13, some .boolean) := fe_of pg_331 (by decide +kernel)
set_option maxRecDepth 100000 in
theorem f_331_960 : fe 331 960 = some (.iconst 1, 1, 13, some .boolean) := fe_of pg_331 (by decide +kernel)
set_option maxRecDepth 100000 in
theorem f_331_961 : fe 331 961 = some (.iadd, 1, 13, some .boolean) := fe_of pg_331 (by decide +kernel)
set_option maxRecDepth 100000 in
theorem f_331_962 : fe 331 962 = some (.iaload, 1, 13, some .boolean) := fe_of pg_331 (by decide +kernel)
set_option maxRecDepth 100000 in
theorem f_331_963 : fe 331 963 = some (.aload_n 0, 1, 13, some .boolean) := fe_of pg_331 (by decide +kernel)
set_option maxRecDepth 100000 in
theorem f_331_964 : fe 331 964 = some (.iload_n 3, 1, 13, some .boolean) := fe_of pg_331 (by decide +kernel)
set_option maxRecDepth 100000 in
theorem f_331_965 : fe 331 965 = some (.iconst 2, 1, 13, some .boolean) := fe_of pg_331 (by decide +kernel)
set_option maxRecDepth 100000 in
theorem f_331_966 : fe 331 966 = some (.iadd, 1, 13, some .boolean) := fe_of pg_331 (by decide +kernel)
set_option maxRecDepth 100000 in
theorem f_331_967 : fe 331 967 = some (.iaload, 1, 13, some .boolean) := fe_of pg_331 (by decide +kernel)
set_option maxRecDepth 100000 in
theorem f_331_968 : fe 331 968 = some (.aload_n 0, 1, 13, some .boolean) := fe_of pg_331 (by decide +kernel)
set_option maxRecDepth 100000 in
theorem f_331_969 : fe 331 969 = some (.iload_n 3, 1, 13, some .boolean) := fe_of pg_331 (by decide +kernel)
set_option maxRecDepth 100000 in
theorem f_331_970 : fe 331 970 = some (.iconst 3, 1, 13, some .boolean) := fe_of pg_331 (by decide +kernel)
set_option maxRecDepth 100000 in
theorem f_331_971 : fe 331 971 = some (.iadd, 1, 13, some .boolean) := fe_of pg_331 (by decide +kernel)
set_option maxRecDepth 100000 in
theorem f_331_972 : fe 331 972 = some (.iaload, 1, 13, some .boolean) := fe_of pg_331 (by decide +kernel)
set_option maxRecDepth 100000 in
theorem f_331_973 : fe 331 973 = some (.aload_n 0, 1, 13, some .boolean) := fe_of pg_331 (by decide +kernel)
set_option maxRecDepth 100000 in
theorem f_331_974 : fe 331 974 = some (.iload_n 3, 1, 13, some .boolean) := fe_of pg_331 (by decide +kernel)
set_option maxRecDepth 100000 in
theorem f_331_975 : fe 331 975 = some (.iconst 4, 1, 13, some .boolean) := fe_of pg_331 (by decide +kernel)
set_option maxRecDepth 100000 in
theorem f_331_976 : fe 331 976 = some (.iadd, 1, 13, some .boolean) := fe_of pg_331 (by decide +kernel)
set_option maxRecDepth 100000 in
theorem f_331_977 : fe 331 977 = some (.iaload, 1, 13, some .boolean) := fe_of pg_331 (by decide +kernel)
set_option maxRecDepth 100000 in
theorem f_331_978 : fe 331 978 = some (.invokevirtual 98, 3, 13, some .boolean) := fe_of pg_331 (by decide +kernel)
set_option maxRecDepth 100000 in
theorem f_331_981 : fe 331 981 = some (.if_icmp .eq 467, 3, 13, some .boolean) := fe_of pg_331 (by decide +kernel)
set_option maxRecDepth 100000 in
theorem f_331_984 : fe 331 984 = some (.iconst 0, 1, 13, some .boolean) := fe_of pg_331 (by decide +kernel)
set_option maxRecDepth 100000 in
theorem f_331_985 : fe 331 985 = some (.ireturn, 1, 13, some .boolean) := fe_of pg_331 (by decide +kernel)
set_option maxRecDepth 100000 in
theorem f_331_986 : fe 331 986 = some (.aload_n 1, 1, 13, some .boolean) := fe_of pg_331 (by decide +kernel)
set_option maxRecDepth 100000 in
theorem f_331_987 : fe 331 987 = some (.aload_n 0, 1, 13, some .boolean) := fe_of pg_331 (by decide +kernel)
set_option maxRecDepth 100000 in
theorem f_331_988 : fe 331 988 = some (.iload_n 3, 1, 13, some .boolean) := fe_of pg_331 (by decide +kernel)
set_option maxRecDepth 100000 in
theorem f_331_989 : fe 331 989 = some (.iconst 1, 1, 13, some .boolean) := fe_of pg_331 (by decide +kernel)
set_option maxRecDepth 100000 in
theorem f_331_990 : fe 331 990 = some (.iadd, 1, 13, some .boolean) := fe_of pg_331 (by decide +kernel)
set_option maxRecDepth 100000 in
theorem f_331_991 : fe 331 991 = some (.iaload, 1, 13, some .boolean) := fe_of pg_331 (by decide +kernel)
set_option maxRecDepth 100000 in
theorem f_331_992 : fe 331 992 = some (.aload_n 0, 1, 13, some .boolean) := fe_of pg_331 (by decide +kernel)
set_option maxRecDepth 100000 in
theorem f_331_993 : fe 331 993 = some (.iload_n 3, 1, 13, some .boolean) := fe_of pg_331 (by decide +kernel)
set_option maxRecDepth 100000 in
theorem f_331_994 : fe 331 994 = some (.iconst 2, 1, 13, some .boolean) := fe_of pg_331 (by decide +kernel)
set_option maxRecDepth 100000 in
theorem f_331_995 : fe 331 995 = some (.iadd, 1, 13, some .boolean) := fe_of pg_331 (by decide +kernel)
set_option maxRecDepth 100000 in
theorem f_331_996 : fe 331 996 = some (.iaload, 1, 13, some .boolean) := fe_of pg_331 (by decide +kernel)
set_option maxRecDepth 100000 in
theorem f_331_997 : fe 331 997 = some (.invokevirtual 99, 3, 13, some .boolean) := fe_of pg_331 (by decide +kernel)
set_option maxRecDepth 100000 in
theorem f_331_1000 : fe 331 1000 = some (.aload_n 2, 1, 13, some .boolean) := fe_of pg_331 (by decide +kernel)
set_option maxRecDepth 100000 in
theorem f_331_1001 : fe 331 1001 = some (.aload_n 0, 1, 13, some .boolean) := fe_of pg_331 (by decide +kernel)
set_option maxRecDepth 100000 in
theorem f_331_1002 : fe 331 1002 = some (.iload_n 3, 1, 13, some .boolean) := fe_of pg_331 (by decide +kernel)
set_option maxRecDepth 100000 in
theorem f_331_1003 : fe 331 1003 = some (.iconst 1, 1, 13, some .boolean) := fe_of pg_331 (by decide +kernel)
set_option maxRecDepth 100000 in
theorem f_331_1004 : fe 331 1004 = some (.iadd, 1, 13, some .boolean) := fe_of pg_331 (by decide +kernel)
set_option maxRecDepth 100000 in
theorem f_331_1005 : fe 331 1005 = some (.iaload, 1, 13, some .boolean) := fe_of pg_331 (by decide +kernel)
set_option maxRecDepth 100000 in
theorem f_331_1006 : fe 331 1006 = some (.aload_n 0, 1, 13, some .boolean) := fe_of pg_331 (by decide +kernel)
set_option maxRecDepth 100000 in
theorem f_331_1007 : fe 331 1007 = some (.iload_n 3, 1, 13, some .boolean) := fe_of pg_331 (by decide +kernel)
set_option maxRecDepth 100000 in
theorem f_331_1008 : fe 331 1008 = some (.iconst 2, 1, 13, some .boolean) := fe_of pg_331 (by decide +kernel)
set_option maxRecDepth 100000 in
theorem f_331_1009 : fe 331 1009 = some (.iadd, 1, 13, some .boolean) := fe_of pg_331 (by decide +kernel)
set_option maxRecDepth 100000 in
theorem f_331_1010 : fe 331 1010 = some (.iaload, 1, 13, some .boolean) := fe_of pg_331 (by decide +kernel)
set_option maxRecDepth 100000 in
theorem f_331_1011 : fe 331 1011 = some (.invokevirtual 102, 3, 13, some .boolean) := fe_of pg_331 (by decide +kernel)
set_option maxRecDepth 100000 in
theorem f_331_1014 : fe 331 1014 = some (.if_icmp .eq 434, 3, 13, some .boolean) := fe_of pg_331 (by decide +kernel)
set_option maxRecDepth 100000 in
theorem f_331_1017 : fe 331 1017 = some (.iconst 0, 1, 13, some .boolean) := fe_of pg_331 (by decide +kernel)
set_option maxRecDepth 100000 in
theorem f_331_1018 : fe 331 1018 = some (.ireturn, 1, 13, some .boolean) := fe_of pg_331 (by decide +kernel)
set_option maxRecDepth 100000 in
theorem f_331_1019 : fe 331 1019 = some (.aload_n 1, 1, 13, some .boolean) := fe_of pg_331 (by decide +kernel)
set_option maxRecDepth 100000 in
theorem f_331_1020 : fe 331 1020 = some (.aload_n 0, 1, 13, some .boolean) := fe_of pg_331 (by decide +kernel)
set_option maxRecDepth 100000 in
theorem f_331_1021 : fe 331 1021 = some (.iload_n 3, 1, 13, some .boolean) := fe_of pg_331 (by decide +kernel)
set_option maxRecDepth 100000 in
theorem f_331_1022 : fe 331 1022 = some (.iconst 1, 1, 13, some .boolean) := fe_of pg_331 (by decide +kernel)
set_option maxRecDepth 100000 in
theorem f_331_1023 : fe 331 1023 = some (.iadd, 1, 13, some .boolean) := fe_of pg_331 (by decide +kernel)
set_option maxRecDepth 100000 in
theorem f_331_1024 : fe 331 1024 = some (.iaload, 1, 13, some .boolean) := fe_of pg_331 (by decide +kernel)
set_option maxRecDepth 100000 in
theorem f_331_1025 : fe 331 1025 = some (.aload_n 0, 1, 13, some .boolean) := fe_of pg_331 (by decide +kernel)
set_option maxRecDepth 100000 in
theorem f_331_1026 : fe 331 1026 = some (.iload_n 3, 1, 13, some .boolean) := fe_of pg_331 (by decide +kernel)
set_option maxRecDepth 100000 in
theorem f_331_1027 : fe 331 1027 = some (.iconst 2, 1, 13, some .boolean) := fe_of pg_331 (by decide +kernel)
set_option maxRecDepth 100000 in
theorem f_331_1028 : fe 331 1028 = some (.iadd, 1, 13, some .boolean) := fe_of pg_331 (by decide +kernel)
set_option maxRecDepth 100000 in
theorem f_331_1029 : fe 331 1029 = some (.iaload, 1, 13, some .boolean) := fe_of pg_331 (by decide +kernel)
set_option maxRecDepth 100000 in
theorem f_331_1030 : fe 331 1030 = some (.aload_n 0, 1, 13, some .boolean) := fe_of pg_331 (by decide +kernel)
set_option maxRecDepth 100000 in
theorem f_331_1031 : fe 331 1031 = some (.iload_n 3, 1, 13, some .boolean) := fe_of pg_331 (by decide +kernel)
set_option maxRecDepth 100000 in
theorem f_331_1032 : fe 331 1032 = some (.iconst 3, 1, 13, some .boolean) := fe_of pg_331 (by decide +kernel)
set_option maxRecDepth 100000 in
theorem f_331_1033 : fe 331 1033 = some (.iadd, 1, 13, some .boolean) := fe_of pg_331 (by decide +kernel)
set_option maxRecDepth 100000 in
theorem f_331_1034 : fe 331 1034 = some (.iaload, 1, 13, some .boolean) := fe_of pg_331 (by decide +kernel)
set_option maxRecDepth 100000 in
theorem f_331_1035 : fe 331 1035 = some (.invokevirtual 103, 3, 13, some .boolean) := fe_of pg_331 (by decide +kernel)
set_option maxRecDepth 100000 in
theorem f_331_1038 : fe 331 1038 = some (.aload_n 2, 1, 13, some .boolean) := fe_of pg_331 (by decide +kernel)
set_option maxRecDepth 100000 in
theorem f_331_1039 : fe 331 1039 = some (.aload_n 0, 1, 13, some .boolean) := fe_of pg_331 (by decide +kernel)
set_option maxRecDepth 100000 in
theorem f_331_1040 : fe 331 1040 = some (.iload_n 3, 1, 13, some .boolean) := fe_of pg_331 (by decide +kernel)
set_option maxRecDepth 100000 in
theorem f_331_1041 : fe 331 1041 = some (.iconst 1, 1, 13, some .boolean) := fe_of pg_331 (by decide +kernel)
set_option maxRecDepth 100000 in
theorem f_331_1042 : fe 331 1042 = some (.iadd, 1, 13, some .boolean) := fe_of pg_331 (by decide +kernel)
set_option maxRecDepth 100000 in
theorem f_331_1043 : fe 331 1043 = some (.iaload, 1, 13, some .boolean) := fe_of pg_331 (by decide +kernel)
set_option maxRecDepth 100000 in
theorem f_331_1044 : fe 331 1044 = some (.aload_n 0, 1, 13, some .boolean) := fe_of pg_331 (by decide +kernel)
set_option maxRecDepth 100000 in
theorem f_331_1045 : fe 331 1045 = some (.iload_n 3, 1, 13, some .boolean) := fe_of pg_331 (by decide +kernel)
set_option maxRecDepth 100000 in
theorem f_331_1046 : fe 331 1046 = some (.iconst 2, 1, 13, some .boolean) := fe_of pg_331 (by decide +kernel)
set_option maxRecDepth 100000 in
theorem f_331_1047 : fe 331 1047 = some (.iadd, 1, 13, some .boolean) := fe_of pg_331 (by decide +kernel)
set_option maxRecDepth 100000 in
theorem f_331_1048 : fe 331 1048 = some (.iaload, 1, 13, some .boolean) := fe_of pg_331 (by decide +kernel)
set_option maxRecDepth 100000 in
theorem f_331_1049 : fe 331 1049 = some (.aload_n 0, 1, 13, some .boolean) := fe_of pg_331 (by decide +kernel)
set_option maxRecDepth 100000 in
theorem f_331_1050 : fe 331 1050 = some (.iload_n 3, 1, 13, some .boolean) := fe_of pg_331 (by decide +kernel)
set_option maxRecDepth 100000 in
theorem f_331_1051 : fe 331 1051 = some (.iconst 3, 1, 13, some .boolean) := fe_of pg_331 (by decide +kernel)
set_option maxRecDepth 100000 in
theorem f_331_1052 : fe 331 1052 = some (.iadd, 1, 13, some .boolean) := fe_of pg_331 (by decide +kernel)
set_option maxRecDepth 100000 in
theorem f_331_1053 : fe 331 1053 = some (.iaload, 1, 13, some .boolean) := fe_of pg_331 (by decide +kernel)
set_option maxRecDepth 100000 in
theorem f_331_1054 : fe 331 1054 = some (.invokevirtual 106, 3, 13, some .boolean) := fe_of pg_331 (by decide +kernel)
set_option maxRecDepth 100000 in
theorem f_331_1057 : fe 331 1057 = some (.if_icmp .eq 391, 3, 13, some .boolean) := fe_of pg_331 (by decide +kernel)
set_option maxRecDepth 100000 in
theorem f_331_1060 : fe 331 1060 = some (.iconst 0, 1, 13, some .boolean) := fe_of pg_331 (by decide +kernel)
set_option maxRecDepth 100000 in
theorem f_331_1061 : fe 331 1061 = some (.ireturn, 1, 13, some .boolean) := fe_of pg_331 (by decide +kernel)
set_option maxRecDepth 100000 in
theorem f_331_1062 : fe 331 1062 = some (.aload_n 1, 1, 13, some .boolean) := fe_of pg_331 (by decide +kernel)
set_option maxRecDepth 100000 in
theorem f_331_1063 : fe 331 1063 = some (.aload_n 0, 1, 13, some .boolean) := fe_of pg_331 (by decide +kernel)
set_option maxRecDepth 100000 in
theorem f_331_1064 : fe 331 1064 = some (.iload_n 3, 1, 13, some .boolean) := fe_of pg_331 (by decide +kernel)
set_option maxRecDepth 100000 in
theorem f_331_1065 : fe 331 1065 = some (.iconst 1, 1, 13, some .boolean) := fe_of pg_331 (by decide +kernel)
set_option maxRecDepth 100000 in
theorem f_331_1066 : fe 331 1066 = some (.iadd, 1, 13, some .boolean) := fe_of pg_331 (by decide +kernel)
set_option maxRecDepth 100000 in
theorem f_331_1067 : fe 331 1067 = some (.iaload, 1, 13, some .boolean) := fe_of pg_331 (by decide +kernel)
set_option maxRecDepth 100000 in
theorem f_331_1068 : fe 331 1068 = some (.aload_n 0, 1, 13, some .boolean) := fe_of pg_331 (by decide +kernel)
set_option maxRecDepth 100000 in
theorem f_331_1069 : fe 331 1069 = some (.iload_n 3, 1, 13, some .boolean) := fe_of pg_331 (by decide +kernel)
set_option maxRecDepth 100000 in
theorem f_331_1070 : fe 331 1070 = some (.iconst 2, 1, 13, some .boolean) := fe_of pg_331 (by decide +kernel)
set_option maxRecDepth 100000 in
theorem f_331_1071 : fe 331 1071 = some (.iadd, 1, 13, some .boolean) := fe_of pg_331 (by decide +kernel)
set_option maxRecDepth 100000 in
theorem f_331_1072 : fe 331 1072 = some (.iaload, 1, 13, some .boolean) := fe_of pg_331 (by decide +kernel)
set_option maxRecDepth 100000 in
theorem f_331_1073 : fe 331 1073 = some (.invokevirtual 107, 3, 13, some .boolean) := fe_of pg_331 (by decide +kernel)
set_option maxRecDepth 100000 in
theorem f_331_1076 : fe 331 1076 = some (.aload_n 2, 1, 13, some .boolean) := fe_of pg_331 (by decide +kernel)
set_option maxRecDepth 100000 in
theorem f_331_1077 : fe 331 1077 = some (.aload_n 0, 1, 13, some .boolean) := fe_of pg_331 (by decide +kernel)
set_option maxRecDepth 100000 in
theorem f_331_1078 : fe 331 1078 = some (.iload_n 3, 1, 13, some .boolean) := fe_of pg_331 (by decide +kernel)
set_option maxRecDepth 100000 in
theorem f_331_1079 : fe 331 1079 = some (.iconst 1, 1, 13, some .boolean) := fe_of pg_331 (by decide +kernel)
set_option maxRecDepth 100000 in
theorem f_331_1080 : fe 331 1080 = some (.iadd, 1, 13, some .boolean) := fe_of pg_331 (by decide +kernel)
set_option maxRecDepth 100000 in
theorem f_331_1081 : fe 331 1081 = some (.iaload, 1, 13, some .boolean) := fe_of pg_331 (by decide +kernel)
set_option maxRecDepth 100000 in
theorem f_331_1082 : fe 331 1082 = some (.aload_n 0, 1, 13, some .boolean) := fe_of pg_331 (by decide +kernel)
set_option maxRecDepth 100000 in
theorem f_331_1083 : fe 331 1083 = some (.iload_n 3, 1, 13, some .boolean) := fe_of pg_331 (by decide +kernel)
set_option maxRecDepth 100000 in
theorem f_331_1084 : fe 331 1084 = some (.iconst 2, 1, 13, some .boolean) := fe_of pg_331 (by decide +kernel)
set_option maxRecDepth 100000 in
theorem f_331_1085 : fe 331 1085 = some (.iadd, 1, 13, some .boolean) := fe_of pg_331 (by decide +kernel)
set_option maxRecDepth 100000 in
theorem f_331_1086 : fe 331 1086 = some (.iaload, 1, 13, some .boolean) := fe_of pg_331 (by decide +kernel)
set_option maxRecDepth 100000 in
theorem f_331_1087 : fe 331 1087 = some (.invokevirtual 110, 3, 13, some .boolean) := fe_of pg_331 (by decide +kernel)
set_option maxRecDepth 100000 in
theorem f_331_1090 : fe 331 1090 = some (.if_icmp .eq 358, 3, 13, some .boolean) := fe_of pg_331 (by decide +kernel)
set_option maxRecDepth 100000 in
theorem f_331_1093 : fe 331 1093 = some (.iconst 0, 1, 13, some .boolean) := fe_of pg_331 (by decide +kernel)
set_option maxRecDepth 100000 in
theorem f_331_1094 : fe 331 1094 = some (.ireturn, 1, 13, some .boolean) := fe_of pg_331 (by decide +kernel)
set_option maxRecDepth 100000 in
theorem f_331_1095 : fe 331 1095 = some (.aload_n 1, 1, 13, some .boolean) := fe_of pg_331 (by decide +kernel)
set_option maxRecDepth 100000 in
theorem f_331_1096 : fe 331 1096 = some (.aload_n 0, 1, 13, some .boolean) := fe_of pg_331 (by decide +kernel)
set_option maxRecDepth 100000 in
theorem f_331_1097 : fe 331 1097 = some (.iload_n 3, 1, 13, some .boolean) := fe_of pg_331 (by decide +kernel)
set_option maxRecDepth 100000 in
theorem f_331_1098 : fe 331 1098 = some (.iconst 1, 1, 13, some .boolean) := fe_of pg_331 (by decide +kernel)
set_option maxRecDepth 100000 in
theorem f_331_1099 : fe 331 1099 = some (.iadd, 1, 13, some .boolean) := fe_of pg_331 (by decide +kernel)
set_option maxRecDepth 100000 in
theorem f_331_1100 : fe 331 1100 = some (.iaload, 1, 13, some .boolean) := fe_of pg_331 (by decide +kernel)
set_option maxRecDepth 100000 in
theorem f_331_1101 : fe 331 1101 = some (.aload_n 0, 1, 13, some .boolean) := fe_of pg_331 (by decide +kernel)
set_option maxRecDepth 100000 in
theorem f_331_1102 : fe 331 1102 = some (.iload_n 3, 1, 13, some .boolean) := fe_of pg_331 (by decide +kernel)
set_option maxRecDepth 100000 in
theorem f_331_1103 : fe 331 1103 = some (.iconst 2, 1, 13, some .boolean) := fe_of pg_331 (by decide +kernel)
set_option maxRecDepth 100000 in
theorem f_331_1104 : fe 331 1104 = some (.iadd, 1, 13, some .boolean) := fe_of pg_331 (by decide +kernel)
set_option maxRecDepth 100000 in
theorem f_331_1105 : fe 331 1105 = some (.iaload, 1, 13, some .boolean) := fe_of pg_331 (by decide +kernel)
set_option maxRecDepth 100000 in
theorem f_331_1106 : fe 331 1106 = some (.invokevirtual 111, 3, 13, some .boolean) := fe_of pg_331 (by decide +kernel)
set_option maxRecDepth 100000 in
theorem f_331_1109 : fe 331 1109 = some (.aload_n 2, 1, 13, some .boolean) := fe_of pg_331 (by decide +kernel)
