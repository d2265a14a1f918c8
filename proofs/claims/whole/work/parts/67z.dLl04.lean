theorem dL_law_794 : decode jL_law.2.1 794 = .ok (.iconst 1, 1) := by decide +kernel
theorem dL_law_795 : decode jL_law.2.1 795 = .ok (.iadd, 1) := by decide +kernel
theorem dL_law_796 : decode jL_law.2.1 796 = .ok (.iaload, 1) := by decide +kernel
theorem dL_law_797 : decode jL_law.2.1 797 = .ok (.aload_n 0, 1) := by decide +kernel
theorem dL_law_798 : decode jL_law.2.1 798 = .ok (.iload 4, 2) := by decide +kernel
theorem dL_law_800 : decode jL_law.2.1 800 = .ok (.iconst 2, 1) := by decide +kernel
theorem dL_law_801 : decode jL_law.2.1 801 = .ok (.iadd, 1) := by decide +kernel
theorem dL_law_802 : decode jL_law.2.1 802 = .ok (.iaload, 1) := by decide +kernel
theorem dL_law_803 : decode jL_law.2.1 803 = .ok (.aload_n 3, 1) := by decide +kernel
theorem dL_law_804 : decode jL_law.2.1 804 = .ok (.invokestatic 109, 3) := by decide +kernel
theorem dL_law_807 : decode jL_law.2.1 807 = .ok (.istore 5, 2) := by decide +kernel
theorem dL_law_809 : decode jL_law.2.1 809 = .ok (.aload_n 2, 1) := by decide +kernel
theorem dL_law_810 : decode jL_law.2.1 810 = .ok (.aload_n 0, 1) := by decide +kernel
theorem dL_law_811 : decode jL_law.2.1 811 = .ok (.iload 4, 2) := by decide +kernel
theorem dL_law_813 : decode jL_law.2.1 813 = .ok (.iconst 1, 1) := by decide +kernel
theorem dL_law_814 : decode jL_law.2.1 814 = .ok (.iadd, 1) := by decide +kernel
theorem dL_law_815 : decode jL_law.2.1 815 = .ok (.iaload, 1) := by decide +kernel
theorem dL_law_816 : decode jL_law.2.1 816 = .ok (.aload_n 0, 1) := by decide +kernel
theorem dL_law_817 : decode jL_law.2.1 817 = .ok (.iload 4, 2) := by decide +kernel
theorem dL_law_819 : decode jL_law.2.1 819 = .ok (.iconst 2, 1) := by decide +kernel
theorem dL_law_820 : decode jL_law.2.1 820 = .ok (.iadd, 1) := by decide +kernel
theorem dL_law_821 : decode jL_law.2.1 821 = .ok (.iaload, 1) := by decide +kernel
theorem dL_law_822 : decode jL_law.2.1 822 = .ok (.invokevirtual 111, 3) := by decide +kernel
theorem dL_law_825 : decode jL_law.2.1 825 = .ok (.istore 6, 2) := by decide +kernel
theorem dL_law_827 : decode jL_law.2.1 827 = .ok (.aload_n 2, 1) := by decide +kernel
theorem dL_law_828 : decode jL_law.2.1 828 = .ok (.invokevirtual 87, 3) := by decide +kernel
theorem dL_law_831 : decode jL_law.2.1 831 = .ok (.iload 5, 2) := by decide +kernel
theorem dL_law_833 : decode jL_law.2.1 833 = .ok (.if_icmp .eq 5, 3) := by decide +kernel
theorem dL_law_836 : decode jL_law.2.1 836 = .ok (.iconst 0, 1) := by decide +kernel
theorem dL_law_837 : decode jL_law.2.1 837 = .ok (.ireturn, 1) := by decide +kernel
theorem dL_law_838 : decode jL_law.2.1 838 = .ok (.iload 5, 2) := by decide +kernel
theorem dL_law_840 : decode jL_law.2.1 840 = .ok (.ifCond .ne 22, 3) := by decide +kernel
theorem dL_law_843 : decode jL_law.2.1 843 = .ok (.aload_n 3, 1) := by decide +kernel
theorem dL_law_844 : decode jL_law.2.1 844 = .ok (.iconst 0, 1) := by decide +kernel
theorem dL_law_845 : decode jL_law.2.1 845 = .ok (.laload, 1) := by decide +kernel
theorem dL_law_846 : decode jL_law.2.1 846 = .ok (.iload 6, 2) := by decide +kernel
theorem dL_law_848 : decode jL_law.2.1 848 = .ok (.ifCond .eq 7, 3) := by decide +kernel
theorem dL_law_851 : decode jL_law.2.1 851 = .ok (.lconst 1, 1) := by decide +kernel
theorem dL_law_852 : decode jL_law.2.1 852 = .ok (.goto 4, 3) := by decide +kernel
theorem dL_law_855 : decode jL_law.2.1 855 = .ok (.lconst 0, 1) := by decide +kernel
theorem dL_law_856 : decode jL_law.2.1 856 = .ok (.lcmp, 1) := by decide +kernel
theorem dL_law_857 : decode jL_law.2.1 857 = .ok (.ifCond .eq 5, 3) := by decide +kernel
theorem dL_law_860 : decode jL_law.2.1 860 = .ok (.iconst 0, 1) := by decide +kernel
theorem dL_law_861 : decode jL_law.2.1 861 = .ok (.ireturn, 1) := by decide +kernel
theorem dL_law_862 : decode jL_law.2.1 862 = .ok (.goto 651, 3) := by decide +kernel
theorem dL_law_865 : decode jL_law.2.1 865 = .ok (.aload_n 1, 1) := by decide +kernel
theorem dL_law_866 : decode jL_law.2.1 866 = .ok (.aload_n 0, 1) := by decide +kernel
theorem dL_law_867 : decode jL_law.2.1 867 = .ok (.iload 4, 2) := by decide +kernel
theorem dL_law_869 : decode jL_law.2.1 869 = .ok (.iconst 1, 1) := by decide +kernel
theorem dL_law_870 : decode jL_law.2.1 870 = .ok (.iadd, 1) := by decide +kernel
theorem dL_law_871 : decode jL_law.2.1 871 = .ok (.iaload, 1) := by decide +kernel
theorem dL_law_872 : decode jL_law.2.1 872 = .ok (.aload_n 0, 1) := by decide +kernel
theorem dL_law_873 : decode jL_law.2.1 873 = .ok (.iload 4, 2) := by decide +kernel
theorem dL_law_875 : decode jL_law.2.1 875 = .ok (.iconst 2, 1) := by decide +kernel
theorem dL_law_876 : decode jL_law.2.1 876 = .ok (.iadd, 1) := by decide +kernel
theorem dL_law_877 : decode jL_law.2.1 877 = .ok (.iaload, 1) := by decide +kernel
theorem dL_law_878 : decode jL_law.2.1 878 = .ok (.aload_n 3, 1) := by decide +kernel
theorem dL_law_879 : decode jL_law.2.1 879 = .ok (.invokestatic 112, 3) := by decide +kernel
theorem dL_law_882 : decode jL_law.2.1 882 = .ok (.istore 5, 2) := by decide +kernel
theorem dL_law_884 : decode jL_law.2.1 884 = .ok (.aload_n 2, 1) := by decide +kernel
theorem dL_law_885 : decode jL_law.2.1 885 = .ok (.aload_n 0, 1) := by decide +kernel
theorem dL_law_886 : decode jL_law.2.1 886 = .ok (.iload 4, 2) := by decide +kernel
theorem dL_law_888 : decode jL_law.2.1 888 = .ok (.iconst 1, 1) := by decide +kernel
theorem dL_law_889 : decode jL_law.2.1 889 = .ok (.iadd, 1) := by decide +kernel
theorem dL_law_890 : decode jL_law.2.1 890 = .ok (.iaload, 1) := by decide +kernel
theorem dL_law_891 : decode jL_law.2.1 891 = .ok (.aload_n 0, 1) := by decide +kernel
theorem dL_law_892 : decode jL_law.2.1 892 = .ok (.iload 4, 2) := by decide +kernel
theorem dL_law_894 : decode jL_law.2.1 894 = .ok (.iconst 2, 1) := by decide +kernel
theorem dL_law_895 : decode jL_law.2.1 895 = .ok (.iadd, 1) := by decide +kernel
theorem dL_law_896 : decode jL_law.2.1 896 = .ok (.iaload, 1) := by decide +kernel
theorem dL_law_897 : decode jL_law.2.1 897 = .ok (.invokevirtual 114, 3) := by decide +kernel
theorem dL_law_900 : decode jL_law.2.1 900 = .ok (.lstore 6, 2) := by decide +kernel
theorem dL_law_902 : decode jL_law.2.1 902 = .ok (.aload_n 2, 1) := by decide +kernel
theorem dL_law_903 : decode jL_law.2.1 903 = .ok (.invokevirtual 87, 3) := by decide +kernel
theorem dL_law_906 : decode jL_law.2.1 906 = .ok (.iload 5, 2) := by decide +kernel
theorem dL_law_908 : decode jL_law.2.1 908 = .ok (.if_icmp .eq 5, 3) := by decide +kernel
theorem dL_law_911 : decode jL_law.2.1 911 = .ok (.iconst 0, 1) := by decide +kernel
theorem dL_law_912 : decode jL_law.2.1 912 = .ok (.ireturn, 1) := by decide +kernel
theorem dL_law_913 : decode jL_law.2.1 913 = .ok (.iload 5, 2) := by decide +kernel
theorem dL_law_915 : decode jL_law.2.1 915 = .ok (.ifCond .ne 14, 3) := by decide +kernel
theorem dL_law_918 : decode jL_law.2.1 918 = .ok (.aload_n 3, 1) := by decide +kernel
theorem dL_law_919 : decode jL_law.2.1 919 = .ok (.iconst 0, 1) := by decide +kernel
theorem dL_law_920 : decode jL_law.2.1 920 = .ok (.laload, 1) := by decide +kernel
theorem dL_law_921 : decode jL_law.2.1 921 = .ok (.lload 6, 2) := by decide +kernel
theorem dL_law_923 : decode jL_law.2.1 923 = .ok (.lcmp, 1) := by decide +kernel
theorem dL_law_924 : decode jL_law.2.1 924 = .ok (.ifCond .eq 5, 3) := by decide +kernel
theorem dL_law_927 : decode jL_law.2.1 927 = .ok (.iconst 0, 1) := by decide +kernel
theorem dL_law_928 : decode jL_law.2.1 928 = .ok (.ireturn, 1) := by decide +kernel
theorem dL_law_929 : decode jL_law.2.1 929 = .ok (.goto 584, 3) := by decide +kernel
theorem dL_law_932 : decode jL_law.2.1 932 = .ok (.aload_n 1, 1) := by decide +kernel
theorem dL_law_933 : decode jL_law.2.1 933 = .ok (.aload_n 0, 1) := by decide +kernel
theorem dL_law_934 : decode jL_law.2.1 934 = .ok (.iload 4, 2) := by decide +kernel
theorem dL_law_936 : decode jL_law.2.1 936 = .ok (.iconst 1, 1) := by decide +kernel
theorem dL_law_937 : decode jL_law.2.1 937 = .ok (.iadd, 1) := by decide +kernel
theorem dL_law_938 : decode jL_law.2.1 938 = .ok (.iaload, 1) := by decide +kernel
theorem dL_law_939 : decode jL_law.2.1 939 = .ok (.aload_n 0, 1) := by decide +kernel
theorem dL_law_940 : decode jL_law.2.1 940 = .ok (.iload 4, 2) := by decide +kernel
theorem dL_law_942 : decode jL_law.2.1 942 = .ok (.iconst 2, 1) := by decide +kernel
theorem dL_law_943 : decode jL_law.2.1 943 = .ok (.iadd, 1) := by decide +kernel
theorem dL_law_944 : decode jL_law.2.1 944 = .ok (.iaload, 1) := by decide +kernel
theorem dL_law_945 : decode jL_law.2.1 945 = .ok (.aload_n 0, 1) := by decide +kernel
theorem dL_law_946 : decode jL_law.2.1 946 = .ok (.iload 4, 2) := by decide +kernel
theorem dL_law_948 : decode jL_law.2.1 948 = .ok (.iconst 3, 1) := by decide +kernel
theorem dL_law_949 : decode jL_law.2.1 949 = .ok (.iadd, 1) := by decide +kernel
theorem dL_law_950 : decode jL_law.2.1 950 = .ok (.iaload, 1) := by decide +kernel
theorem dL_law_951 : decode jL_law.2.1 951 = .ok (.aload_n 3, 1) := by decide +kernel
theorem dL_law_952 : decode jL_law.2.1 952 = .ok (.invokestatic 115, 3) := by decide +kernel
theorem dL_law_955 : decode jL_law.2.1 955 = .ok (.istore 5, 2) := by decide +kernel
theorem dL_law_957 : decode jL_law.2.1 957 = .ok (.aload_n 2, 1) := by decide +kernel
theorem dL_law_958 : decode jL_law.2.1 958 = .ok (.aload_n 0, 1) := by decide +kernel
theorem dL_law_959 : decode jL_law.2.1 959 = .ok (.iload 4, 2) := by decide +kernel
theorem dL_law_961 : decode jL_law.2.1 961 = .ok (.iconst 1, 1) := by decide +kernel
theorem dL_law_962 : decode jL_law.2.1 962 = .ok (.iadd, 1) := by decide +kernel
theorem dL_law_963 : decode jL_law.2.1 963 = .ok (.iaload, 1) := by decide +kernel
theorem dL_law_964 : decode jL_law.2.1 964 = .ok (.aload_n 0, 1) := by decide +kernel
theorem dL_law_965 : decode jL_law.2.1 965 = .ok (.iload 4, 2) := by decide +kernel
theorem dL_law_967 : decode jL_law.2.1 967 = .ok (.iconst 2, 1) := by decide +kernel
theorem dL_law_968 : decode jL_law.2.1 968 = .ok (.iadd, 1) := by decide +kernel
theorem dL_law_969 : decode jL_law.2.1 969 = .ok (.iaload, 1) := by decide +kernel
theorem dL_law_970 : decode jL_law.2.1 970 = .ok (.aload_n 0, 1) := by decide +kernel
