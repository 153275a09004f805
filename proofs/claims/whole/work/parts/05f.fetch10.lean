theorem f_184_938 : x_fe 184 938 = some (.aload 1, 939) := by decide +kernel
theorem f_184_939 : x_fe 184 939 = some (.aload 0, 940) := by decide +kernel
theorem f_184_940 : x_fe 184 940 = some (.iload 3, 941) := by decide +kernel
theorem f_184_941 : x_fe 184 941 = some (.iconst (1), 942) := by decide +kernel
theorem f_184_942 : x_fe 184 942 = some (.iadd, 943) := by decide +kernel
theorem f_184_943 : x_fe 184 943 = some (.iaload, 944) := by decide +kernel
theorem f_184_944 : x_fe 184 944 = some (.invokevirtual 94, 947) := by decide +kernel
theorem f_184_947 : x_fe 184 947 = some (.aload 2, 948) := by decide +kernel
theorem f_184_948 : x_fe 184 948 = some (.aload 0, 949) := by decide +kernel
theorem f_184_949 : x_fe 184 949 = some (.iload 3, 950) := by decide +kernel
theorem f_184_950 : x_fe 184 950 = some (.iconst (1), 951) := by decide +kernel
theorem f_184_951 : x_fe 184 951 = some (.iadd, 952) := by decide +kernel
theorem f_184_952 : x_fe 184 952 = some (.iaload, 953) := by decide +kernel
theorem f_184_953 : x_fe 184 953 = some (.invokevirtual 170, 956) := by decide +kernel
theorem f_184_956 : x_fe 184 956 = some (.if_icmp .eq (Int.ofNat 997), 959) := by decide +kernel
theorem f_184_959 : x_fe 184 959 = some (.iconst (0), 960) := by decide +kernel
theorem f_184_960 : x_fe 184 960 = some (.ireturn, 961) := by decide +kernel
theorem f_184_961 : x_fe 184 961 = some (.aload 1, 962) := by decide +kernel
theorem f_184_962 : x_fe 184 962 = some (.aload 0, 963) := by decide +kernel
theorem f_184_963 : x_fe 184 963 = some (.iload 3, 964) := by decide +kernel
theorem f_184_964 : x_fe 184 964 = some (.iconst (1), 965) := by decide +kernel
theorem f_184_965 : x_fe 184 965 = some (.iadd, 966) := by decide +kernel
theorem f_184_966 : x_fe 184 966 = some (.iaload, 967) := by decide +kernel
theorem f_184_967 : x_fe 184 967 = some (.invokevirtual 95, 970) := by decide +kernel
theorem f_184_970 : x_fe 184 970 = some (.aload 2, 971) := by decide +kernel
theorem f_184_971 : x_fe 184 971 = some (.aload 0, 972) := by decide +kernel
theorem f_184_972 : x_fe 184 972 = some (.iload 3, 973) := by decide +kernel
theorem f_184_973 : x_fe 184 973 = some (.iconst (1), 974) := by decide +kernel
theorem f_184_974 : x_fe 184 974 = some (.iadd, 975) := by decide +kernel
theorem f_184_975 : x_fe 184 975 = some (.iaload, 976) := by decide +kernel
theorem f_184_976 : x_fe 184 976 = some (.invokevirtual 171, 979) := by decide +kernel
theorem f_184_979 : x_fe 184 979 = some (.if_icmp .eq (Int.ofNat 997), 982) := by decide +kernel
theorem f_184_982 : x_fe 184 982 = some (.iconst (0), 983) := by decide +kernel
theorem f_184_983 : x_fe 184 983 = some (.ireturn, 984) := by decide +kernel
theorem f_184_984 : x_fe 184 984 = some (.aload 1, 985) := by decide +kernel
theorem f_184_985 : x_fe 184 985 = some (.invokevirtual 97, 988) := by decide +kernel
theorem f_184_988 : x_fe 184 988 = some (.aload 2, 989) := by decide +kernel
theorem f_184_989 : x_fe 184 989 = some (.invokevirtual 172, 992) := by decide +kernel
theorem f_184_992 : x_fe 184 992 = some (.if_icmp .eq (Int.ofNat 997), 995) := by decide +kernel
theorem f_184_995 : x_fe 184 995 = some (.iconst (0), 996) := by decide +kernel
theorem f_184_996 : x_fe 184 996 = some (.ireturn, 997) := by decide +kernel
theorem f_184_997 : x_fe 184 997 = some (.iinc 3 (6), 1000) := by decide +kernel
theorem f_184_1000 : x_fe 184 1000 = some (.goto (Int.ofNat 18), 1003) := by decide +kernel
theorem f_184_1003 : x_fe 184 1003 = some (.iconst (1), 1004) := by decide +kernel
theorem f_184_1004 : x_fe 184 1004 = some (.ireturn, 1005) := by decide +kernel
