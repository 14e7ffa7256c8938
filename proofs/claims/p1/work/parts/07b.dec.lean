theorem dX11_init_883 : decode cX11_init 883 = .ok (.dup, 1) := by decide +kernel
theorem dX11_init_884 : decode cX11_init 884 = .ok (.bipush 80, 2) := by decide +kernel
theorem dX11_init_886 : decode cX11_init 886 = .ok (.bipush 100, 2) := by decide +kernel
theorem dX11_init_888 : decode cX11_init 888 = .ok (.iastore, 1) := by decide +kernel
theorem dX11_init_889 : decode cX11_init 889 = .ok (.dup, 1) := by decide +kernel
theorem dX11_init_890 : decode cX11_init 890 = .ok (.bipush 81, 2) := by decide +kernel
theorem dX11_init_892 : decode cX11_init 892 = .ok (.bipush 32, 2) := by decide +kernel
theorem dX11_init_894 : decode cX11_init 894 = .ok (.iastore, 1) := by decide +kernel
theorem dX11_init_895 : decode cX11_init 895 = .ok (.putfield 153, 3) := by decide +kernel
theorem dX11_init_898 : decode cX11_init 898 = .ok (.aload_n 0, 1) := by decide +kernel
theorem dX11_init_899 : decode cX11_init 899 = .ok (.bipush 36, 2) := by decide +kernel
theorem dX11_init_901 : decode cX11_init 901 = .ok (.newarray .int, 2) := by decide +kernel
theorem dX11_init_903 : decode cX11_init 903 = .ok (.dup, 1) := by decide +kernel
theorem dX11_init_904 : decode cX11_init 904 = .ok (.iconst 0, 1) := by decide +kernel
theorem dX11_init_905 : decode cX11_init 905 = .ok (.bipush 102, 2) := by decide +kernel
theorem dX11_init_907 : decode cX11_init 907 = .ok (.iastore, 1) := by decide +kernel
theorem dX11_init_908 : decode cX11_init 908 = .ok (.dup, 1) := by decide +kernel
theorem dX11_init_909 : decode cX11_init 909 = .ok (.iconst 1, 1) := by decide +kernel
theorem dX11_init_910 : decode cX11_init 910 = .ok (.bipush 111, 2) := by decide +kernel
theorem dX11_init_912 : decode cX11_init 912 = .ok (.iastore, 1) := by decide +kernel
theorem dX11_init_913 : decode cX11_init 913 = .ok (.dup, 1) := by decide +kernel
theorem dX11_init_914 : decode cX11_init 914 = .ok (.iconst 2, 1) := by decide +kernel
theorem dX11_init_915 : decode cX11_init 915 = .ok (.bipush 111, 2) := by decide +kernel
theorem dX11_init_917 : decode cX11_init 917 = .ok (.iastore, 1) := by decide +kernel
theorem dX11_init_918 : decode cX11_init 918 = .ok (.dup, 1) := by decide +kernel
theorem dX11_init_919 : decode cX11_init 919 = .ok (.iconst 3, 1) := by decide +kernel
theorem dX11_init_920 : decode cX11_init 920 = .ok (.bipush 116, 2) := by decide +kernel
theorem dX11_init_922 : decode cX11_init 922 = .ok (.iastore, 1) := by decide +kernel
theorem dX11_init_923 : decode cX11_init 923 = .ok (.dup, 1) := by decide +kernel
theorem dX11_init_924 : decode cX11_init 924 = .ok (.iconst 4, 1) := by decide +kernel
theorem dX11_init_925 : decode cX11_init 925 = .ok (.bipush 98, 2) := by decide +kernel
theorem dX11_init_927 : decode cX11_init 927 = .ok (.iastore, 1) := by decide +kernel
theorem dX11_init_928 : decode cX11_init 928 = .ok (.dup, 1) := by decide +kernel
theorem dX11_init_929 : decode cX11_init 929 = .ok (.iconst 5, 1) := by decide +kernel
theorem dX11_init_930 : decode cX11_init 930 = .ok (.bipush 97, 2) := by decide +kernel
theorem dX11_init_932 : decode cX11_init 932 = .ok (.iastore, 1) := by decide +kernel
theorem dX11_init_933 : decode cX11_init 933 = .ok (.dup, 1) := by decide +kernel
theorem dX11_init_934 : decode cX11_init 934 = .ok (.bipush 6, 2) := by decide +kernel
theorem dX11_init_936 : decode cX11_init 936 = .ok (.bipush 108, 2) := by decide +kernel
theorem dX11_init_938 : decode cX11_init 938 = .ok (.iastore, 1) := by decide +kernel
theorem dX11_init_939 : decode cX11_init 939 = .ok (.dup, 1) := by decide +kernel
theorem dX11_init_940 : decode cX11_init 940 = .ok (.bipush 7, 2) := by decide +kernel
theorem dX11_init_942 : decode cX11_init 942 = .ok (.bipush 108, 2) := by decide +kernel
theorem dX11_init_944 : decode cX11_init 944 = .ok (.iastore, 1) := by decide +kernel
theorem dX11_init_945 : decode cX11_init 945 = .ok (.dup, 1) := by decide +kernel
theorem dX11_init_946 : decode cX11_init 946 = .ok (.bipush 8, 2) := by decide +kernel
theorem dX11_init_948 : decode cX11_init 948 = .ok (.bipush 32, 2) := by decide +kernel
theorem dX11_init_950 : decode cX11_init 950 = .ok (.iastore, 1) := by decide +kernel
theorem dX11_init_951 : decode cX11_init 951 = .ok (.dup, 1) := by decide +kernel
theorem dX11_init_952 : decode cX11_init 952 = .ok (.bipush 9, 2) := by decide +kernel
theorem dX11_init_954 : decode cX11_init 954 = .ok (.bipush 118, 2) := by decide +kernel
theorem dX11_init_956 : decode cX11_init 956 = .ok (.iastore, 1) := by decide +kernel
theorem dX11_init_957 : decode cX11_init 957 = .ok (.dup, 1) := by decide +kernel
theorem dX11_init_958 : decode cX11_init 958 = .ok (.bipush 10, 2) := by decide +kernel
theorem dX11_init_960 : decode cX11_init 960 = .ok (.bipush 111, 2) := by decide +kernel
theorem dX11_init_962 : decode cX11_init 962 = .ok (.iastore, 1) := by decide +kernel
theorem dX11_init_963 : decode cX11_init 963 = .ok (.dup, 1) := by decide +kernel
theorem dX11_init_964 : decode cX11_init 964 = .ok (.bipush 11, 2) := by decide +kernel
theorem dX11_init_966 : decode cX11_init 966 = .ok (.bipush 108, 2) := by decide +kernel
theorem dX11_init_968 : decode cX11_init 968 = .ok (.iastore, 1) := by decide +kernel
theorem dX11_init_969 : decode cX11_init 969 = .ok (.dup, 1) := by decide +kernel
theorem dX11_init_970 : decode cX11_init 970 = .ok (.bipush 12, 2) := by decide +kernel
theorem dX11_init_972 : decode cX11_init 972 = .ok (.bipush 108, 2) := by decide +kernel
theorem dX11_init_974 : decode cX11_init 974 = .ok (.iastore, 1) := by decide +kernel
theorem dX11_init_975 : decode cX11_init 975 = .ok (.dup, 1) := by decide +kernel
theorem dX11_init_976 : decode cX11_init 976 = .ok (.bipush 13, 2) := by decide +kernel
theorem dX11_init_978 : decode cX11_init 978 = .ok (.bipush 101, 2) := by decide +kernel
theorem dX11_init_980 : decode cX11_init 980 = .ok (.iastore, 1) := by decide +kernel
theorem dX11_init_981 : decode cX11_init 981 = .ok (.dup, 1) := by decide +kernel
theorem dX11_init_982 : decode cX11_init 982 = .ok (.bipush 14, 2) := by decide +kernel
theorem dX11_init_984 : decode cX11_init 984 = .ok (.bipush 121, 2) := by decide +kernel
theorem dX11_init_986 : decode cX11_init 986 = .ok (.iastore, 1) := by decide +kernel
theorem dX11_init_987 : decode cX11_init 987 = .ok (.dup, 1) := by decide +kernel
theorem dX11_init_988 : decode cX11_init 988 = .ok (.bipush 15, 2) := by decide +kernel
theorem dX11_init_990 : decode cX11_init 990 = .ok (.bipush 98, 2) := by decide +kernel
theorem dX11_init_992 : decode cX11_init 992 = .ok (.iastore, 1) := by decide +kernel
theorem dX11_init_993 : decode cX11_init 993 = .ok (.dup, 1) := by decide +kernel
theorem dX11_init_994 : decode cX11_init 994 = .ok (.bipush 16, 2) := by decide +kernel
theorem dX11_init_996 : decode cX11_init 996 = .ok (.bipush 97, 2) := by decide +kernel
theorem dX11_init_998 : decode cX11_init 998 = .ok (.iastore, 1) := by decide +kernel
theorem dX11_init_999 : decode cX11_init 999 = .ok (.dup, 1) := by decide +kernel
theorem dX11_init_1000 : decode cX11_init 1000 = .ok (.bipush 17, 2) := by decide +kernel
theorem dX11_init_1002 : decode cX11_init 1002 = .ok (.bipush 108, 2) := by decide +kernel
theorem dX11_init_1004 : decode cX11_init 1004 = .ok (.iastore, 1) := by decide +kernel
theorem dX11_init_1005 : decode cX11_init 1005 = .ok (.dup, 1) := by decide +kernel
theorem dX11_init_1006 : decode cX11_init 1006 = .ok (.bipush 18, 2) := by decide +kernel
theorem dX11_init_1008 : decode cX11_init 1008 = .ok (.bipush 108, 2) := by decide +kernel
theorem dX11_init_1010 : decode cX11_init 1010 = .ok (.iastore, 1) := by decide +kernel
theorem dX11_init_1011 : decode cX11_init 1011 = .ok (.dup, 1) := by decide +kernel
theorem dX11_init_1012 : decode cX11_init 1012 = .ok (.bipush 19, 2) := by decide +kernel
theorem dX11_init_1014 : decode cX11_init 1014 = .ok (.bipush 32, 2) := by decide +kernel
theorem dX11_init_1016 : decode cX11_init 1016 = .ok (.iastore, 1) := by decide +kernel
theorem dX11_init_1017 : decode cX11_init 1017 = .ok (.dup, 1) := by decide +kernel
theorem dX11_init_1018 : decode cX11_init 1018 = .ok (.bipush 20, 2) := by decide +kernel
theorem dX11_init_1020 : decode cX11_init 1020 = .ok (.bipush 116, 2) := by decide +kernel
theorem dX11_init_1022 : decode cX11_init 1022 = .ok (.iastore, 1) := by decide +kernel
theorem dX11_init_1023 : decode cX11_init 1023 = .ok (.dup, 1) := by decide +kernel
theorem dX11_init_1024 : decode cX11_init 1024 = .ok (.bipush 21, 2) := by decide +kernel
theorem dX11_init_1026 : decode cX11_init 1026 = .ok (.bipush 101, 2) := by decide +kernel
theorem dX11_init_1028 : decode cX11_init 1028 = .ok (.iastore, 1) := by decide +kernel
theorem dX11_init_1029 : decode cX11_init 1029 = .ok (.dup, 1) := by decide +kernel
theorem dX11_init_1030 : decode cX11_init 1030 = .ok (.bipush 22, 2) := by decide +kernel
theorem dX11_init_1032 : decode cX11_init 1032 = .ok (.bipush 110, 2) := by decide +kernel
theorem dX11_init_1034 : decode cX11_init 1034 = .ok (.iastore, 1) := by decide +kernel
theorem dX11_init_1035 : decode cX11_init 1035 = .ok (.dup, 1) := by decide +kernel
theorem dX11_init_1036 : decode cX11_init 1036 = .ok (.bipush 23, 2) := by decide +kernel
theorem dX11_init_1038 : decode cX11_init 1038 = .ok (.bipush 110, 2) := by decide +kernel
theorem dX11_init_1040 : decode cX11_init 1040 = .ok (.iastore, 1) := by decide +kernel
theorem dX11_init_1041 : decode cX11_init 1041 = .ok (.dup, 1) := by decide +kernel
theorem dX11_init_1042 : decode cX11_init 1042 = .ok (.bipush 24, 2) := by decide +kernel
theorem dX11_init_1044 : decode cX11_init 1044 = .ok (.bipush 105, 2) := by decide +kernel
theorem dX11_init_1046 : decode cX11_init 1046 = .ok (.iastore, 1) := by decide +kernel
theorem dX11_init_1047 : decode cX11_init 1047 = .ok (.dup, 1) := by decide +kernel
theorem dX11_init_1048 : decode cX11_init 1048 = .ok (.bipush 25, 2) := by decide +kernel
theorem dX11_init_1050 : decode cX11_init 1050 = .ok (.bipush 115, 2) := by decide +kernel
theorem dX11_init_1052 : decode cX11_init 1052 = .ok (.iastore, 1) := by decide +kernel
theorem dX11_init_1053 : decode cX11_init 1053 = .ok (.dup, 1) := by decide +kernel
theorem dX11_init_1054 : decode cX11_init 1054 = .ok (.bipush 26, 2) := by decide +kernel
theorem dX11_init_1056 : decode cX11_init 1056 = .ok (.bipush 32, 2) := by decide +kernel
theorem dX11_init_1058 : decode cX11_init 1058 = .ok (.iastore, 1) := by decide +kernel
theorem dX11_init_1059 : decode cX11_init 1059 = .ok (.dup, 1) := by decide +kernel
theorem dX11_init_1060 : decode cX11_init 1060 = .ok (.bipush 27, 2) := by decide +kernel
theorem dX11_init_1062 : decode cX11_init 1062 = .ok (.bipush 98, 2) := by decide +kernel
theorem dX11_init_1064 : decode cX11_init 1064 = .ok (.iastore, 1) := by decide +kernel
theorem dX11_init_1065 : decode cX11_init 1065 = .ok (.dup, 1) := by decide +kernel
theorem dX11_init_1066 : decode cX11_init 1066 = .ok (.bipush 28, 2) := by decide +kernel
theorem dX11_init_1068 : decode cX11_init 1068 = .ok (.bipush 97, 2) := by decide +kernel
theorem dX11_init_1070 : decode cX11_init 1070 = .ok (.iastore, 1) := by decide +kernel
theorem dX11_init_1071 : decode cX11_init 1071 = .ok (.dup, 1) := by decide +kernel
theorem dX11_init_1072 : decode cX11_init 1072 = .ok (.bipush 29, 2) := by decide +kernel
theorem dX11_init_1074 : decode cX11_init 1074 = .ok (.bipush 115, 2) := by decide +kernel
theorem dX11_init_1076 : decode cX11_init 1076 = .ok (.iastore, 1) := by decide +kernel
theorem dX11_init_1077 : decode cX11_init 1077 = .ok (.dup, 1) := by decide +kernel
theorem dX11_init_1078 : decode cX11_init 1078 = .ok (.bipush 30, 2) := by decide +kernel
theorem dX11_init_1080 : decode cX11_init 1080 = .ok (.bipush 101, 2) := by decide +kernel
theorem dX11_init_1082 : decode cX11_init 1082 = .ok (.iastore, 1) := by decide +kernel
theorem dX11_init_1083 : decode cX11_init 1083 = .ok (.dup, 1) := by decide +kernel
theorem dX11_init_1084 : decode cX11_init 1084 = .ok (.bipush 31, 2) := by decide +kernel
theorem dX11_init_1086 : decode cX11_init 1086 = .ok (.bipush 98, 2) := by decide +kernel
theorem dX11_init_1088 : decode cX11_init 1088 = .ok (.iastore, 1) := by decide +kernel
theorem dX11_init_1089 : decode cX11_init 1089 = .ok (.dup, 1) := by decide +kernel
theorem dX11_init_1090 : decode cX11_init 1090 = .ok (.bipush 32, 2) := by decide +kernel
theorem dX11_init_1092 : decode cX11_init 1092 = .ok (.bipush 97, 2) := by decide +kernel
theorem dX11_init_1094 : decode cX11_init 1094 = .ok (.iastore, 1) := by decide +kernel
theorem dX11_init_1095 : decode cX11_init 1095 = .ok (.dup, 1) := by decide +kernel
theorem dX11_init_1096 : decode cX11_init 1096 = .ok (.bipush 33, 2) := by decide +kernel
theorem dX11_init_1098 : decode cX11_init 1098 = .ok (.bipush 108, 2) := by decide +kernel
theorem dX11_init_1100 : decode cX11_init 1100 = .ok (.iastore, 1) := by decide +kernel
theorem dX11_init_1101 : decode cX11_init 1101 = .ok (.dup, 1) := by decide +kernel
theorem dX11_init_1102 : decode cX11_init 1102 = .ok (.bipush 34, 2) := by decide +kernel
theorem dX11_init_1104 : decode cX11_init 1104 = .ok (.bipush 108, 2) := by decide +kernel
theorem dX11_init_1106 : decode cX11_init 1106 = .ok (.iastore, 1) := by decide +kernel
theorem dX11_init_1107 : decode cX11_init 1107 = .ok (.dup, 1) := by decide +kernel
theorem dX11_init_1108 : decode cX11_init 1108 = .ok (.bipush 35, 2) := by decide +kernel
theorem dX11_init_1110 : decode cX11_init 1110 = .ok (.bipush 32, 2) := by decide +kernel
theorem dX11_init_1112 : decode cX11_init 1112 = .ok (.iastore, 1) := by decide +kernel
theorem dX11_init_1113 : decode cX11_init 1113 = .ok (.putfield 156, 3) := by decide +kernel
theorem dX11_init_1116 : decode cX11_init 1116 = .ok (.aload_n 0, 1) := by decide +kernel
theorem dX11_init_1117 : decode cX11_init 1117 = .ok (.bipush 37, 2) := by decide +kernel
theorem dX11_init_1119 : decode cX11_init 1119 = .ok (.newarray .int, 2) := by decide +kernel
theorem dX11_init_1121 : decode cX11_init 1121 = .ok (.dup, 1) := by decide +kernel
theorem dX11_init_1122 : decode cX11_init 1122 = .ok (.iconst 0, 1) := by decide +kernel
theorem dX11_init_1123 : decode cX11_init 1123 = .ok (.bipush 100, 2) := by decide +kernel
theorem dX11_init_1125 : decode cX11_init 1125 = .ok (.iastore, 1) := by decide +kernel
theorem dX11_init_1126 : decode cX11_init 1126 = .ok (.dup, 1) := by decide +kernel
theorem dX11_init_1127 : decode cX11_init 1127 = .ok (.iconst 1, 1) := by decide +kernel
theorem dX11_init_1128 : decode cX11_init 1128 = .ok (.bipush 105, 2) := by decide +kernel
theorem dX11_init_1130 : decode cX11_init 1130 = .ok (.iastore, 1) := by decide +kernel
theorem dX11_init_1131 : decode cX11_init 1131 = .ok (.dup, 1) := by decide +kernel
theorem dX11_init_1132 : decode cX11_init 1132 = .ok (.iconst 2, 1) := by decide +kernel
theorem dX11_init_1133 : decode cX11_init 1133 = .ok (.bipush 102, 2) := by decide +kernel
theorem dX11_init_1135 : decode cX11_init 1135 = .ok (.iastore, 1) := by decide +kernel
theorem dX11_init_1136 : decode cX11_init 1136 = .ok (.dup, 1) := by decide +kernel
theorem dX11_init_1137 : decode cX11_init 1137 = .ok (.iconst 3, 1) := by decide +kernel
theorem dX11_init_1138 : decode cX11_init 1138 = .ok (.bipush 102, 2) := by decide +kernel
theorem dX11_init_1140 : decode cX11_init 1140 = .ok (.iastore, 1) := by decide +kernel
theorem dX11_init_1141 : decode cX11_init 1141 = .ok (.dup, 1) := by decide +kernel
theorem dX11_init_1142 : decode cX11_init 1142 = .ok (.iconst 4, 1) := by decide +kernel
theorem dX11_init_1143 : decode cX11_init 1143 = .ok (.bipush 32, 2) := by decide +kernel
theorem dX11_init_1145 : decode cX11_init 1145 = .ok (.iastore, 1) := by decide +kernel
theorem dX11_init_1146 : decode cX11_init 1146 = .ok (.dup, 1) := by decide +kernel
theorem dX11_init_1147 : decode cX11_init 1147 = .ok (.iconst 5, 1) := by decide +kernel
theorem dX11_init_1148 : decode cX11_init 1148 = .ok (.bipush 115, 2) := by decide +kernel
theorem dX11_init_1150 : decode cX11_init 1150 = .ok (.iastore, 1) := by decide +kernel
theorem dX11_init_1151 : decode cX11_init 1151 = .ok (.dup, 1) := by decide +kernel
theorem dX11_init_1152 : decode cX11_init 1152 = .ok (.bipush 6, 2) := by decide +kernel
theorem dX11_init_1154 : decode cX11_init 1154 = .ok (.bipush 99, 2) := by decide +kernel
theorem dX11_init_1156 : decode cX11_init 1156 = .ok (.iastore, 1) := by decide +kernel
theorem dX11_init_1157 : decode cX11_init 1157 = .ok (.dup, 1) := by decide +kernel
theorem dX11_init_1158 : decode cX11_init 1158 = .ok (.bipush 7, 2) := by decide +kernel
theorem dX11_init_1160 : decode cX11_init 1160 = .ok (.bipush 111, 2) := by decide +kernel
theorem dX11_init_1162 : decode cX11_init 1162 = .ok (.iastore, 1) := by decide +kernel
theorem dX11_init_1163 : decode cX11_init 1163 = .ok (.dup, 1) := by decide +kernel
theorem dX11_init_1164 : decode cX11_init 1164 = .ok (.bipush 8, 2) := by decide +kernel
theorem dX11_init_1166 : decode cX11_init 1166 = .ok (.bipush 114, 2) := by decide +kernel
theorem dX11_init_1168 : decode cX11_init 1168 = .ok (.iastore, 1) := by decide +kernel
theorem dX11_init_1169 : decode cX11_init 1169 = .ok (.dup, 1) := by decide +kernel
theorem dX11_init_1170 : decode cX11_init 1170 = .ok (.bipush 9, 2) := by decide +kernel
theorem dX11_init_1172 : decode cX11_init 1172 = .ok (.bipush 101, 2) := by decide +kernel
theorem dX11_init_1174 : decode cX11_init 1174 = .ok (.iastore, 1) := by decide +kernel
theorem dX11_init_1175 : decode cX11_init 1175 = .ok (.dup, 1) := by decide +kernel
theorem dX11_init_1176 : decode cX11_init 1176 = .ok (.bipush 10, 2) := by decide +kernel
theorem dX11_init_1178 : decode cX11_init 1178 = .ok (.bipush 100, 2) := by decide +kernel
theorem dX11_init_1180 : decode cX11_init 1180 = .ok (.iastore, 1) := by decide +kernel
theorem dX11_init_1181 : decode cX11_init 1181 = .ok (.dup, 1) := by decide +kernel
theorem dX11_init_1182 : decode cX11_init 1182 = .ok (.bipush 11, 2) := by decide +kernel
theorem dX11_init_1184 : decode cX11_init 1184 = .ok (.bipush 32, 2) := by decide +kernel
theorem dX11_init_1186 : decode cX11_init 1186 = .ok (.iastore, 1) := by decide +kernel
theorem dX11_init_1187 : decode cX11_init 1187 = .ok (.dup, 1) := by decide +kernel
theorem dX11_init_1188 : decode cX11_init 1188 = .ok (.bipush 12, 2) := by decide +kernel
theorem dX11_init_1190 : decode cX11_init 1190 = .ok (.bipush 119, 2) := by decide +kernel
theorem dX11_init_1192 : decode cX11_init 1192 = .ok (.iastore, 1) := by decide +kernel
theorem dX11_init_1193 : decode cX11_init 1193 = .ok (.dup, 1) := by decide +kernel
theorem dX11_init_1194 : decode cX11_init 1194 = .ok (.bipush 13, 2) := by decide +kernel
theorem dX11_init_1196 : decode cX11_init 1196 = .ok (.bipush 105, 2) := by decide +kernel
theorem dX11_init_1198 : decode cX11_init 1198 = .ok (.iastore, 1) := by decide +kernel
theorem dX11_init_1199 : decode cX11_init 1199 = .ok (.dup, 1) := by decide +kernel
theorem dX11_init_1200 : decode cX11_init 1200 = .ok (.bipush 14, 2) := by decide +kernel
theorem dX11_init_1202 : decode cX11_init 1202 = .ok (.bipush 110, 2) := by decide +kernel
theorem dX11_init_1204 : decode cX11_init 1204 = .ok (.iastore, 1) := by decide +kernel
theorem dX11_init_1205 : decode cX11_init 1205 = .ok (.dup, 1) := by decide +kernel
theorem dX11_init_1206 : decode cX11_init 1206 = .ok (.bipush 15, 2) := by decide +kernel
theorem dX11_init_1208 : decode cX11_init 1208 = .ok (.bipush 115, 2) := by decide +kernel
theorem dX11_init_1210 : decode cX11_init 1210 = .ok (.iastore, 1) := by decide +kernel
theorem dX11_init_1211 : decode cX11_init 1211 = .ok (.dup, 1) := by decide +kernel
theorem dX11_init_1212 : decode cX11_init 1212 = .ok (.bipush 16, 2) := by decide +kernel
theorem dX11_init_1214 : decode cX11_init 1214 = .ok (.bipush 32, 2) := by decide +kernel
theorem dX11_init_1216 : decode cX11_init 1216 = .ok (.iastore, 1) := by decide +kernel
theorem dX11_init_1217 : decode cX11_init 1217 = .ok (.dup, 1) := by decide +kernel
theorem dX11_init_1218 : decode cX11_init 1218 = .ok (.bipush 17, 2) := by decide +kernel
theorem dX11_init_1220 : decode cX11_init 1220 = .ok (.bipush 97, 2) := by decide +kernel
theorem dX11_init_1222 : decode cX11_init 1222 = .ok (.iastore, 1) := by decide +kernel
theorem dX11_init_1223 : decode cX11_init 1223 = .ok (.dup, 1) := by decide +kernel
theorem dX11_init_1224 : decode cX11_init 1224 = .ok (.bipush 18, 2) := by decide +kernel
theorem dX11_init_1226 : decode cX11_init 1226 = .ok (.bipush 119, 2) := by decide +kernel
theorem dX11_init_1228 : decode cX11_init 1228 = .ok (.iastore, 1) := by decide +kernel
theorem dX11_init_1229 : decode cX11_init 1229 = .ok (.dup, 1) := by decide +kernel
theorem dX11_init_1230 : decode cX11_init 1230 = .ok (.bipush 19, 2) := by decide +kernel
theorem dX11_init_1232 : decode cX11_init 1232 = .ok (.bipush 97, 2) := by decide +kernel
theorem dX11_init_1234 : decode cX11_init 1234 = .ok (.iastore, 1) := by decide +kernel
theorem dX11_init_1235 : decode cX11_init 1235 = .ok (.dup, 1) := by decide +kernel
theorem dX11_init_1236 : decode cX11_init 1236 = .ok (.bipush 20, 2) := by decide +kernel
theorem dX11_init_1238 : decode cX11_init 1238 = .ok (.bipush 121, 2) := by decide +kernel
theorem dX11_init_1240 : decode cX11_init 1240 = .ok (.iastore, 1) := by decide +kernel
theorem dX11_init_1241 : decode cX11_init 1241 = .ok (.dup, 1) := by decide +kernel
theorem dX11_init_1242 : decode cX11_init 1242 = .ok (.bipush 21, 2) := by decide +kernel
theorem dX11_init_1244 : decode cX11_init 1244 = .ok (.bipush 32, 2) := by decide +kernel
theorem dX11_init_1246 : decode cX11_init 1246 = .ok (.iastore, 1) := by decide +kernel
theorem dX11_init_1247 : decode cX11_init 1247 = .ok (.dup, 1) := by decide +kernel
theorem dX11_init_1248 : decode cX11_init 1248 = .ok (.bipush 22, 2) := by decide +kernel
theorem dX11_init_1250 : decode cX11_init 1250 = .ok (.bipush 104, 2) := by decide +kernel
theorem dX11_init_1252 : decode cX11_init 1252 = .ok (.iastore, 1) := by decide +kernel
theorem dX11_init_1253 : decode cX11_init 1253 = .ok (.dup, 1) := by decide +kernel
theorem dX11_init_1254 : decode cX11_init 1254 = .ok (.bipush 23, 2) := by decide +kernel
theorem dX11_init_1256 : decode cX11_init 1256 = .ok (.bipush 101, 2) := by decide +kernel
theorem dX11_init_1258 : decode cX11_init 1258 = .ok (.iastore, 1) := by decide +kernel
theorem dX11_init_1259 : decode cX11_init 1259 = .ok (.dup, 1) := by decide +kernel
theorem dX11_init_1260 : decode cX11_init 1260 = .ok (.bipush 24, 2) := by decide +kernel
theorem dX11_init_1262 : decode cX11_init 1262 = .ok (.bipush 97, 2) := by decide +kernel
theorem dX11_init_1264 : decode cX11_init 1264 = .ok (.iastore, 1) := by decide +kernel
theorem dX11_init_1265 : decode cX11_init 1265 = .ok (.dup, 1) := by decide +kernel
theorem dX11_init_1266 : decode cX11_init 1266 = .ok (.bipush 25, 2) := by decide +kernel
theorem dX11_init_1268 : decode cX11_init 1268 = .ok (.bipush 100, 2) := by decide +kernel
theorem dX11_init_1270 : decode cX11_init 1270 = .ok (.iastore, 1) := by decide +kernel
theorem dX11_init_1271 : decode cX11_init 1271 = .ok (.dup, 1) := by decide +kernel
theorem dX11_init_1272 : decode cX11_init 1272 = .ok (.bipush 26, 2) := by decide +kernel
theorem dX11_init_1274 : decode cX11_init 1274 = .ok (.bipush 32, 2) := by decide +kernel
theorem dX11_init_1276 : decode cX11_init 1276 = .ok (.iastore, 1) := by decide +kernel
theorem dX11_init_1277 : decode cX11_init 1277 = .ok (.dup, 1) := by decide +kernel
theorem dX11_init_1278 : decode cX11_init 1278 = .ok (.bipush 27, 2) := by decide +kernel
theorem dX11_init_1280 : decode cX11_init 1280 = .ok (.bipush 102, 2) := by decide +kernel
theorem dX11_init_1282 : decode cX11_init 1282 = .ok (.iastore, 1) := by decide +kernel
theorem dX11_init_1283 : decode cX11_init 1283 = .ok (.dup, 1) := by decide +kernel
theorem dX11_init_1284 : decode cX11_init 1284 = .ok (.bipush 28, 2) := by decide +kernel
theorem dX11_init_1286 : decode cX11_init 1286 = .ok (.bipush 97, 2) := by decide +kernel
theorem dX11_init_1288 : decode cX11_init 1288 = .ok (.iastore, 1) := by decide +kernel
theorem dX11_init_1289 : decode cX11_init 1289 = .ok (.dup, 1) := by decide +kernel
theorem dX11_init_1290 : decode cX11_init 1290 = .ok (.bipush 29, 2) := by decide +kernel
theorem dX11_init_1292 : decode cX11_init 1292 = .ok (.bipush 105, 2) := by decide +kernel
theorem dX11_init_1294 : decode cX11_init 1294 = .ok (.iastore, 1) := by decide +kernel
theorem dX11_init_1295 : decode cX11_init 1295 = .ok (.dup, 1) := by decide +kernel
theorem dX11_init_1296 : decode cX11_init 1296 = .ok (.bipush 30, 2) := by decide +kernel
theorem dX11_init_1298 : decode cX11_init 1298 = .ok (.bipush 114, 2) := by decide +kernel
theorem dX11_init_1300 : decode cX11_init 1300 = .ok (.iastore, 1) := by decide +kernel
theorem dX11_init_1301 : decode cX11_init 1301 = .ok (.dup, 1) := by decide +kernel
theorem dX11_init_1302 : decode cX11_init 1302 = .ok (.bipush 31, 2) := by decide +kernel
theorem dX11_init_1304 : decode cX11_init 1304 = .ok (.bipush 32, 2) := by decide +kernel
theorem dX11_init_1306 : decode cX11_init 1306 = .ok (.iastore, 1) := by decide +kernel
theorem dX11_init_1307 : decode cX11_init 1307 = .ok (.dup, 1) := by decide +kernel
theorem dX11_init_1308 : decode cX11_init 1308 = .ok (.bipush 32, 2) := by decide +kernel
theorem dX11_init_1310 : decode cX11_init 1310 = .ok (.bipush 108, 2) := by decide +kernel
theorem dX11_init_1312 : decode cX11_init 1312 = .ok (.iastore, 1) := by decide +kernel
theorem dX11_init_1313 : decode cX11_init 1313 = .ok (.dup, 1) := by decide +kernel
theorem dX11_init_1314 : decode cX11_init 1314 = .ok (.bipush 33, 2) := by decide +kernel
theorem dX11_init_1316 : decode cX11_init 1316 = .ok (.bipush 111, 2) := by decide +kernel
theorem dX11_init_1318 : decode cX11_init 1318 = .ok (.iastore, 1) := by decide +kernel
theorem dX11_init_1319 : decode cX11_init 1319 = .ok (.dup, 1) := by decide +kernel
theorem dX11_init_1320 : decode cX11_init 1320 = .ok (.bipush 34, 2) := by decide +kernel
theorem dX11_init_1322 : decode cX11_init 1322 = .ok (.bipush 116, 2) := by decide +kernel
theorem dX11_init_1324 : decode cX11_init 1324 = .ok (.iastore, 1) := by decide +kernel
theorem dX11_init_1325 : decode cX11_init 1325 = .ok (.dup, 1) := by decide +kernel
theorem dX11_init_1326 : decode cX11_init 1326 = .ok (.bipush 35, 2) := by decide +kernel
theorem dX11_init_1328 : decode cX11_init 1328 = .ok (.bipush 115, 2) := by decide +kernel
theorem dX11_init_1330 : decode cX11_init 1330 = .ok (.iastore, 1) := by decide +kernel
theorem dX11_init_1331 : decode cX11_init 1331 = .ok (.dup, 1) := by decide +kernel
theorem dX11_init_1332 : decode cX11_init 1332 = .ok (.bipush 36, 2) := by decide +kernel
theorem dX11_init_1334 : decode cX11_init 1334 = .ok (.bipush 32, 2) := by decide +kernel
theorem dX11_init_1336 : decode cX11_init 1336 = .ok (.iastore, 1) := by decide +kernel
theorem dX11_init_1337 : decode cX11_init 1337 = .ok (.putfield 159, 3) := by decide +kernel
theorem dX11_init_1340 : decode cX11_init 1340 = .ok (.aload_n 0, 1) := by decide +kernel
theorem dX11_init_1341 : decode cX11_init 1341 = .ok (.bipush 10, 2) := by decide +kernel
theorem dX11_init_1343 : decode cX11_init 1343 = .ok (.newarray .int, 2) := by decide +kernel
theorem dX11_init_1345 : decode cX11_init 1345 = .ok (.dup, 1) := by decide +kernel
theorem dX11_init_1346 : decode cX11_init 1346 = .ok (.iconst 0, 1) := by decide +kernel
theorem dX11_init_1347 : decode cX11_init 1347 = .ok (.iconst 1, 1) := by decide +kernel
theorem dX11_init_1348 : decode cX11_init 1348 = .ok (.iastore, 1) := by decide +kernel
theorem dX11_init_1349 : decode cX11_init 1349 = .ok (.dup, 1) := by decide +kernel
theorem dX11_init_1350 : decode cX11_init 1350 = .ok (.iconst 1, 1) := by decide +kernel
theorem dX11_init_1351 : decode cX11_init 1351 = .ok (.iconst 1, 1) := by decide +kernel
theorem dX11_init_1352 : decode cX11_init 1352 = .ok (.iastore, 1) := by decide +kernel
theorem dX11_init_1353 : decode cX11_init 1353 = .ok (.dup, 1) := by decide +kernel
theorem dX11_init_1354 : decode cX11_init 1354 = .ok (.iconst 2, 1) := by decide +kernel
theorem dX11_init_1355 : decode cX11_init 1355 = .ok (.iconst 1, 1) := by decide +kernel
theorem dX11_init_1356 : decode cX11_init 1356 = .ok (.iastore, 1) := by decide +kernel
theorem dX11_init_1357 : decode cX11_init 1357 = .ok (.dup, 1) := by decide +kernel
theorem dX11_init_1358 : decode cX11_init 1358 = .ok (.iconst 3, 1) := by decide +kernel
theorem dX11_init_1359 : decode cX11_init 1359 = .ok (.iconst 1, 1) := by decide +kernel
theorem dX11_init_1360 : decode cX11_init 1360 = .ok (.iastore, 1) := by decide +kernel
theorem dX11_init_1361 : decode cX11_init 1361 = .ok (.dup, 1) := by decide +kernel
theorem dX11_init_1362 : decode cX11_init 1362 = .ok (.iconst 4, 1) := by decide +kernel
theorem dX11_init_1363 : decode cX11_init 1363 = .ok (.iconst 0, 1) := by decide +kernel
theorem dX11_init_1364 : decode cX11_init 1364 = .ok (.iastore, 1) := by decide +kernel
theorem dX11_init_1365 : decode cX11_init 1365 = .ok (.dup, 1) := by decide +kernel
theorem dX11_init_1366 : decode cX11_init 1366 = .ok (.iconst 5, 1) := by decide +kernel
theorem dX11_init_1367 : decode cX11_init 1367 = .ok (.iconst 2, 1) := by decide +kernel
theorem dX11_init_1368 : decode cX11_init 1368 = .ok (.iastore, 1) := by decide +kernel
theorem dX11_init_1369 : decode cX11_init 1369 = .ok (.dup, 1) := by decide +kernel
theorem dX11_init_1370 : decode cX11_init 1370 = .ok (.bipush 6, 2) := by decide +kernel
theorem dX11_init_1372 : decode cX11_init 1372 = .ok (.iconst 1, 1) := by decide +kernel
theorem dX11_init_1373 : decode cX11_init 1373 = .ok (.iastore, 1) := by decide +kernel
theorem dX11_init_1374 : decode cX11_init 1374 = .ok (.dup, 1) := by decide +kernel
theorem dX11_init_1375 : decode cX11_init 1375 = .ok (.bipush 7, 2) := by decide +kernel
theorem dX11_init_1377 : decode cX11_init 1377 = .ok (.iconst 1, 1) := by decide +kernel
theorem dX11_init_1378 : decode cX11_init 1378 = .ok (.iastore, 1) := by decide +kernel
theorem dX11_init_1379 : decode cX11_init 1379 = .ok (.dup, 1) := by decide +kernel
theorem dX11_init_1380 : decode cX11_init 1380 = .ok (.bipush 8, 2) := by decide +kernel
theorem dX11_init_1382 : decode cX11_init 1382 = .ok (.iconst 1, 1) := by decide +kernel
theorem dX11_init_1383 : decode cX11_init 1383 = .ok (.iastore, 1) := by decide +kernel
theorem dX11_init_1384 : decode cX11_init 1384 = .ok (.dup, 1) := by decide +kernel
theorem dX11_init_1385 : decode cX11_init 1385 = .ok (.bipush 9, 2) := by decide +kernel
theorem dX11_init_1387 : decode cX11_init 1387 = .ok (.iconst 0, 1) := by decide +kernel
theorem dX11_init_1388 : decode cX11_init 1388 = .ok (.iastore, 1) := by decide +kernel
theorem dX11_init_1389 : decode cX11_init 1389 = .ok (.putfield 162, 3) := by decide +kernel
theorem dX11_init_1392 : decode cX11_init 1392 = .ok (.aload_n 0, 1) := by decide +kernel
theorem dX11_init_1393 : decode cX11_init 1393 = .ok (.bipush 10, 2) := by decide +kernel
theorem dX11_init_1395 : decode cX11_init 1395 = .ok (.newarray .int, 2) := by decide +kernel
theorem dX11_init_1397 : decode cX11_init 1397 = .ok (.dup, 1) := by decide +kernel
theorem dX11_init_1398 : decode cX11_init 1398 = .ok (.iconst 0, 1) := by decide +kernel
theorem dX11_init_1399 : decode cX11_init 1399 = .ok (.iconst 4, 1) := by decide +kernel
theorem dX11_init_1400 : decode cX11_init 1400 = .ok (.iastore, 1) := by decide +kernel
theorem dX11_init_1401 : decode cX11_init 1401 = .ok (.dup, 1) := by decide +kernel
theorem dX11_init_1402 : decode cX11_init 1402 = .ok (.iconst 1, 1) := by decide +kernel
theorem dX11_init_1403 : decode cX11_init 1403 = .ok (.bipush 30, 2) := by decide +kernel
theorem dX11_init_1405 : decode cX11_init 1405 = .ok (.iastore, 1) := by decide +kernel
theorem dX11_init_1406 : decode cX11_init 1406 = .ok (.dup, 1) := by decide +kernel
theorem dX11_init_1407 : decode cX11_init 1407 = .ok (.iconst 2, 1) := by decide +kernel
theorem dX11_init_1408 : decode cX11_init 1408 = .ok (.bipush 9, 2) := by decide +kernel
theorem dX11_init_1410 : decode cX11_init 1410 = .ok (.iastore, 1) := by decide +kernel
theorem dX11_init_1411 : decode cX11_init 1411 = .ok (.dup, 1) := by decide +kernel
theorem dX11_init_1412 : decode cX11_init 1412 = .ok (.iconst 3, 1) := by decide +kernel
theorem dX11_init_1413 : decode cX11_init 1413 = .ok (.bipush 6, 2) := by decide +kernel
theorem dX11_init_1415 : decode cX11_init 1415 = .ok (.iastore, 1) := by decide +kernel
theorem dX11_init_1416 : decode cX11_init 1416 = .ok (.dup, 1) := by decide +kernel
theorem dX11_init_1417 : decode cX11_init 1417 = .ok (.iconst 4, 1) := by decide +kernel
theorem dX11_init_1418 : decode cX11_init 1418 = .ok (.iconst 5, 1) := by decide +kernel
theorem dX11_init_1419 : decode cX11_init 1419 = .ok (.iastore, 1) := by decide +kernel
theorem dX11_init_1420 : decode cX11_init 1420 = .ok (.dup, 1) := by decide +kernel
theorem dX11_init_1421 : decode cX11_init 1421 = .ok (.iconst 5, 1) := by decide +kernel
theorem dX11_init_1422 : decode cX11_init 1422 = .ok (.bipush 25, 2) := by decide +kernel
theorem dX11_init_1424 : decode cX11_init 1424 = .ok (.iastore, 1) := by decide +kernel
theorem dX11_init_1425 : decode cX11_init 1425 = .ok (.dup, 1) := by decide +kernel
theorem dX11_init_1426 : decode cX11_init 1426 = .ok (.bipush 6, 2) := by decide +kernel
theorem dX11_init_1428 : decode cX11_init 1428 = .ok (.bipush 9, 2) := by decide +kernel
theorem dX11_init_1430 : decode cX11_init 1430 = .ok (.iastore, 1) := by decide +kernel
theorem dX11_init_1431 : decode cX11_init 1431 = .ok (.dup, 1) := by decide +kernel
theorem dX11_init_1432 : decode cX11_init 1432 = .ok (.bipush 7, 2) := by decide +kernel
theorem dX11_init_1434 : decode cX11_init 1434 = .ok (.bipush 9, 2) := by decide +kernel
theorem dX11_init_1436 : decode cX11_init 1436 = .ok (.iastore, 1) := by decide +kernel
theorem dX11_init_1437 : decode cX11_init 1437 = .ok (.dup, 1) := by decide +kernel
theorem dX11_init_1438 : decode cX11_init 1438 = .ok (.bipush 8, 2) := by decide +kernel
theorem dX11_init_1440 : decode cX11_init 1440 = .ok (.bipush 9, 2) := by decide +kernel
theorem dX11_init_1442 : decode cX11_init 1442 = .ok (.iastore, 1) := by decide +kernel
theorem dX11_init_1443 : decode cX11_init 1443 = .ok (.dup, 1) := by decide +kernel
theorem dX11_init_1444 : decode cX11_init 1444 = .ok (.bipush 9, 2) := by decide +kernel
theorem dX11_init_1446 : decode cX11_init 1446 = .ok (.sipush 999, 3) := by decide +kernel
theorem dX11_init_1449 : decode cX11_init 1449 = .ok (.iastore, 1) := by decide +kernel
theorem dX11_init_1450 : decode cX11_init 1450 = .ok (.putfield 165, 3) := by decide +kernel
theorem dX11_init_1453 : decode cX11_init 1453 = .ok (.aload_n 0, 1) := by decide +kernel
theorem dX11_init_1454 : decode cX11_init 1454 = .ok (.bipush 14, 2) := by decide +kernel
theorem dX11_init_1456 : decode cX11_init 1456 = .ok (.newarray .boolean, 2) := by decide +kernel
theorem dX11_init_1458 : decode cX11_init 1458 = .ok (.putfield 168, 3) := by decide +kernel
theorem dX11_init_1461 : decode cX11_init 1461 = .ok (.aload_n 0, 1) := by decide +kernel
theorem dX11_init_1462 : decode cX11_init 1462 = .ok (.bipush 7, 2) := by decide +kernel
theorem dX11_init_1464 : decode cX11_init 1464 = .ok (.newarray .boolean, 2) := by decide +kernel
theorem dX11_init_1466 : decode cX11_init 1466 = .ok (.putfield 171, 3) := by decide +kernel
theorem dX11_init_1469 : decode cX11_init 1469 = .ok (.aload_n 0, 1) := by decide +kernel
theorem dX11_init_1470 : decode cX11_init 1470 = .ok (.sipush 400, 3) := by decide +kernel
theorem dX11_init_1473 : decode cX11_init 1473 = .ok (.newarray .int, 2) := by decide +kernel
theorem dX11_init_1475 : decode cX11_init 1475 = .ok (.putfield 174, 3) := by decide +kernel
theorem dX11_init_1478 : decode cX11_init 1478 = .ok (.aload_n 0, 1) := by decide +kernel
theorem dX11_init_1479 : decode cX11_init 1479 = .ok (.sipush 400, 3) := by decide +kernel
theorem dX11_init_1482 : decode cX11_init 1482 = .ok (.newarray .int, 2) := by decide +kernel
theorem dX11_init_1484 : decode cX11_init 1484 = .ok (.putfield 177, 3) := by decide +kernel
theorem dX11_init_1487 : decode cX11_init 1487 = .ok (.aload_n 0, 1) := by decide +kernel
theorem dX11_init_1488 : decode cX11_init 1488 = .ok (.sipush 400, 3) := by decide +kernel
theorem dX11_init_1491 : decode cX11_init 1491 = .ok (.newarray .int, 2) := by decide +kernel
theorem dX11_init_1493 : decode cX11_init 1493 = .ok (.putfield 180, 3) := by decide +kernel
theorem dX11_init_1496 : decode cX11_init 1496 = .ok (.aload_n 0, 1) := by decide +kernel
theorem dX11_init_1497 : decode cX11_init 1497 = .ok (.bipush 108, 2) := by decide +kernel
theorem dX11_init_1499 : decode cX11_init 1499 = .ok (.newarray .int, 2) := by decide +kernel
theorem dX11_init_1501 : decode cX11_init 1501 = .ok (.putfield 183, 3) := by decide +kernel
theorem dX11_init_1504 : decode cX11_init 1504 = .ok (.aload_n 0, 1) := by decide +kernel
theorem dX11_init_1505 : decode cX11_init 1505 = .ok (.bipush 12, 2) := by decide +kernel
theorem dX11_init_1507 : decode cX11_init 1507 = .ok (.newarray .int, 2) := by decide +kernel
theorem dX11_init_1509 : decode cX11_init 1509 = .ok (.putfield 186, 3) := by decide +kernel
theorem dX11_init_1512 : decode cX11_init 1512 = .ok (.aload_n 0, 1) := by decide +kernel
theorem dX11_init_1513 : decode cX11_init 1513 = .ok (.bipush 12, 2) := by decide +kernel
theorem dX11_init_1515 : decode cX11_init 1515 = .ok (.newarray .int, 2) := by decide +kernel
theorem dX11_init_1517 : decode cX11_init 1517 = .ok (.putfield 189, 3) := by decide +kernel
theorem dX11_init_1520 : decode cX11_init 1520 = .ok (.aload_n 0, 1) := by decide +kernel
theorem dX11_init_1521 : decode cX11_init 1521 = .ok (.sipush 400, 3) := by decide +kernel
theorem dX11_init_1524 : decode cX11_init 1524 = .ok (.newarray .int, 2) := by decide +kernel
theorem dX11_init_1526 : decode cX11_init 1526 = .ok (.putfield 192, 3) := by decide +kernel
theorem dX11_init_1529 : decode cX11_init 1529 = .ok (.aload_n 0, 1) := by decide +kernel
theorem dX11_init_1530 : decode cX11_init 1530 = .ok (.bipush 36, 2) := by decide +kernel
theorem dX11_init_1532 : decode cX11_init 1532 = .ok (.newarray .int, 2) := by decide +kernel
theorem dX11_init_1534 : decode cX11_init 1534 = .ok (.putfield 195, 3) := by decide +kernel
theorem dX11_init_1537 : decode cX11_init 1537 = .ok (.aload_n 0, 1) := by decide +kernel
theorem dX11_init_1538 : decode cX11_init 1538 = .ok (.bipush 120, 2) := by decide +kernel
theorem dX11_init_1540 : decode cX11_init 1540 = .ok (.newarray .int, 2) := by decide +kernel
theorem dX11_init_1542 : decode cX11_init 1542 = .ok (.putfield 198, 3) := by decide +kernel
theorem dX11_init_1545 : decode cX11_init 1545 = .ok (.aload_n 0, 1) := by decide +kernel
theorem dX11_init_1546 : decode cX11_init 1546 = .ok (.iconst (-1), 1) := by decide +kernel
theorem dX11_init_1547 : decode cX11_init 1547 = .ok (.putfield 201, 3) := by decide +kernel
theorem dX11_init_1550 : decode cX11_init 1550 = .ok (.aload_n 0, 1) := by decide +kernel
theorem dX11_init_1551 : decode cX11_init 1551 = .ok (.sipush 400, 3) := by decide +kernel
theorem dX11_init_1554 : decode cX11_init 1554 = .ok (.newarray .int, 2) := by decide +kernel
theorem dX11_init_1556 : decode cX11_init 1556 = .ok (.putfield 204, 3) := by decide +kernel
theorem dX11_init_1559 : decode cX11_init 1559 = .ok (.aload_n 0, 1) := by decide +kernel
theorem dX11_init_1560 : decode cX11_init 1560 = .ok (.bipush 12, 2) := by decide +kernel
theorem dX11_init_1562 : decode cX11_init 1562 = .ok (.newarray .int, 2) := by decide +kernel
theorem dX11_init_1564 : decode cX11_init 1564 = .ok (.putfield 207, 3) := by decide +kernel
theorem dX11_init_1567 : decode cX11_init 1567 = .ok (.aload_n 0, 1) := by decide +kernel
theorem dX11_init_1568 : decode cX11_init 1568 = .ok (.bipush 12, 2) := by decide +kernel
theorem dX11_init_1570 : decode cX11_init 1570 = .ok (.newarray .int, 2) := by decide +kernel
theorem dX11_init_1572 : decode cX11_init 1572 = .ok (.putfield 210, 3) := by decide +kernel
theorem dX11_init_1575 : decode cX11_init 1575 = .ok (.aload_n 0, 1) := by decide +kernel
theorem dX11_init_1576 : decode cX11_init 1576 = .ok (.bipush 12, 2) := by decide +kernel
theorem dX11_init_1578 : decode cX11_init 1578 = .ok (.newarray .int, 2) := by decide +kernel
theorem dX11_init_1580 : decode cX11_init 1580 = .ok (.putfield 213, 3) := by decide +kernel
theorem dX11_init_1583 : decode cX11_init 1583 = .ok (.aload_n 0, 1) := by decide +kernel
theorem dX11_init_1584 : decode cX11_init 1584 = .ok (.sipush 144, 3) := by decide +kernel
theorem dX11_init_1587 : decode cX11_init 1587 = .ok (.newarray .int, 2) := by decide +kernel
theorem dX11_init_1589 : decode cX11_init 1589 = .ok (.putfield 216, 3) := by decide +kernel
theorem dX11_init_1592 : decode cX11_init 1592 = .ok (.aload_n 0, 1) := by decide +kernel
theorem dX11_init_1593 : decode cX11_init 1593 = .ok (.sipush 4096, 3) := by decide +kernel
theorem dX11_init_1596 : decode cX11_init 1596 = .ok (.newarray .int, 2) := by decide +kernel
theorem dX11_init_1598 : decode cX11_init 1598 = .ok (.putfield 219, 3) := by decide +kernel
theorem dX11_init_1601 : decode cX11_init 1601 = .ok (.aload_n 0, 1) := by decide +kernel
theorem dX11_init_1602 : decode cX11_init 1602 = .ok (.sipush 400, 3) := by decide +kernel
theorem dX11_init_1605 : decode cX11_init 1605 = .ok (.newarray .int, 2) := by decide +kernel
theorem dX11_init_1607 : decode cX11_init 1607 = .ok (.putfield 222, 3) := by decide +kernel
theorem dX11_init_1610 : decode cX11_init 1610 = .ok (.aload_n 0, 1) := by decide +kernel
theorem dX11_init_1611 : decode cX11_init 1611 = .ok (.bipush 12, 2) := by decide +kernel
theorem dX11_init_1613 : decode cX11_init 1613 = .ok (.newarray .int, 2) := by decide +kernel
theorem dX11_init_1615 : decode cX11_init 1615 = .ok (.putfield 225, 3) := by decide +kernel
theorem dX11_init_1618 : decode cX11_init 1618 = .ok (.aload_n 0, 1) := by decide +kernel
theorem dX11_init_1619 : decode cX11_init 1619 = .ok (.bipush 12, 2) := by decide +kernel
theorem dX11_init_1621 : decode cX11_init 1621 = .ok (.newarray .int, 2) := by decide +kernel
theorem dX11_init_1623 : decode cX11_init 1623 = .ok (.putfield 228, 3) := by decide +kernel
theorem dX11_init_1626 : decode cX11_init 1626 = .ok (.aload_n 0, 1) := by decide +kernel
theorem dX11_init_1627 : decode cX11_init 1627 = .ok (.bipush 12, 2) := by decide +kernel
theorem dX11_init_1629 : decode cX11_init 1629 = .ok (.newarray .int, 2) := by decide +kernel
theorem dX11_init_1631 : decode cX11_init 1631 = .ok (.putfield 231, 3) := by decide +kernel
theorem dX11_init_1634 : decode cX11_init 1634 = .ok (.aload_n 0, 1) := by decide +kernel
theorem dX11_init_1635 : decode cX11_init 1635 = .ok (.bipush 12, 2) := by decide +kernel
theorem dX11_init_1637 : decode cX11_init 1637 = .ok (.newarray .int, 2) := by decide +kernel
theorem dX11_init_1639 : decode cX11_init 1639 = .ok (.putfield 234, 3) := by decide +kernel
theorem dX11_init_1642 : decode cX11_init 1642 = .ok (.aload_n 0, 1) := by decide +kernel
theorem dX11_init_1643 : decode cX11_init 1643 = .ok (.sipush 400, 3) := by decide +kernel
theorem dX11_init_1646 : decode cX11_init 1646 = .ok (.newarray .int, 2) := by decide +kernel
theorem dX11_init_1648 : decode cX11_init 1648 = .ok (.putfield 237, 3) := by decide +kernel
theorem dX11_init_1651 : decode cX11_init 1651 = .ok (.aload_n 0, 1) := by decide +kernel
theorem dX11_init_1652 : decode cX11_init 1652 = .ok (.bipush 8, 2) := by decide +kernel
theorem dX11_init_1654 : decode cX11_init 1654 = .ok (.newarray .int, 2) := by decide +kernel
theorem dX11_init_1656 : decode cX11_init 1656 = .ok (.putfield 240, 3) := by decide +kernel
theorem dX11_init_1659 : decode cX11_init 1659 = .ok (.aload_n 0, 1) := by decide +kernel
theorem dX11_init_1660 : decode cX11_init 1660 = .ok (.bipush 8, 2) := by decide +kernel
theorem dX11_init_1662 : decode cX11_init 1662 = .ok (.newarray .int, 2) := by decide +kernel
theorem dX11_init_1664 : decode cX11_init 1664 = .ok (.putfield 243, 3) := by decide +kernel
theorem dX11_init_1667 : decode cX11_init 1667 = .ok (.aload_n 0, 1) := by decide +kernel
theorem dX11_init_1668 : decode cX11_init 1668 = .ok (.bipush 8, 2) := by decide +kernel
theorem dX11_init_1670 : decode cX11_init 1670 = .ok (.newarray .int, 2) := by decide +kernel
theorem dX11_init_1672 : decode cX11_init 1672 = .ok (.putfield 246, 3) := by decide +kernel
theorem dX11_init_1675 : decode cX11_init 1675 = .ok (.aload_n 0, 1) := by decide +kernel
theorem dX11_init_1676 : decode cX11_init 1676 = .ok (.sipush 400, 3) := by decide +kernel
theorem dX11_init_1679 : decode cX11_init 1679 = .ok (.newarray .int, 2) := by decide +kernel
theorem dX11_init_1681 : decode cX11_init 1681 = .ok (.putfield 249, 3) := by decide +kernel
theorem dX11_init_1684 : decode cX11_init 1684 = .ok (.aload_n 0, 1) := by decide +kernel
theorem dX11_init_1685 : decode cX11_init 1685 = .ok (.iconst 0, 1) := by decide +kernel
theorem dX11_init_1686 : decode cX11_init 1686 = .ok (.putfield 252, 3) := by decide +kernel
theorem dX11_init_1689 : decode cX11_init 1689 = .ok (.return_, 1) := by decide +kernel
