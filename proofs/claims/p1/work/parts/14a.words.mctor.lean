theorem t_91 : Cond.selects RX14 yX14_nothingTold yX14_nothingTold ∈ lw_g := gg_ (i := 91) (by decide +kernel) (by decide +kernel)
theorem t_198 : Cond.initialized RX14 ∈ lw_g := gg_ (i := 198) (by decide +kernel) (by decide +kernel)
theorem t_199 : Cond.initialized RJ25 ∈ lw_g := gg_ (i := 199) (by decide +kernel) (by decide +kernel)
theorem t_200 : Cond.initialized RJ18 ∈ lw_g := gg_ (i := 200) (by decide +kernel) (by decide +kernel)
theorem t_201 : Cond.initialized RJ20 ∈ lw_g := gg_ (i := 201) (by decide +kernel) (by decide +kernel)
theorem t_202 : Cond.initialized RX13 ∈ lw_g := gg_ (i := 202) (by decide +kernel) (by decide +kernel)
theorem t_203 : Cond.initialized RX12 ∈ lw_g := gg_ (i := 203) (by decide +kernel) (by decide +kernel)
theorem t_1834 : Cond.code yX14_init cX14_init 1 none ∈ lw_g := gg_ (i := 1834) (by decide +kernel) (by decide +kernel)
theorem t_1835 : Cond.methodLink RX14 1 objectInit ∈ lw_g := gg_ (i := 1835) (by decide +kernel) (by decide +kernel)
theorem t_1836 : Cond.classLink RX14 7 RX13 ∈ lw_g := gg_ (i := 1836) (by decide +kernel) (by decide +kernel)
theorem t_1837 : Cond.instantiable RX13 6 ∈ lw_g := gg_ (i := 1837) (by decide +kernel) (by decide +kernel)
theorem t_1861 : Cond.methodLink RJ25 1 objectInit ∈ lw_g := gg_ (i := 1861) (by decide +kernel) (by decide +kernel)
theorem t_1862 : Cond.fieldLink RJ25 13 "java/lang/Throwable" "UNASSIGNED_STACK" "[Ljava/lang/StackTraceElement;" ∈ lw_g := gg_ (i := 1862) (by decide +kernel) (by decide +kernel)
theorem t_1864 : Cond.fieldLink RJ25 20 "java/lang/Throwable" "SUPPRESSED_SENTINEL" "Ljava/util/List;" ∈ lw_g := gg_ (i := 1864) (by decide +kernel) (by decide +kernel)
theorem t_1875 : Cond.methodLink RX14 9 yX13_init ∈ lw_g := gg_ (i := 1875) (by decide +kernel) (by decide +kernel)
theorem t_1876 : Cond.instanceMethod yX13_init ∈ lw_g := gg_ (i := 1876) (by decide +kernel) (by decide +kernel)
theorem t_1877 : Cond.code yX13_init cX13_init 1 none ∈ lw_g := gg_ (i := 1877) (by decide +kernel) (by decide +kernel)
theorem t_1878 : Cond.methodLink RX13 1 yJ20_init ∈ lw_g := gg_ (i := 1878) (by decide +kernel) (by decide +kernel)
theorem t_1879 : Cond.instanceMethod yJ20_init ∈ lw_g := gg_ (i := 1879) (by decide +kernel) (by decide +kernel)
theorem t_1880 : Cond.code yJ20_init cJ20_init 5 none ∈ lw_g := gg_ (i := 1880) (by decide +kernel) (by decide +kernel)
theorem t_1881 : Cond.methodLink RJ20 16 yJ18_init ∈ lw_g := gg_ (i := 1881) (by decide +kernel) (by decide +kernel)
theorem t_1882 : Cond.instanceMethod yJ18_init ∈ lw_g := gg_ (i := 1882) (by decide +kernel) (by decide +kernel)
theorem t_1883 : Cond.code yJ18_init cJ18_init 5 none ∈ lw_g := gg_ (i := 1883) (by decide +kernel) (by decide +kernel)
theorem t_1884 : Cond.methodLink RJ18 16 yJ25_init ∈ lw_g := gg_ (i := 1884) (by decide +kernel) (by decide +kernel)
theorem t_1885 : Cond.instanceMethod yJ25_init ∈ lw_g := gg_ (i := 1885) (by decide +kernel) (by decide +kernel)
theorem t_1886 : Cond.code yJ25_init cJ25_init 5 none ∈ lw_g := gg_ (i := 1886) (by decide +kernel) (by decide +kernel)
theorem t_1888 : Cond.fieldLink RJ25 31 "java/lang/Throwable" "detailMessage" "Ljava/lang/String;" ∈ lw_g := gg_ (i := 1888) (by decide +kernel) (by decide +kernel)
theorem t_1889 : Cond.fieldLink RJ25 7 "java/lang/Throwable" "cause" "Ljava/lang/Throwable;" ∈ lw_g := gg_ (i := 1889) (by decide +kernel) (by decide +kernel)
theorem t_1890 : Cond.fieldLink RJ25 17 "java/lang/Throwable" "stackTrace" "[Ljava/lang/StackTraceElement;" ∈ lw_g := gg_ (i := 1890) (by decide +kernel) (by decide +kernel)
theorem t_1891 : Cond.fieldLink RJ25 24 "java/lang/Throwable" "suppressedExceptions" "Ljava/util/List;" ∈ lw_g := gg_ (i := 1891) (by decide +kernel) (by decide +kernel)
theorem t_1900 : Cond.classLink RX14 16 RX12 ∈ lw_g := gg_ (i := 1900) (by decide +kernel) (by decide +kernel)
theorem t_1901 : Cond.instantiable RX12 60 ∈ lw_g := gg_ (i := 1901) (by decide +kernel) (by decide +kernel)
theorem t_1903 : Cond.instanceMethod yX12_init ∈ lw_g := gg_ (i := 1903) (by decide +kernel) (by decide +kernel)
theorem t_1904 : Cond.code yX12_init cX12_init 1 none ∈ lw_g := gg_ (i := 1904) (by decide +kernel) (by decide +kernel)
theorem t_1905 : Cond.methodLink RX12 3 objectInit ∈ lw_g := gg_ (i := 1905) (by decide +kernel) (by decide +kernel)
theorem t_1907 : Cond.fieldLink RX12 9 "TrialGardenModel$Program" "cA" "[J" ∈ lw_g := gg_ (i := 1907) (by decide +kernel) (by decide +kernel)
theorem t_1909 : Cond.fieldLink RX12 15 "TrialGardenModel$Program" "cB" "[J" ∈ lw_g := gg_ (i := 1909) (by decide +kernel) (by decide +kernel)
theorem t_1911 : Cond.fieldLink RX12 18 "TrialGardenModel$Program" "cAbove" "[I" ∈ lw_g := gg_ (i := 1911) (by decide +kernel) (by decide +kernel)
theorem t_1913 : Cond.fieldLink RX12 22 "TrialGardenModel$Program" "cFields" "[I" ∈ lw_g := gg_ (i := 1913) (by decide +kernel) (by decide +kernel)
theorem t_1915 : Cond.fieldLink RX12 25 "TrialGardenModel$Program" "cCells" "[I" ∈ lw_g := gg_ (i := 1915) (by decide +kernel) (by decide +kernel)
theorem t_1917 : Cond.fieldLink RX12 28 "TrialGardenModel$Program" "fA" "[J" ∈ lw_g := gg_ (i := 1917) (by decide +kernel) (by decide +kernel)
theorem t_1919 : Cond.fieldLink RX12 31 "TrialGardenModel$Program" "fB" "[J" ∈ lw_g := gg_ (i := 1919) (by decide +kernel) (by decide +kernel)
theorem t_1921 : Cond.fieldLink RX12 34 "TrialGardenModel$Program" "fRow" "[I" ∈ lw_g := gg_ (i := 1921) (by decide +kernel) (by decide +kernel)
theorem t_1923 : Cond.fieldLink RX12 37 "TrialGardenModel$Program" "fFrom" "[I" ∈ lw_g := gg_ (i := 1923) (by decide +kernel) (by decide +kernel)
theorem t_1925 : Cond.fieldLink RX12 40 "TrialGardenModel$Program" "fInit" "[I" ∈ lw_g := gg_ (i := 1925) (by decide +kernel) (by decide +kernel)
theorem t_1927 : Cond.fieldLink RX12 43 "TrialGardenModel$Program" "kEx" "[I" ∈ lw_g := gg_ (i := 1927) (by decide +kernel) (by decide +kernel)
theorem t_1929 : Cond.fieldLink RX12 46 "TrialGardenModel$Program" "kAt" "[I" ∈ lw_g := gg_ (i := 1929) (by decide +kernel) (by decide +kernel)
theorem t_1931 : Cond.fieldLink RX12 49 "TrialGardenModel$Program" "kMany" "[I" ∈ lw_g := gg_ (i := 1931) (by decide +kernel) (by decide +kernel)
theorem t_1933 : Cond.fieldLink RX12 52 "TrialGardenModel$Program" "has" "[I" ∈ lw_g := gg_ (i := 1933) (by decide +kernel) (by decide +kernel)
theorem t_1935 : Cond.fieldLink RX12 55 "TrialGardenModel$Program" "hMany" "[I" ∈ lw_g := gg_ (i := 1935) (by decide +kernel) (by decide +kernel)
theorem t_1937 : Cond.fieldLink RX12 58 "TrialGardenModel$Program" "mA" "[J" ∈ lw_g := gg_ (i := 1937) (by decide +kernel) (by decide +kernel)
theorem t_1939 : Cond.fieldLink RX12 61 "TrialGardenModel$Program" "mB" "[J" ∈ lw_g := gg_ (i := 1939) (by decide +kernel) (by decide +kernel)
theorem t_1941 : Cond.fieldLink RX12 64 "TrialGardenModel$Program" "mClass" "[I" ∈ lw_g := gg_ (i := 1941) (by decide +kernel) (by decide +kernel)
theorem t_1943 : Cond.fieldLink RX12 67 "TrialGardenModel$Program" "mParams" "[I" ∈ lw_g := gg_ (i := 1943) (by decide +kernel) (by decide +kernel)
theorem t_1945 : Cond.fieldLink RX12 70 "TrialGardenModel$Program" "mLow" "[I" ∈ lw_g := gg_ (i := 1945) (by decide +kernel) (by decide +kernel)
theorem t_1947 : Cond.fieldLink RX12 73 "TrialGardenModel$Program" "mHigh" "[I" ∈ lw_g := gg_ (i := 1947) (by decide +kernel) (by decide +kernel)
theorem t_1949 : Cond.fieldLink RX12 76 "TrialGardenModel$Program" "mMarks" "[I" ∈ lw_g := gg_ (i := 1949) (by decide +kernel) (by decide +kernel)
theorem t_1951 : Cond.fieldLink RX12 79 "TrialGardenModel$Program" "mBlock" "[I" ∈ lw_g := gg_ (i := 1951) (by decide +kernel) (by decide +kernel)
theorem t_1953 : Cond.fieldLink RX12 82 "TrialGardenModel$Program" "mStatements" "[I" ∈ lw_g := gg_ (i := 1953) (by decide +kernel) (by decide +kernel)
theorem t_1955 : Cond.fieldLink RX12 85 "TrialGardenModel$Program" "mAt" "[I" ∈ lw_g := gg_ (i := 1955) (by decide +kernel) (by decide +kernel)
theorem t_1957 : Cond.fieldLink RX12 88 "TrialGardenModel$Program" "mPure" "[Z" ∈ lw_g := gg_ (i := 1957) (by decide +kernel) (by decide +kernel)
theorem t_1960 : Cond.fieldLink RX12 92 "TrialGardenModel$Program" "aKind" "[I" ∈ lw_g := gg_ (i := 1960) (by decide +kernel) (by decide +kernel)
theorem t_1962 : Cond.fieldLink RX12 95 "TrialGardenModel$Program" "aEx" "[I" ∈ lw_g := gg_ (i := 1962) (by decide +kernel) (by decide +kernel)
theorem t_1964 : Cond.fieldLink RX12 98 "TrialGardenModel$Program" "aAt" "[I" ∈ lw_g := gg_ (i := 1964) (by decide +kernel) (by decide +kernel)
theorem t_1966 : Cond.fieldLink RX12 101 "TrialGardenModel$Program" "aMask" "[I" ∈ lw_g := gg_ (i := 1966) (by decide +kernel) (by decide +kernel)
theorem t_1968 : Cond.fieldLink RX12 104 "TrialGardenModel$Program" "aA" "[J" ∈ lw_g := gg_ (i := 1968) (by decide +kernel) (by decide +kernel)
theorem t_1970 : Cond.fieldLink RX12 107 "TrialGardenModel$Program" "aB" "[J" ∈ lw_g := gg_ (i := 1970) (by decide +kernel) (by decide +kernel)
theorem t_1972 : Cond.fieldLink RX12 110 "TrialGardenModel$Program" "sOp" "[I" ∈ lw_g := gg_ (i := 1972) (by decide +kernel) (by decide +kernel)
theorem t_1974 : Cond.fieldLink RX12 113 "TrialGardenModel$Program" "sVar" "[I" ∈ lw_g := gg_ (i := 1974) (by decide +kernel) (by decide +kernel)
theorem t_1976 : Cond.fieldLink RX12 116 "TrialGardenModel$Program" "sRef" "[I" ∈ lw_g := gg_ (i := 1976) (by decide +kernel) (by decide +kernel)
theorem t_1978 : Cond.fieldLink RX12 119 "TrialGardenModel$Program" "sIndex" "[I" ∈ lw_g := gg_ (i := 1978) (by decide +kernel) (by decide +kernel)
theorem t_1980 : Cond.fieldLink RX12 122 "TrialGardenModel$Program" "sEx" "[I" ∈ lw_g := gg_ (i := 1980) (by decide +kernel) (by decide +kernel)
theorem t_1982 : Cond.fieldLink RX12 125 "TrialGardenModel$Program" "sBlock" "[I" ∈ lw_g := gg_ (i := 1982) (by decide +kernel) (by decide +kernel)
theorem t_1984 : Cond.fieldLink RX12 128 "TrialGardenModel$Program" "sElse" "[I" ∈ lw_g := gg_ (i := 1984) (by decide +kernel) (by decide +kernel)
theorem t_1986 : Cond.fieldLink RX12 131 "TrialGardenModel$Program" "sNext" "[I" ∈ lw_g := gg_ (i := 1986) (by decide +kernel) (by decide +kernel)
theorem t_1988 : Cond.fieldLink RX12 134 "TrialGardenModel$Program" "sOf" "[I" ∈ lw_g := gg_ (i := 1988) (by decide +kernel) (by decide +kernel)
theorem t_1990 : Cond.fieldLink RX12 137 "TrialGardenModel$Program" "sA" "[J" ∈ lw_g := gg_ (i := 1990) (by decide +kernel) (by decide +kernel)
theorem t_1992 : Cond.fieldLink RX12 140 "TrialGardenModel$Program" "sB" "[J" ∈ lw_g := gg_ (i := 1992) (by decide +kernel) (by decide +kernel)
theorem t_1994 : Cond.fieldLink RX12 143 "TrialGardenModel$Program" "begun" "[Z" ∈ lw_g := gg_ (i := 1994) (by decide +kernel) (by decide +kernel)
theorem t_1997 : Cond.fieldLink RX12 146 "TrialGardenModel$Program" "nOp" "[I" ∈ lw_g := gg_ (i := 1997) (by decide +kernel) (by decide +kernel)
theorem t_1999 : Cond.fieldLink RX12 149 "TrialGardenModel$Program" "nX" "[I" ∈ lw_g := gg_ (i := 1999) (by decide +kernel) (by decide +kernel)
theorem t_2001 : Cond.fieldLink RX12 152 "TrialGardenModel$Program" "nY" "[I" ∈ lw_g := gg_ (i := 2001) (by decide +kernel) (by decide +kernel)
theorem t_2003 : Cond.fieldLink RX12 155 "TrialGardenModel$Program" "nVar" "[I" ∈ lw_g := gg_ (i := 2003) (by decide +kernel) (by decide +kernel)
theorem t_2005 : Cond.fieldLink RX12 158 "TrialGardenModel$Program" "nHigh" "[I" ∈ lw_g := gg_ (i := 2005) (by decide +kernel) (by decide +kernel)
theorem t_2007 : Cond.fieldLink RX12 161 "TrialGardenModel$Program" "nMany" "[I" ∈ lw_g := gg_ (i := 2007) (by decide +kernel) (by decide +kernel)
theorem t_2009 : Cond.fieldLink RX12 164 "TrialGardenModel$Program" "nArgs" "[I" ∈ lw_g := gg_ (i := 2009) (by decide +kernel) (by decide +kernel)
theorem t_2011 : Cond.fieldLink RX12 167 "TrialGardenModel$Program" "nOf" "[I" ∈ lw_g := gg_ (i := 2011) (by decide +kernel) (by decide +kernel)
theorem t_2013 : Cond.fieldLink RX12 170 "TrialGardenModel$Program" "nA" "[J" ∈ lw_g := gg_ (i := 2013) (by decide +kernel) (by decide +kernel)
theorem t_2015 : Cond.fieldLink RX12 173 "TrialGardenModel$Program" "nB" "[J" ∈ lw_g := gg_ (i := 2015) (by decide +kernel) (by decide +kernel)
theorem t_2019 : Cond.fieldLink RX12 176 "TrialGardenModel$Program" "model" "[I" ∈ lw_g := gg_ (i := 2019) (by decide +kernel) (by decide +kernel)
theorem t_2142 : Cond.methodLink RX14 96 yX14_nothingTold ∈ lw_g := gg_ (i := 2142) (by decide +kernel) (by decide +kernel)
theorem t_2144 : Cond.instanceMethod yX14_nothingTold ∈ lw_g := gg_ (i := 2144) (by decide +kernel) (by decide +kernel)
theorem t_2145 : Cond.code yX14_nothingTold cX14_nothingTold 2 none ∈ lw_g := gg_ (i := 2145) (by decide +kernel) (by decide +kernel)
theorem t_2146 : Cond.fieldLink RX14 10 "TrialGardenModel" "stop" "LTrialGardenModel$Stop;" ∈ lw_g := gg_ (i := 2146) (by decide +kernel) (by decide +kernel)
theorem t_2147 : Cond.fieldLink RX14 19 "TrialGardenModel" "now" "LTrialGardenModel$Program;" ∈ lw_g := gg_ (i := 2147) (by decide +kernel) (by decide +kernel)
theorem t_2148 : Cond.fieldLink RX14 23 "TrialGardenModel" "p" "LTrialGardenModel$Program;" ∈ lw_g := gg_ (i := 2148) (by decide +kernel) (by decide +kernel)
theorem t_2149 : Cond.fieldLink RX14 26 "TrialGardenModel" "tape" "[B" ∈ lw_g := gg_ (i := 2149) (by decide +kernel) (by decide +kernel)
theorem t_2161 : Cond.fieldLink RX14 30 "TrialGardenModel" "faultPlace" "I" ∈ lw_g := gg_ (i := 2161) (by decide +kernel) (by decide +kernel)
theorem t_2164 : Cond.fieldLink RX14 34 "TrialGardenModel" "lA" "[J" ∈ lw_g := gg_ (i := 2164) (by decide +kernel) (by decide +kernel)
theorem t_2165 : Cond.fieldLink RX14 38 "TrialGardenModel" "lB" "[J" ∈ lw_g := gg_ (i := 2165) (by decide +kernel) (by decide +kernel)
theorem t_2173 : Cond.fieldLink RX14 41 "TrialGardenModel" "oClass" "[I" ∈ lw_g := gg_ (i := 2173) (by decide +kernel) (by decide +kernel)
theorem t_2174 : Cond.fieldLink RX14 45 "TrialGardenModel" "cells" "[I" ∈ lw_g := gg_ (i := 2174) (by decide +kernel) (by decide +kernel)
theorem t_2175 : Cond.fieldLink RX14 48 "TrialGardenModel" "before" "[I" ∈ lw_g := gg_ (i := 2175) (by decide +kernel) (by decide +kernel)
theorem t_2187 : Cond.fieldLink RX14 51 "TrialGardenModel" "args" "[I" ∈ lw_g := gg_ (i := 2187) (by decide +kernel) (by decide +kernel)
theorem t_2188 : Cond.fieldLink RX14 54 "TrialGardenModel" "slots" "[I" ∈ lw_g := gg_ (i := 2188) (by decide +kernel) (by decide +kernel)
theorem t_2189 : Cond.fieldLink RX14 57 "TrialGardenModel" "self" "[I" ∈ lw_g := gg_ (i := 2189) (by decide +kernel) (by decide +kernel)
theorem t_2190 : Cond.fieldLink RX14 60 "TrialGardenModel" "gives" "[I" ∈ lw_g := gg_ (i := 2190) (by decide +kernel) (by decide +kernel)
theorem t_2192 : Cond.fieldLink RX14 63 "TrialGardenModel" "rObject" "[I" ∈ lw_g := gg_ (i := 2192) (by decide +kernel) (by decide +kernel)
theorem t_2193 : Cond.fieldLink RX14 66 "TrialGardenModel" "rMember" "[I" ∈ lw_g := gg_ (i := 2193) (by decide +kernel) (by decide +kernel)
theorem t_2194 : Cond.fieldLink RX14 69 "TrialGardenModel" "rArgs" "[I" ∈ lw_g := gg_ (i := 2194) (by decide +kernel) (by decide +kernel)
theorem t_2195 : Cond.fieldLink RX14 72 "TrialGardenModel" "rGave" "[I" ∈ lw_g := gg_ (i := 2195) (by decide +kernel) (by decide +kernel)
theorem t_2196 : Cond.fieldLink RX14 75 "TrialGardenModel" "rDone" "[I" ∈ lw_g := gg_ (i := 2196) (by decide +kernel) (by decide +kernel)
theorem t_2200 : Cond.fieldLink RX14 78 "TrialGardenModel" "rowClass" "[I" ∈ lw_g := gg_ (i := 2200) (by decide +kernel) (by decide +kernel)
theorem t_2202 : Cond.fieldLink RX14 81 "TrialGardenModel" "condition" "[I" ∈ lw_g := gg_ (i := 2202) (by decide +kernel) (by decide +kernel)
theorem t_2203 : Cond.fieldLink RX14 84 "TrialGardenModel" "changed" "[I" ∈ lw_g := gg_ (i := 2203) (by decide +kernel) (by decide +kernel)
theorem t_2208 : Cond.fieldLink RX14 87 "TrialGardenModel" "tObject" "[I" ∈ lw_g := gg_ (i := 2208) (by decide +kernel) (by decide +kernel)
theorem t_2209 : Cond.fieldLink RX14 90 "TrialGardenModel" "tMember" "[I" ∈ lw_g := gg_ (i := 2209) (by decide +kernel) (by decide +kernel)
theorem t_2210 : Cond.fieldLink RX14 93 "TrialGardenModel" "tArgs" "[I" ∈ lw_g := gg_ (i := 2210) (by decide +kernel) (by decide +kernel)
theorem dX12_init_0 : decode cX12_init 0 = .ok (.aload_n 0, 1) := by decide +kernel
theorem dX12_init_1 : decode cX12_init 1 = .ok (.invokespecial 3, 3) := by decide +kernel
theorem dX12_init_4 : decode cX12_init 4 = .ok (.aload_n 0, 1) := by decide +kernel
theorem dX12_init_5 : decode cX12_init 5 = .ok (.bipush 9, 2) := by decide +kernel
theorem dX12_init_7 : decode cX12_init 7 = .ok (.newarray .long, 2) := by decide +kernel
theorem dX12_init_9 : decode cX12_init 9 = .ok (.putfield 9, 3) := by decide +kernel
theorem dX12_init_12 : decode cX12_init 12 = .ok (.aload_n 0, 1) := by decide +kernel
theorem dX12_init_13 : decode cX12_init 13 = .ok (.bipush 9, 2) := by decide +kernel
theorem dX12_init_15 : decode cX12_init 15 = .ok (.newarray .long, 2) := by decide +kernel
theorem dX12_init_17 : decode cX12_init 17 = .ok (.putfield 15, 3) := by decide +kernel
theorem dX12_init_20 : decode cX12_init 20 = .ok (.aload_n 0, 1) := by decide +kernel
theorem dX12_init_21 : decode cX12_init 21 = .ok (.bipush 9, 2) := by decide +kernel
theorem dX12_init_23 : decode cX12_init 23 = .ok (.newarray .int, 2) := by decide +kernel
theorem dX12_init_25 : decode cX12_init 25 = .ok (.putfield 18, 3) := by decide +kernel
theorem dX12_init_28 : decode cX12_init 28 = .ok (.aload_n 0, 1) := by decide +kernel
theorem dX12_init_29 : decode cX12_init 29 = .ok (.bipush 9, 2) := by decide +kernel
theorem dX12_init_31 : decode cX12_init 31 = .ok (.newarray .int, 2) := by decide +kernel
theorem dX12_init_33 : decode cX12_init 33 = .ok (.putfield 22, 3) := by decide +kernel
theorem dX12_init_36 : decode cX12_init 36 = .ok (.aload_n 0, 1) := by decide +kernel
theorem dX12_init_37 : decode cX12_init 37 = .ok (.bipush 9, 2) := by decide +kernel
theorem dX12_init_39 : decode cX12_init 39 = .ok (.newarray .int, 2) := by decide +kernel
theorem dX12_init_41 : decode cX12_init 41 = .ok (.putfield 25, 3) := by decide +kernel
theorem dX12_init_44 : decode cX12_init 44 = .ok (.aload_n 0, 1) := by decide +kernel
theorem dX12_init_45 : decode cX12_init 45 = .ok (.bipush 100, 2) := by decide +kernel
theorem dX12_init_47 : decode cX12_init 47 = .ok (.newarray .long, 2) := by decide +kernel
theorem dX12_init_49 : decode cX12_init 49 = .ok (.putfield 28, 3) := by decide +kernel
theorem dX12_init_52 : decode cX12_init 52 = .ok (.aload_n 0, 1) := by decide +kernel
theorem dX12_init_53 : decode cX12_init 53 = .ok (.bipush 100, 2) := by decide +kernel
theorem dX12_init_55 : decode cX12_init 55 = .ok (.newarray .long, 2) := by decide +kernel
theorem dX12_init_57 : decode cX12_init 57 = .ok (.putfield 31, 3) := by decide +kernel
theorem dX12_init_60 : decode cX12_init 60 = .ok (.aload_n 0, 1) := by decide +kernel
theorem dX12_init_61 : decode cX12_init 61 = .ok (.bipush 100, 2) := by decide +kernel
theorem dX12_init_63 : decode cX12_init 63 = .ok (.newarray .int, 2) := by decide +kernel
theorem dX12_init_65 : decode cX12_init 65 = .ok (.putfield 34, 3) := by decide +kernel
theorem dX12_init_68 : decode cX12_init 68 = .ok (.aload_n 0, 1) := by decide +kernel
theorem dX12_init_69 : decode cX12_init 69 = .ok (.bipush 100, 2) := by decide +kernel
theorem dX12_init_71 : decode cX12_init 71 = .ok (.newarray .int, 2) := by decide +kernel
theorem dX12_init_73 : decode cX12_init 73 = .ok (.putfield 37, 3) := by decide +kernel
theorem dX12_init_76 : decode cX12_init 76 = .ok (.aload_n 0, 1) := by decide +kernel
theorem dX12_init_77 : decode cX12_init 77 = .ok (.bipush 100, 2) := by decide +kernel
theorem dX12_init_79 : decode cX12_init 79 = .ok (.newarray .int, 2) := by decide +kernel
theorem dX12_init_81 : decode cX12_init 81 = .ok (.putfield 40, 3) := by decide +kernel
theorem dX12_init_84 : decode cX12_init 84 = .ok (.aload_n 0, 1) := by decide +kernel
theorem dX12_init_85 : decode cX12_init 85 = .ok (.bipush 72, 2) := by decide +kernel
theorem dX12_init_87 : decode cX12_init 87 = .ok (.newarray .int, 2) := by decide +kernel
theorem dX12_init_89 : decode cX12_init 89 = .ok (.putfield 43, 3) := by decide +kernel
theorem dX12_init_92 : decode cX12_init 92 = .ok (.aload_n 0, 1) := by decide +kernel
theorem dX12_init_93 : decode cX12_init 93 = .ok (.bipush 72, 2) := by decide +kernel
theorem dX12_init_95 : decode cX12_init 95 = .ok (.newarray .int, 2) := by decide +kernel
theorem dX12_init_97 : decode cX12_init 97 = .ok (.putfield 46, 3) := by decide +kernel
theorem dX12_init_100 : decode cX12_init 100 = .ok (.aload_n 0, 1) := by decide +kernel
theorem dX12_init_101 : decode cX12_init 101 = .ok (.bipush 9, 2) := by decide +kernel
theorem dX12_init_103 : decode cX12_init 103 = .ok (.newarray .int, 2) := by decide +kernel
theorem dX12_init_105 : decode cX12_init 105 = .ok (.putfield 49, 3) := by decide +kernel
theorem dX12_init_108 : decode cX12_init 108 = .ok (.aload_n 0, 1) := by decide +kernel
theorem dX12_init_109 : decode cX12_init 109 = .ok (.bipush 120, 2) := by decide +kernel
theorem dX12_init_111 : decode cX12_init 111 = .ok (.newarray .int, 2) := by decide +kernel
theorem dX12_init_113 : decode cX12_init 113 = .ok (.putfield 52, 3) := by decide +kernel
theorem dX12_init_116 : decode cX12_init 116 = .ok (.aload_n 0, 1) := by decide +kernel
theorem dX12_init_117 : decode cX12_init 117 = .ok (.bipush 9, 2) := by decide +kernel
theorem dX12_init_119 : decode cX12_init 119 = .ok (.newarray .int, 2) := by decide +kernel
theorem dX12_init_121 : decode cX12_init 121 = .ok (.putfield 55, 3) := by decide +kernel
theorem dX12_init_124 : decode cX12_init 124 = .ok (.aload_n 0, 1) := by decide +kernel
theorem dX12_init_125 : decode cX12_init 125 = .ok (.bipush 110, 2) := by decide +kernel
theorem dX12_init_127 : decode cX12_init 127 = .ok (.newarray .long, 2) := by decide +kernel
theorem dX12_init_129 : decode cX12_init 129 = .ok (.putfield 58, 3) := by decide +kernel
theorem dX12_init_132 : decode cX12_init 132 = .ok (.aload_n 0, 1) := by decide +kernel
theorem dX12_init_133 : decode cX12_init 133 = .ok (.bipush 110, 2) := by decide +kernel
theorem dX12_init_135 : decode cX12_init 135 = .ok (.newarray .long, 2) := by decide +kernel
theorem dX12_init_137 : decode cX12_init 137 = .ok (.putfield 61, 3) := by decide +kernel
theorem dX12_init_140 : decode cX12_init 140 = .ok (.aload_n 0, 1) := by decide +kernel
theorem dX12_init_141 : decode cX12_init 141 = .ok (.bipush 110, 2) := by decide +kernel
theorem dX12_init_143 : decode cX12_init 143 = .ok (.newarray .int, 2) := by decide +kernel
theorem dX12_init_145 : decode cX12_init 145 = .ok (.putfield 64, 3) := by decide +kernel
theorem dX12_init_148 : decode cX12_init 148 = .ok (.aload_n 0, 1) := by decide +kernel
theorem dX12_init_149 : decode cX12_init 149 = .ok (.bipush 110, 2) := by decide +kernel
theorem dX12_init_151 : decode cX12_init 151 = .ok (.newarray .int, 2) := by decide +kernel
theorem dX12_init_153 : decode cX12_init 153 = .ok (.putfield 67, 3) := by decide +kernel
theorem dX12_init_156 : decode cX12_init 156 = .ok (.aload_n 0, 1) := by decide +kernel
theorem dX12_init_157 : decode cX12_init 157 = .ok (.sipush 330, 3) := by decide +kernel
theorem dX12_init_160 : decode cX12_init 160 = .ok (.newarray .int, 2) := by decide +kernel
theorem dX12_init_162 : decode cX12_init 162 = .ok (.putfield 70, 3) := by decide +kernel
theorem dX12_init_165 : decode cX12_init 165 = .ok (.aload_n 0, 1) := by decide +kernel
theorem dX12_init_166 : decode cX12_init 166 = .ok (.sipush 330, 3) := by decide +kernel
theorem dX12_init_169 : decode cX12_init 169 = .ok (.newarray .int, 2) := by decide +kernel
theorem dX12_init_171 : decode cX12_init 171 = .ok (.putfield 73, 3) := by decide +kernel
theorem dX12_init_174 : decode cX12_init 174 = .ok (.aload_n 0, 1) := by decide +kernel
theorem dX12_init_175 : decode cX12_init 175 = .ok (.bipush 110, 2) := by decide +kernel
theorem dX12_init_177 : decode cX12_init 177 = .ok (.newarray .int, 2) := by decide +kernel
theorem dX12_init_179 : decode cX12_init 179 = .ok (.putfield 76, 3) := by decide +kernel
theorem dX12_init_182 : decode cX12_init 182 = .ok (.aload_n 0, 1) := by decide +kernel
theorem dX12_init_183 : decode cX12_init 183 = .ok (.bipush 110, 2) := by decide +kernel
theorem dX12_init_185 : decode cX12_init 185 = .ok (.newarray .int, 2) := by decide +kernel
theorem dX12_init_187 : decode cX12_init 187 = .ok (.putfield 79, 3) := by decide +kernel
theorem dX12_init_190 : decode cX12_init 190 = .ok (.aload_n 0, 1) := by decide +kernel
theorem dX12_init_191 : decode cX12_init 191 = .ok (.bipush 110, 2) := by decide +kernel
theorem dX12_init_193 : decode cX12_init 193 = .ok (.newarray .int, 2) := by decide +kernel
theorem dX12_init_195 : decode cX12_init 195 = .ok (.putfield 82, 3) := by decide +kernel
theorem dX12_init_198 : decode cX12_init 198 = .ok (.aload_n 0, 1) := by decide +kernel
theorem dX12_init_199 : decode cX12_init 199 = .ok (.bipush 110, 2) := by decide +kernel
theorem dX12_init_201 : decode cX12_init 201 = .ok (.newarray .int, 2) := by decide +kernel
theorem dX12_init_203 : decode cX12_init 203 = .ok (.putfield 85, 3) := by decide +kernel
theorem dX12_init_206 : decode cX12_init 206 = .ok (.aload_n 0, 1) := by decide +kernel
theorem dX12_init_207 : decode cX12_init 207 = .ok (.bipush 110, 2) := by decide +kernel
theorem dX12_init_209 : decode cX12_init 209 = .ok (.newarray .boolean, 2) := by decide +kernel
theorem dX12_init_211 : decode cX12_init 211 = .ok (.putfield 88, 3) := by decide +kernel
theorem dX12_init_214 : decode cX12_init 214 = .ok (.aload_n 0, 1) := by decide +kernel
theorem dX12_init_215 : decode cX12_init 215 = .ok (.sipush 880, 3) := by decide +kernel
theorem dX12_init_218 : decode cX12_init 218 = .ok (.newarray .int, 2) := by decide +kernel
theorem dX12_init_220 : decode cX12_init 220 = .ok (.putfield 92, 3) := by decide +kernel
theorem dX12_init_223 : decode cX12_init 223 = .ok (.aload_n 0, 1) := by decide +kernel
theorem dX12_init_224 : decode cX12_init 224 = .ok (.sipush 880, 3) := by decide +kernel
theorem dX12_init_227 : decode cX12_init 227 = .ok (.newarray .int, 2) := by decide +kernel
theorem dX12_init_229 : decode cX12_init 229 = .ok (.putfield 95, 3) := by decide +kernel
theorem dX12_init_232 : decode cX12_init 232 = .ok (.aload_n 0, 1) := by decide +kernel
theorem dX12_init_233 : decode cX12_init 233 = .ok (.sipush 880, 3) := by decide +kernel
theorem dX12_init_236 : decode cX12_init 236 = .ok (.newarray .int, 2) := by decide +kernel
theorem dX12_init_238 : decode cX12_init 238 = .ok (.putfield 98, 3) := by decide +kernel
theorem dX12_init_241 : decode cX12_init 241 = .ok (.aload_n 0, 1) := by decide +kernel
theorem dX12_init_242 : decode cX12_init 242 = .ok (.sipush 880, 3) := by decide +kernel
theorem dX12_init_245 : decode cX12_init 245 = .ok (.newarray .int, 2) := by decide +kernel
theorem dX12_init_247 : decode cX12_init 247 = .ok (.putfield 101, 3) := by decide +kernel
theorem dX12_init_250 : decode cX12_init 250 = .ok (.aload_n 0, 1) := by decide +kernel
theorem dX12_init_251 : decode cX12_init 251 = .ok (.sipush 880, 3) := by decide +kernel
theorem dX12_init_254 : decode cX12_init 254 = .ok (.newarray .long, 2) := by decide +kernel
theorem dX12_init_256 : decode cX12_init 256 = .ok (.putfield 104, 3) := by decide +kernel
theorem dX12_init_259 : decode cX12_init 259 = .ok (.aload_n 0, 1) := by decide +kernel
theorem dX12_init_260 : decode cX12_init 260 = .ok (.sipush 880, 3) := by decide +kernel
theorem dX12_init_263 : decode cX12_init 263 = .ok (.newarray .long, 2) := by decide +kernel
theorem dX12_init_265 : decode cX12_init 265 = .ok (.putfield 107, 3) := by decide +kernel
theorem dX12_init_268 : decode cX12_init 268 = .ok (.aload_n 0, 1) := by decide +kernel
theorem dX12_init_269 : decode cX12_init 269 = .ok (.sipush 700, 3) := by decide +kernel
theorem dX12_init_272 : decode cX12_init 272 = .ok (.newarray .int, 2) := by decide +kernel
theorem dX12_init_274 : decode cX12_init 274 = .ok (.putfield 110, 3) := by decide +kernel
theorem dX12_init_277 : decode cX12_init 277 = .ok (.aload_n 0, 1) := by decide +kernel
theorem dX12_init_278 : decode cX12_init 278 = .ok (.sipush 700, 3) := by decide +kernel
theorem dX12_init_281 : decode cX12_init 281 = .ok (.newarray .int, 2) := by decide +kernel
theorem dX12_init_283 : decode cX12_init 283 = .ok (.putfield 113, 3) := by decide +kernel
theorem dX12_init_286 : decode cX12_init 286 = .ok (.aload_n 0, 1) := by decide +kernel
theorem dX12_init_287 : decode cX12_init 287 = .ok (.sipush 700, 3) := by decide +kernel
theorem dX12_init_290 : decode cX12_init 290 = .ok (.newarray .int, 2) := by decide +kernel
theorem dX12_init_292 : decode cX12_init 292 = .ok (.putfield 116, 3) := by decide +kernel
theorem dX12_init_295 : decode cX12_init 295 = .ok (.aload_n 0, 1) := by decide +kernel
theorem dX12_init_296 : decode cX12_init 296 = .ok (.sipush 700, 3) := by decide +kernel
theorem dX12_init_299 : decode cX12_init 299 = .ok (.newarray .int, 2) := by decide +kernel
theorem dX12_init_301 : decode cX12_init 301 = .ok (.putfield 119, 3) := by decide +kernel
theorem dX12_init_304 : decode cX12_init 304 = .ok (.aload_n 0, 1) := by decide +kernel
theorem dX12_init_305 : decode cX12_init 305 = .ok (.sipush 700, 3) := by decide +kernel
theorem dX12_init_308 : decode cX12_init 308 = .ok (.newarray .int, 2) := by decide +kernel
theorem dX12_init_310 : decode cX12_init 310 = .ok (.putfield 122, 3) := by decide +kernel
theorem dX12_init_313 : decode cX12_init 313 = .ok (.aload_n 0, 1) := by decide +kernel
theorem dX12_init_314 : decode cX12_init 314 = .ok (.sipush 700, 3) := by decide +kernel
theorem dX12_init_317 : decode cX12_init 317 = .ok (.newarray .int, 2) := by decide +kernel
theorem dX12_init_319 : decode cX12_init 319 = .ok (.putfield 125, 3) := by decide +kernel
theorem dX12_init_322 : decode cX12_init 322 = .ok (.aload_n 0, 1) := by decide +kernel
theorem dX12_init_323 : decode cX12_init 323 = .ok (.sipush 700, 3) := by decide +kernel
theorem dX12_init_326 : decode cX12_init 326 = .ok (.newarray .int, 2) := by decide +kernel
theorem dX12_init_328 : decode cX12_init 328 = .ok (.putfield 128, 3) := by decide +kernel
theorem dX12_init_331 : decode cX12_init 331 = .ok (.aload_n 0, 1) := by decide +kernel
theorem dX12_init_332 : decode cX12_init 332 = .ok (.sipush 700, 3) := by decide +kernel
theorem dX12_init_335 : decode cX12_init 335 = .ok (.newarray .int, 2) := by decide +kernel
theorem dX12_init_337 : decode cX12_init 337 = .ok (.putfield 131, 3) := by decide +kernel
theorem dX12_init_340 : decode cX12_init 340 = .ok (.aload_n 0, 1) := by decide +kernel
theorem dX12_init_341 : decode cX12_init 341 = .ok (.sipush 700, 3) := by decide +kernel
theorem dX12_init_344 : decode cX12_init 344 = .ok (.newarray .int, 2) := by decide +kernel
theorem dX12_init_346 : decode cX12_init 346 = .ok (.putfield 134, 3) := by decide +kernel
theorem dX12_init_349 : decode cX12_init 349 = .ok (.aload_n 0, 1) := by decide +kernel
theorem dX12_init_350 : decode cX12_init 350 = .ok (.sipush 700, 3) := by decide +kernel
theorem dX12_init_353 : decode cX12_init 353 = .ok (.newarray .long, 2) := by decide +kernel
theorem dX12_init_355 : decode cX12_init 355 = .ok (.putfield 137, 3) := by decide +kernel
theorem dX12_init_358 : decode cX12_init 358 = .ok (.aload_n 0, 1) := by decide +kernel
theorem dX12_init_359 : decode cX12_init 359 = .ok (.sipush 700, 3) := by decide +kernel
theorem dX12_init_362 : decode cX12_init 362 = .ok (.newarray .long, 2) := by decide +kernel
theorem dX12_init_364 : decode cX12_init 364 = .ok (.putfield 140, 3) := by decide +kernel
theorem dX12_init_367 : decode cX12_init 367 = .ok (.aload_n 0, 1) := by decide +kernel
theorem dX12_init_368 : decode cX12_init 368 = .ok (.sipush 700, 3) := by decide +kernel
theorem dX12_init_371 : decode cX12_init 371 = .ok (.newarray .boolean, 2) := by decide +kernel
theorem dX12_init_373 : decode cX12_init 373 = .ok (.putfield 143, 3) := by decide +kernel
theorem dX12_init_376 : decode cX12_init 376 = .ok (.aload_n 0, 1) := by decide +kernel
theorem dX12_init_377 : decode cX12_init 377 = .ok (.sipush 2500, 3) := by decide +kernel
theorem dX12_init_380 : decode cX12_init 380 = .ok (.newarray .int, 2) := by decide +kernel
theorem dX12_init_382 : decode cX12_init 382 = .ok (.putfield 146, 3) := by decide +kernel
theorem dX12_init_385 : decode cX12_init 385 = .ok (.aload_n 0, 1) := by decide +kernel
theorem dX12_init_386 : decode cX12_init 386 = .ok (.sipush 2500, 3) := by decide +kernel
theorem dX12_init_389 : decode cX12_init 389 = .ok (.newarray .int, 2) := by decide +kernel
theorem dX12_init_391 : decode cX12_init 391 = .ok (.putfield 149, 3) := by decide +kernel
theorem dX12_init_394 : decode cX12_init 394 = .ok (.aload_n 0, 1) := by decide +kernel
theorem dX12_init_395 : decode cX12_init 395 = .ok (.sipush 2500, 3) := by decide +kernel
theorem dX12_init_398 : decode cX12_init 398 = .ok (.newarray .int, 2) := by decide +kernel
theorem dX12_init_400 : decode cX12_init 400 = .ok (.putfield 152, 3) := by decide +kernel
theorem dX12_init_403 : decode cX12_init 403 = .ok (.aload_n 0, 1) := by decide +kernel
theorem dX12_init_404 : decode cX12_init 404 = .ok (.sipush 2500, 3) := by decide +kernel
theorem dX12_init_407 : decode cX12_init 407 = .ok (.newarray .int, 2) := by decide +kernel
theorem dX12_init_409 : decode cX12_init 409 = .ok (.putfield 155, 3) := by decide +kernel
theorem dX12_init_412 : decode cX12_init 412 = .ok (.aload_n 0, 1) := by decide +kernel
theorem dX12_init_413 : decode cX12_init 413 = .ok (.sipush 2500, 3) := by decide +kernel
theorem dX12_init_416 : decode cX12_init 416 = .ok (.newarray .int, 2) := by decide +kernel
theorem dX12_init_418 : decode cX12_init 418 = .ok (.putfield 158, 3) := by decide +kernel
theorem dX12_init_421 : decode cX12_init 421 = .ok (.aload_n 0, 1) := by decide +kernel
theorem dX12_init_422 : decode cX12_init 422 = .ok (.sipush 2500, 3) := by decide +kernel
theorem dX12_init_425 : decode cX12_init 425 = .ok (.newarray .int, 2) := by decide +kernel
theorem dX12_init_427 : decode cX12_init 427 = .ok (.putfield 161, 3) := by decide +kernel
theorem dX12_init_430 : decode cX12_init 430 = .ok (.aload_n 0, 1) := by decide +kernel
theorem dX12_init_431 : decode cX12_init 431 = .ok (.sipush 7500, 3) := by decide +kernel
theorem dX12_init_434 : decode cX12_init 434 = .ok (.newarray .int, 2) := by decide +kernel
theorem dX12_init_436 : decode cX12_init 436 = .ok (.putfield 164, 3) := by decide +kernel
theorem dX12_init_439 : decode cX12_init 439 = .ok (.aload_n 0, 1) := by decide +kernel
theorem dX12_init_440 : decode cX12_init 440 = .ok (.sipush 2500, 3) := by decide +kernel
theorem dX12_init_443 : decode cX12_init 443 = .ok (.newarray .int, 2) := by decide +kernel
theorem dX12_init_445 : decode cX12_init 445 = .ok (.putfield 167, 3) := by decide +kernel
theorem dX12_init_448 : decode cX12_init 448 = .ok (.aload_n 0, 1) := by decide +kernel
theorem dX12_init_449 : decode cX12_init 449 = .ok (.sipush 2500, 3) := by decide +kernel
theorem dX12_init_452 : decode cX12_init 452 = .ok (.newarray .long, 2) := by decide +kernel
theorem dX12_init_454 : decode cX12_init 454 = .ok (.putfield 170, 3) := by decide +kernel
theorem dX12_init_457 : decode cX12_init 457 = .ok (.aload_n 0, 1) := by decide +kernel
theorem dX12_init_458 : decode cX12_init 458 = .ok (.sipush 2500, 3) := by decide +kernel
theorem dX12_init_461 : decode cX12_init 461 = .ok (.newarray .long, 2) := by decide +kernel
theorem dX12_init_463 : decode cX12_init 463 = .ok (.putfield 173, 3) := by decide +kernel
theorem dX12_init_466 : decode cX12_init 466 = .ok (.aload_n 0, 1) := by decide +kernel
theorem dX12_init_467 : decode cX12_init 467 = .ok (.bipush 9, 2) := by decide +kernel
theorem dX12_init_469 : decode cX12_init 469 = .ok (.newarray .int, 2) := by decide +kernel
theorem dX12_init_471 : decode cX12_init 471 = .ok (.putfield 176, 3) := by decide +kernel
theorem dX12_init_474 : decode cX12_init 474 = .ok (.return_, 1) := by decide +kernel
theorem dX13_init_0 : decode cX13_init 0 = .ok (.aload_n 0, 1) := by decide +kernel
theorem dX13_init_1 : decode cX13_init 1 = .ok (.aconst_null, 1) := by decide +kernel
theorem dX13_init_2 : decode cX13_init 2 = .ok (.aconst_null, 1) := by decide +kernel
theorem dX13_init_3 : decode cX13_init 3 = .ok (.iconst 0, 1) := by decide +kernel
theorem dX13_init_4 : decode cX13_init 4 = .ok (.iconst 0, 1) := by decide +kernel
theorem dX13_init_5 : decode cX13_init 5 = .ok (.invokespecial 1, 3) := by decide +kernel
theorem dX13_init_8 : decode cX13_init 8 = .ok (.return_, 1) := by decide +kernel
theorem dX14_init_0 : decode cX14_init 0 = .ok (.aload_n 0, 1) := by decide +kernel
theorem dX14_init_1 : decode cX14_init 1 = .ok (.invokespecial 1, 3) := by decide +kernel
theorem dX14_init_4 : decode cX14_init 4 = .ok (.aload_n 0, 1) := by decide +kernel
theorem dX14_init_5 : decode cX14_init 5 = .ok (.new 7, 3) := by decide +kernel
theorem dX14_init_8 : decode cX14_init 8 = .ok (.dup, 1) := by decide +kernel
theorem dX14_init_9 : decode cX14_init 9 = .ok (.invokespecial 9, 3) := by decide +kernel
theorem dX14_init_12 : decode cX14_init 12 = .ok (.putfield 10, 3) := by decide +kernel
theorem dX14_init_15 : decode cX14_init 15 = .ok (.aload_n 0, 1) := by decide +kernel
theorem dX14_init_16 : decode cX14_init 16 = .ok (.new 16, 3) := by decide +kernel
theorem dX14_init_19 : decode cX14_init 19 = .ok (.dup, 1) := by decide +kernel
theorem dX14_init_20 : decode cX14_init 20 = .ok (.invokespecial 18, 3) := by decide +kernel
theorem dX14_init_23 : decode cX14_init 23 = .ok (.putfield 19, 3) := by decide +kernel
theorem dX14_init_26 : decode cX14_init 26 = .ok (.aload_n 0, 1) := by decide +kernel
theorem dX14_init_27 : decode cX14_init 27 = .ok (.new 16, 3) := by decide +kernel
theorem dX14_init_30 : decode cX14_init 30 = .ok (.dup, 1) := by decide +kernel
theorem dX14_init_31 : decode cX14_init 31 = .ok (.invokespecial 18, 3) := by decide +kernel
theorem dX14_init_34 : decode cX14_init 34 = .ok (.putfield 23, 3) := by decide +kernel
theorem dX14_init_37 : decode cX14_init 37 = .ok (.aload_n 0, 1) := by decide +kernel
theorem dX14_init_38 : decode cX14_init 38 = .ok (.sipush 4000, 3) := by decide +kernel
theorem dX14_init_41 : decode cX14_init 41 = .ok (.newarray .byte, 2) := by decide +kernel
theorem dX14_init_43 : decode cX14_init 43 = .ok (.putfield 26, 3) := by decide +kernel
theorem dX14_init_46 : decode cX14_init 46 = .ok (.aload_n 0, 1) := by decide +kernel
theorem dX14_init_47 : decode cX14_init 47 = .ok (.iconst (-1), 1) := by decide +kernel
theorem dX14_init_48 : decode cX14_init 48 = .ok (.putfield 30, 3) := by decide +kernel
theorem dX14_init_51 : decode cX14_init 51 = .ok (.aload_n 0, 1) := by decide +kernel
theorem dX14_init_52 : decode cX14_init 52 = .ok (.bipush 12, 2) := by decide +kernel
theorem dX14_init_54 : decode cX14_init 54 = .ok (.newarray .long, 2) := by decide +kernel
theorem dX14_init_56 : decode cX14_init 56 = .ok (.putfield 34, 3) := by decide +kernel
theorem dX14_init_59 : decode cX14_init 59 = .ok (.aload_n 0, 1) := by decide +kernel
theorem dX14_init_60 : decode cX14_init 60 = .ok (.bipush 12, 2) := by decide +kernel
theorem dX14_init_62 : decode cX14_init 62 = .ok (.newarray .long, 2) := by decide +kernel
theorem dX14_init_64 : decode cX14_init 64 = .ok (.putfield 38, 3) := by decide +kernel
theorem dX14_init_67 : decode cX14_init 67 = .ok (.aload_n 0, 1) := by decide +kernel
theorem dX14_init_68 : decode cX14_init 68 = .ok (.bipush 6, 2) := by decide +kernel
theorem dX14_init_70 : decode cX14_init 70 = .ok (.newarray .int, 2) := by decide +kernel
theorem dX14_init_72 : decode cX14_init 72 = .ok (.putfield 41, 3) := by decide +kernel
theorem dX14_init_75 : decode cX14_init 75 = .ok (.aload_n 0, 1) := by decide +kernel
theorem dX14_init_76 : decode cX14_init 76 = .ok (.sipush 144, 3) := by decide +kernel
theorem dX14_init_79 : decode cX14_init 79 = .ok (.newarray .int, 2) := by decide +kernel
theorem dX14_init_81 : decode cX14_init 81 = .ok (.putfield 45, 3) := by decide +kernel
theorem dX14_init_84 : decode cX14_init 84 = .ok (.aload_n 0, 1) := by decide +kernel
theorem dX14_init_85 : decode cX14_init 85 = .ok (.bipush 24, 2) := by decide +kernel
theorem dX14_init_87 : decode cX14_init 87 = .ok (.newarray .int, 2) := by decide +kernel
theorem dX14_init_89 : decode cX14_init 89 = .ok (.putfield 48, 3) := by decide +kernel
theorem dX14_init_92 : decode cX14_init 92 = .ok (.aload_n 0, 1) := by decide +kernel
theorem dX14_init_93 : decode cX14_init 93 = .ok (.bipush 66, 2) := by decide +kernel
theorem dX14_init_95 : decode cX14_init 95 = .ok (.newarray .int, 2) := by decide +kernel
theorem dX14_init_97 : decode cX14_init 97 = .ok (.putfield 51, 3) := by decide +kernel
theorem dX14_init_100 : decode cX14_init 100 = .ok (.aload_n 0, 1) := by decide +kernel
theorem dX14_init_101 : decode cX14_init 101 = .ok (.sipush 176, 3) := by decide +kernel
theorem dX14_init_104 : decode cX14_init 104 = .ok (.newarray .int, 2) := by decide +kernel
theorem dX14_init_106 : decode cX14_init 106 = .ok (.putfield 54, 3) := by decide +kernel
theorem dX14_init_109 : decode cX14_init 109 = .ok (.aload_n 0, 1) := by decide +kernel
theorem dX14_init_110 : decode cX14_init 110 = .ok (.bipush 22, 2) := by decide +kernel
theorem dX14_init_112 : decode cX14_init 112 = .ok (.newarray .int, 2) := by decide +kernel
theorem dX14_init_114 : decode cX14_init 114 = .ok (.putfield 57, 3) := by decide +kernel
theorem dX14_init_117 : decode cX14_init 117 = .ok (.aload_n 0, 1) := by decide +kernel
theorem dX14_init_118 : decode cX14_init 118 = .ok (.bipush 22, 2) := by decide +kernel
theorem dX14_init_120 : decode cX14_init 120 = .ok (.newarray .int, 2) := by decide +kernel
theorem dX14_init_122 : decode cX14_init 122 = .ok (.putfield 60, 3) := by decide +kernel
theorem dX14_init_125 : decode cX14_init 125 = .ok (.aload_n 0, 1) := by decide +kernel
theorem dX14_init_126 : decode cX14_init 126 = .ok (.bipush 10, 2) := by decide +kernel
theorem dX14_init_128 : decode cX14_init 128 = .ok (.newarray .int, 2) := by decide +kernel
theorem dX14_init_130 : decode cX14_init 130 = .ok (.putfield 63, 3) := by decide +kernel
theorem dX14_init_133 : decode cX14_init 133 = .ok (.aload_n 0, 1) := by decide +kernel
theorem dX14_init_134 : decode cX14_init 134 = .ok (.bipush 10, 2) := by decide +kernel
theorem dX14_init_136 : decode cX14_init 136 = .ok (.newarray .int, 2) := by decide +kernel
theorem dX14_init_138 : decode cX14_init 138 = .ok (.putfield 66, 3) := by decide +kernel
theorem dX14_init_141 : decode cX14_init 141 = .ok (.aload_n 0, 1) := by decide +kernel
theorem dX14_init_142 : decode cX14_init 142 = .ok (.bipush 30, 2) := by decide +kernel
theorem dX14_init_144 : decode cX14_init 144 = .ok (.newarray .int, 2) := by decide +kernel
theorem dX14_init_146 : decode cX14_init 146 = .ok (.putfield 69, 3) := by decide +kernel
theorem dX14_init_149 : decode cX14_init 149 = .ok (.aload_n 0, 1) := by decide +kernel
theorem dX14_init_150 : decode cX14_init 150 = .ok (.bipush 10, 2) := by decide +kernel
theorem dX14_init_152 : decode cX14_init 152 = .ok (.newarray .int, 2) := by decide +kernel
theorem dX14_init_154 : decode cX14_init 154 = .ok (.putfield 72, 3) := by decide +kernel
theorem dX14_init_157 : decode cX14_init 157 = .ok (.aload_n 0, 1) := by decide +kernel
theorem dX14_init_158 : decode cX14_init 158 = .ok (.bipush 10, 2) := by decide +kernel
theorem dX14_init_160 : decode cX14_init 160 = .ok (.newarray .int, 2) := by decide +kernel
theorem dX14_init_162 : decode cX14_init 162 = .ok (.putfield 75, 3) := by decide +kernel
theorem dX14_init_165 : decode cX14_init 165 = .ok (.aload_n 0, 1) := by decide +kernel
theorem dX14_init_166 : decode cX14_init 166 = .ok (.iconst 3, 1) := by decide +kernel
theorem dX14_init_167 : decode cX14_init 167 = .ok (.newarray .int, 2) := by decide +kernel
theorem dX14_init_169 : decode cX14_init 169 = .ok (.putfield 78, 3) := by decide +kernel
theorem dX14_init_172 : decode cX14_init 172 = .ok (.aload_n 0, 1) := by decide +kernel
theorem dX14_init_173 : decode cX14_init 173 = .ok (.iconst 4, 1) := by decide +kernel
theorem dX14_init_174 : decode cX14_init 174 = .ok (.newarray .int, 2) := by decide +kernel
theorem dX14_init_176 : decode cX14_init 176 = .ok (.putfield 81, 3) := by decide +kernel
theorem dX14_init_179 : decode cX14_init 179 = .ok (.aload_n 0, 1) := by decide +kernel
theorem dX14_init_180 : decode cX14_init 180 = .ok (.iconst 2, 1) := by decide +kernel
theorem dX14_init_181 : decode cX14_init 181 = .ok (.newarray .int, 2) := by decide +kernel
theorem dX14_init_183 : decode cX14_init 183 = .ok (.putfield 84, 3) := by decide +kernel
theorem dX14_init_186 : decode cX14_init 186 = .ok (.aload_n 0, 1) := by decide +kernel
theorem dX14_init_187 : decode cX14_init 187 = .ok (.bipush 10, 2) := by decide +kernel
theorem dX14_init_189 : decode cX14_init 189 = .ok (.newarray .int, 2) := by decide +kernel
theorem dX14_init_191 : decode cX14_init 191 = .ok (.putfield 87, 3) := by decide +kernel
theorem dX14_init_194 : decode cX14_init 194 = .ok (.aload_n 0, 1) := by decide +kernel
theorem dX14_init_195 : decode cX14_init 195 = .ok (.bipush 10, 2) := by decide +kernel
theorem dX14_init_197 : decode cX14_init 197 = .ok (.newarray .int, 2) := by decide +kernel
theorem dX14_init_199 : decode cX14_init 199 = .ok (.putfield 90, 3) := by decide +kernel
theorem dX14_init_202 : decode cX14_init 202 = .ok (.aload_n 0, 1) := by decide +kernel
theorem dX14_init_203 : decode cX14_init 203 = .ok (.bipush 30, 2) := by decide +kernel
theorem dX14_init_205 : decode cX14_init 205 = .ok (.newarray .int, 2) := by decide +kernel
theorem dX14_init_207 : decode cX14_init 207 = .ok (.putfield 93, 3) := by decide +kernel
theorem dX14_init_210 : decode cX14_init 210 = .ok (.aload_n 0, 1) := by decide +kernel
theorem dX14_init_211 : decode cX14_init 211 = .ok (.invokevirtual 96, 3) := by decide +kernel
theorem dX14_init_214 : decode cX14_init 214 = .ok (.return_, 1) := by decide +kernel
theorem dX14_nothingTold_0 : decode cX14_nothingTold 0 = .ok (.iconst 0, 1) := by decide +kernel
theorem dX14_nothingTold_1 : decode cX14_nothingTold 1 = .ok (.istore_n 1, 1) := by decide +kernel
theorem dX14_nothingTold_2 : decode cX14_nothingTold 2 = .ok (.iload_n 1, 1) := by decide +kernel
theorem dX14_nothingTold_3 : decode cX14_nothingTold 3 = .ok (.iconst 4, 1) := by decide +kernel
theorem dX14_nothingTold_4 : decode cX14_nothingTold 4 = .ok (.if_icmp .ge 16, 3) := by decide +kernel
theorem dX14_nothingTold_7 : decode cX14_nothingTold 7 = .ok (.aload_n 0, 1) := by decide +kernel
theorem dX14_nothingTold_8 : decode cX14_nothingTold 8 = .ok (.getfield 81, 3) := by decide +kernel
theorem dX14_nothingTold_11 : decode cX14_nothingTold 11 = .ok (.iload_n 1, 1) := by decide +kernel
theorem dX14_nothingTold_12 : decode cX14_nothingTold 12 = .ok (.iconst (-1), 1) := by decide +kernel
theorem dX14_nothingTold_13 : decode cX14_nothingTold 13 = .ok (.iastore, 1) := by decide +kernel
theorem dX14_nothingTold_14 : decode cX14_nothingTold 14 = .ok (.iinc 1 1, 3) := by decide +kernel
theorem dX14_nothingTold_17 : decode cX14_nothingTold 17 = .ok (.goto (-15), 3) := by decide +kernel
theorem dX14_nothingTold_20 : decode cX14_nothingTold 20 = .ok (.aload_n 0, 1) := by decide +kernel
theorem dX14_nothingTold_21 : decode cX14_nothingTold 21 = .ok (.getfield 84, 3) := by decide +kernel
theorem dX14_nothingTold_24 : decode cX14_nothingTold 24 = .ok (.iconst 0, 1) := by decide +kernel
theorem dX14_nothingTold_25 : decode cX14_nothingTold 25 = .ok (.iconst (-1), 1) := by decide +kernel
theorem dX14_nothingTold_26 : decode cX14_nothingTold 26 = .ok (.iastore, 1) := by decide +kernel
theorem dX14_nothingTold_27 : decode cX14_nothingTold 27 = .ok (.aload_n 0, 1) := by decide +kernel
theorem dX14_nothingTold_28 : decode cX14_nothingTold 28 = .ok (.getfield 84, 3) := by decide +kernel
theorem dX14_nothingTold_31 : decode cX14_nothingTold 31 = .ok (.iconst 1, 1) := by decide +kernel
theorem dX14_nothingTold_32 : decode cX14_nothingTold 32 = .ok (.iconst (-1), 1) := by decide +kernel
theorem dX14_nothingTold_33 : decode cX14_nothingTold 33 = .ok (.iastore, 1) := by decide +kernel
theorem dX14_nothingTold_34 : decode cX14_nothingTold 34 = .ok (.return_, 1) := by decide +kernel
theorem dJ20_init_0 : decode cJ20_init 0 = .ok (.aload_n 0, 1) := by decide +kernel
theorem dJ20_init_1 : decode cJ20_init 1 = .ok (.aload_n 1, 1) := by decide +kernel
theorem dJ20_init_2 : decode cJ20_init 2 = .ok (.aload_n 2, 1) := by decide +kernel
theorem dJ20_init_3 : decode cJ20_init 3 = .ok (.iload_n 3, 1) := by decide +kernel
theorem dJ20_init_4 : decode cJ20_init 4 = .ok (.iload 4, 2) := by decide +kernel
theorem dJ20_init_6 : decode cJ20_init 6 = .ok (.invokespecial 16, 3) := by decide +kernel
theorem dJ20_init_9 : decode cJ20_init 9 = .ok (.return_, 1) := by decide +kernel
theorem dJ18_init_0 : decode cJ18_init 0 = .ok (.aload_n 0, 1) := by decide +kernel
theorem dJ18_init_1 : decode cJ18_init 1 = .ok (.aload_n 1, 1) := by decide +kernel
theorem dJ18_init_2 : decode cJ18_init 2 = .ok (.aload_n 2, 1) := by decide +kernel
theorem dJ18_init_3 : decode cJ18_init 3 = .ok (.iload_n 3, 1) := by decide +kernel
theorem dJ18_init_4 : decode cJ18_init 4 = .ok (.iload 4, 2) := by decide +kernel
theorem dJ18_init_6 : decode cJ18_init 6 = .ok (.invokespecial 16, 3) := by decide +kernel
theorem dJ18_init_9 : decode cJ18_init 9 = .ok (.return_, 1) := by decide +kernel
theorem dJ25_init_0 : decode cJ25_init 0 = .ok (.aload_n 0, 1) := by decide +kernel
theorem dJ25_init_1 : decode cJ25_init 1 = .ok (.invokespecial 1, 3) := by decide +kernel
theorem dJ25_init_4 : decode cJ25_init 4 = .ok (.aload_n 0, 1) := by decide +kernel
theorem dJ25_init_5 : decode cJ25_init 5 = .ok (.aload_n 0, 1) := by decide +kernel
theorem dJ25_init_6 : decode cJ25_init 6 = .ok (.putfield 7, 3) := by decide +kernel
theorem dJ25_init_9 : decode cJ25_init 9 = .ok (.aload_n 0, 1) := by decide +kernel
theorem dJ25_init_10 : decode cJ25_init 10 = .ok (.getstatic 13, 3) := by decide +kernel
theorem dJ25_init_13 : decode cJ25_init 13 = .ok (.putfield 17, 3) := by decide +kernel
theorem dJ25_init_16 : decode cJ25_init 16 = .ok (.aload_n 0, 1) := by decide +kernel
theorem dJ25_init_17 : decode cJ25_init 17 = .ok (.getstatic 20, 3) := by decide +kernel
theorem dJ25_init_20 : decode cJ25_init 20 = .ok (.putfield 24, 3) := by decide +kernel
theorem dJ25_init_23 : decode cJ25_init 23 = .ok (.iload 4, 2) := by decide +kernel
theorem dJ25_init_25 : decode cJ25_init 25 = .ok (.ifCond .eq 11, 3) := by decide +kernel
theorem dJ25_init_28 : decode cJ25_init 28 = .ok (.aload_n 0, 1) := by decide +kernel
theorem dJ25_init_29 : decode cJ25_init 29 = .ok (.invokevirtual 27, 3) := by decide +kernel
theorem dJ25_init_32 : decode cJ25_init 32 = .ok (.pop, 1) := by decide +kernel
theorem dJ25_init_33 : decode cJ25_init 33 = .ok (.goto 8, 3) := by decide +kernel
theorem dJ25_init_36 : decode cJ25_init 36 = .ok (.aload_n 0, 1) := by decide +kernel
theorem dJ25_init_37 : decode cJ25_init 37 = .ok (.aconst_null, 1) := by decide +kernel
theorem dJ25_init_38 : decode cJ25_init 38 = .ok (.putfield 17, 3) := by decide +kernel
theorem dJ25_init_41 : decode cJ25_init 41 = .ok (.aload_n 0, 1) := by decide +kernel
theorem dJ25_init_42 : decode cJ25_init 42 = .ok (.aload_n 1, 1) := by decide +kernel
theorem dJ25_init_43 : decode cJ25_init 43 = .ok (.putfield 31, 3) := by decide +kernel
theorem dJ25_init_46 : decode cJ25_init 46 = .ok (.aload_n 0, 1) := by decide +kernel
theorem dJ25_init_47 : decode cJ25_init 47 = .ok (.aload_n 2, 1) := by decide +kernel
theorem dJ25_init_48 : decode cJ25_init 48 = .ok (.putfield 7, 3) := by decide +kernel
theorem dJ25_init_51 : decode cJ25_init 51 = .ok (.iload_n 3, 1) := by decide +kernel
theorem dJ25_init_52 : decode cJ25_init 52 = .ok (.ifCond .ne 8, 3) := by decide +kernel
theorem dJ25_init_55 : decode cJ25_init 55 = .ok (.aload_n 0, 1) := by decide +kernel
theorem dJ25_init_56 : decode cJ25_init 56 = .ok (.aconst_null, 1) := by decide +kernel
theorem dJ25_init_57 : decode cJ25_init 57 = .ok (.putfield 24, 3) := by decide +kernel
theorem dJ25_init_60 : decode cJ25_init 60 = .ok (.return_, 1) := by decide +kernel
