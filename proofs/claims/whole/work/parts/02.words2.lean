set_option maxRecDepth 20000 in
theorem k_901 : (Cond.castable "java/util/NoSuchElementException" "java/util/NoSuchElementException") ∈ lw_tbl := List.mem_append_right _ (List.mem_of_getElem? (i := 901) (by decide +kernel))
set_option maxRecDepth 20000 in
theorem k_902 : (Cond.selects "java/util/NoSuchElementException" ({ cls := "java/lang/Throwable", name := "fillInStackTrace", desc := "(I)Ljava/lang/Throwable;" } : MethodName) ({ cls := "java/lang/Throwable", name := "fillInStackTrace", desc := "(I)Ljava/lang/Throwable;" } : MethodName)) ∈ lw_tbl := List.mem_append_right _ (List.mem_of_getElem? (i := 902) (by decide +kernel))
set_option maxRecDepth 20000 in
theorem k_903 : (Cond.lays "java/util/NoSuchElementException" "java/lang/Throwable" "cause" "Ljava/lang/Throwable;") ∈ lw_tbl := List.mem_append_right _ (List.mem_of_getElem? (i := 903) (by decide +kernel))
set_option maxRecDepth 20000 in
theorem k_904 : (Cond.lays "java/util/NoSuchElementException" "java/lang/Throwable" "stackTrace" "[Ljava/lang/StackTraceElement;") ∈ lw_tbl := List.mem_append_right _ (List.mem_of_getElem? (i := 904) (by decide +kernel))
set_option maxRecDepth 20000 in
theorem k_905 : (Cond.lays "java/util/NoSuchElementException" "java/lang/Throwable" "suppressedExceptions" "Ljava/util/List;") ∈ lw_tbl := List.mem_append_right _ (List.mem_of_getElem? (i := 905) (by decide +kernel))
set_option maxRecDepth 20000 in
theorem k_906 : (Cond.lays "java/util/NoSuchElementException" "java/lang/Throwable" "detailMessage" "Ljava/lang/String;") ∈ lw_tbl := List.mem_append_right _ (List.mem_of_getElem? (i := 906) (by decide +kernel))
set_option maxRecDepth 20000 in
theorem k_907 : (Cond.lays "java/util/NoSuchElementException" "java/lang/Throwable" "backtrace" "Ljava/lang/Object;") ∈ lw_tbl := List.mem_append_right _ (List.mem_of_getElem? (i := 907) (by decide +kernel))
set_option maxRecDepth 20000 in
theorem k_908 : (Cond.methodLink "StitchDesk" (151 : Nat) ({ cls := "java/util/NoSuchElementException", name := "<init>", desc := "(Ljava/lang/String;)V" } : MethodName)) ∈ lw_tbl := List.mem_append_right _ (List.mem_of_getElem? (i := 908) (by decide +kernel))
set_option maxRecDepth 20000 in
theorem k_909 : (Cond.instanceMethod ({ cls := "java/util/NoSuchElementException", name := "<init>", desc := "(Ljava/lang/String;)V" } : MethodName)) ∈ lw_tbl := List.mem_append_right _ (List.mem_of_getElem? (i := 909) (by decide +kernel))
set_option maxRecDepth 20000 in
theorem k_910 : (Cond.code ({ cls := "java/util/NoSuchElementException", name := "<init>", desc := "(Ljava/lang/String;)V" } : MethodName) prog_24_method_4_code (2 : Nat) (Option.none : Option ClassFile.FieldType)) ∈ lw_tbl := List.mem_append_right _ (List.mem_of_getElem? (i := 910) (by decide +kernel))
set_option maxRecDepth 20000 in
theorem k_911 : (Cond.methodLink "java/util/NoSuchElementException" (13 : Nat) ({ cls := "java/lang/RuntimeException", name := "<init>", desc := "(Ljava/lang/String;)V" } : MethodName)) ∈ lw_tbl := List.mem_append_right _ (List.mem_of_getElem? (i := 911) (by decide +kernel))
set_option maxRecDepth 20000 in
theorem k_912 : (Cond.lays "java/util/NoSuchElementException" "java/lang/Throwable" "depth" "I") ∈ lw_tbl := List.mem_append_right _ (List.mem_of_getElem? (i := 912) (by decide +kernel))
set_option maxRecDepth 20000 in
theorem k_913 : (Cond.superclass "java/util/NoSuchElementException" "java/lang/RuntimeException") ∈ lw_tbl := List.mem_append_right _ (List.mem_of_getElem? (i := 913) (by decide +kernel))
set_option maxRecDepth 20000 in
theorem k_914 : (Cond.stringRef "StitchDesk" (181 : Nat) "no such number of a shape") ∈ lw_tbl := List.mem_append_right _ (List.mem_of_getElem? (i := 914) (by decide +kernel))
set_option maxRecDepth 20000 in
theorem k_915 : (Cond.methodLink "StitchDeskLaw" (94 : Nat) ({ cls := "StitchDeskLaw", name := "record", desc := "(LStitchDesk;II[J)I" } : MethodName)) ∈ lw_tbl := List.mem_append_right _ (List.mem_of_getElem? (i := 915) (by decide +kernel))
set_option maxRecDepth 20000 in
theorem k_916 : (Cond.static ({ cls := "StitchDeskLaw", name := "record", desc := "(LStitchDesk;II[J)I" } : MethodName)) ∈ lw_tbl := List.mem_append_right _ (List.mem_of_getElem? (i := 916) (by decide +kernel))
set_option maxRecDepth 20000 in
theorem k_917 : (Cond.codeWith ({ cls := "StitchDeskLaw", name := "record", desc := "(LStitchDesk;II[J)I" } : MethodName) method_8_code (5 : Nat) (Option.some ClassFile.FieldType.int) [((0 : Nat), (10 : Nat), (13 : Nat), (39 : Nat)), ((0 : Nat), (10 : Nat), (17 : Nat), (17 : Nat))]) ∈ lw_tbl := List.mem_append_right _ (List.mem_of_getElem? (i := 917) (by decide +kernel))
set_option maxRecDepth 20000 in
theorem k_918 : (Cond.classLink "StitchDeskLaw" (39 : Nat) "java/lang/IndexOutOfBoundsException") ∈ lw_tbl := List.mem_append_right _ (List.mem_of_getElem? (i := 918) (by decide +kernel))
set_option maxRecDepth 20000 in
theorem k_919 : (Cond.methodLink "StitchDeskLaw" (36 : Nat) ({ cls := "StitchDesk", name := "record", desc := "(II)I" } : MethodName)) ∈ lw_tbl := List.mem_append_right _ (List.mem_of_getElem? (i := 919) (by decide +kernel))
set_option maxRecDepth 20000 in
theorem k_920 : (Cond.instanceMethod ({ cls := "StitchDesk", name := "record", desc := "(II)I" } : MethodName)) ∈ lw_tbl := List.mem_append_right _ (List.mem_of_getElem? (i := 920) (by decide +kernel))
set_option maxRecDepth 20000 in
theorem k_921 : (Cond.selects "StitchDesk" ({ cls := "StitchDesk", name := "record", desc := "(II)I" } : MethodName) ({ cls := "StitchDesk", name := "record", desc := "(II)I" } : MethodName)) ∈ lw_tbl := List.mem_append_right _ (List.mem_of_getElem? (i := 921) (by decide +kernel))
set_option maxRecDepth 20000 in
theorem k_922 : (Cond.code ({ cls := "StitchDesk", name := "record", desc := "(II)I" } : MethodName) prog_1_method_10_code (3 : Nat) (Option.some ClassFile.FieldType.int)) ∈ lw_tbl := List.mem_append_right _ (List.mem_of_getElem? (i := 922) (by decide +kernel))
set_option maxRecDepth 20000 in
theorem k_923 : (Cond.classLink "StitchDesk" (202 : Nat) "java/lang/IndexOutOfBoundsException") ∈ lw_tbl := List.mem_append_right _ (List.mem_of_getElem? (i := 923) (by decide +kernel))
set_option maxRecDepth 20000 in
theorem k_924 : (Cond.instantiable "java/lang/IndexOutOfBoundsException" (6 : Nat)) ∈ lw_tbl := List.mem_append_right _ (List.mem_of_getElem? (i := 924) (by decide +kernel))
set_option maxRecDepth 20000 in
theorem k_925 : (Cond.castable "java/lang/IndexOutOfBoundsException" "java/lang/IndexOutOfBoundsException") ∈ lw_tbl := List.mem_append_right _ (List.mem_of_getElem? (i := 925) (by decide +kernel))
set_option maxRecDepth 20000 in
theorem k_926 : (Cond.selects "java/lang/IndexOutOfBoundsException" ({ cls := "java/lang/Throwable", name := "fillInStackTrace", desc := "(I)Ljava/lang/Throwable;" } : MethodName) ({ cls := "java/lang/Throwable", name := "fillInStackTrace", desc := "(I)Ljava/lang/Throwable;" } : MethodName)) ∈ lw_tbl := List.mem_append_right _ (List.mem_of_getElem? (i := 926) (by decide +kernel))
set_option maxRecDepth 20000 in
theorem k_927 : (Cond.lays "java/lang/IndexOutOfBoundsException" "java/lang/Throwable" "cause" "Ljava/lang/Throwable;") ∈ lw_tbl := List.mem_append_right _ (List.mem_of_getElem? (i := 927) (by decide +kernel))
set_option maxRecDepth 20000 in
theorem k_928 : (Cond.lays "java/lang/IndexOutOfBoundsException" "java/lang/Throwable" "stackTrace" "[Ljava/lang/StackTraceElement;") ∈ lw_tbl := List.mem_append_right _ (List.mem_of_getElem? (i := 928) (by decide +kernel))
set_option maxRecDepth 20000 in
theorem k_929 : (Cond.lays "java/lang/IndexOutOfBoundsException" "java/lang/Throwable" "suppressedExceptions" "Ljava/util/List;") ∈ lw_tbl := List.mem_append_right _ (List.mem_of_getElem? (i := 929) (by decide +kernel))
set_option maxRecDepth 20000 in
theorem k_930 : (Cond.lays "java/lang/IndexOutOfBoundsException" "java/lang/Throwable" "detailMessage" "Ljava/lang/String;") ∈ lw_tbl := List.mem_append_right _ (List.mem_of_getElem? (i := 930) (by decide +kernel))
set_option maxRecDepth 20000 in
theorem k_931 : (Cond.lays "java/lang/IndexOutOfBoundsException" "java/lang/Throwable" "backtrace" "Ljava/lang/Object;") ∈ lw_tbl := List.mem_append_right _ (List.mem_of_getElem? (i := 931) (by decide +kernel))
set_option maxRecDepth 20000 in
theorem k_932 : (Cond.stringRef "StitchDesk" (204 : Nat) "no such record") ∈ lw_tbl := List.mem_append_right _ (List.mem_of_getElem? (i := 932) (by decide +kernel))
set_option maxRecDepth 20000 in
theorem k_933 : (Cond.methodLink "StitchDesk" (206 : Nat) ({ cls := "java/lang/IndexOutOfBoundsException", name := "<init>", desc := "(Ljava/lang/String;)V" } : MethodName)) ∈ lw_tbl := List.mem_append_right _ (List.mem_of_getElem? (i := 933) (by decide +kernel))
set_option maxRecDepth 20000 in
theorem k_934 : (Cond.instanceMethod ({ cls := "java/lang/IndexOutOfBoundsException", name := "<init>", desc := "(Ljava/lang/String;)V" } : MethodName)) ∈ lw_tbl := List.mem_append_right _ (List.mem_of_getElem? (i := 934) (by decide +kernel))
set_option maxRecDepth 20000 in
theorem k_935 : (Cond.code ({ cls := "java/lang/IndexOutOfBoundsException", name := "<init>", desc := "(Ljava/lang/String;)V" } : MethodName) prog_17_method_2_code (2 : Nat) (Option.none : Option ClassFile.FieldType)) ∈ lw_tbl := List.mem_append_right _ (List.mem_of_getElem? (i := 935) (by decide +kernel))
set_option maxRecDepth 20000 in
theorem k_936 : (Cond.methodLink "java/lang/IndexOutOfBoundsException" (7 : Nat) ({ cls := "java/lang/RuntimeException", name := "<init>", desc := "(Ljava/lang/String;)V" } : MethodName)) ∈ lw_tbl := List.mem_append_right _ (List.mem_of_getElem? (i := 936) (by decide +kernel))
set_option maxRecDepth 20000 in
theorem k_937 : (Cond.lays "java/lang/IndexOutOfBoundsException" "java/lang/Throwable" "depth" "I") ∈ lw_tbl := List.mem_append_right _ (List.mem_of_getElem? (i := 937) (by decide +kernel))
set_option maxRecDepth 20000 in
theorem k_938 : (Cond.superclass "java/lang/IndexOutOfBoundsException" "java/lang/RuntimeException") ∈ lw_tbl := List.mem_append_right _ (List.mem_of_getElem? (i := 938) (by decide +kernel))
set_option maxRecDepth 20000 in
theorem k_939 : (Cond.methodLinkNest "StitchDesk" (207 : Nat) ({ cls := "StitchDesk$Path", name := "dx", desc := "(I)I" } : MethodName) "StitchDesk") ∈ lw_tbl := List.mem_append_right _ (List.mem_of_getElem? (i := 939) (by decide +kernel))
set_option maxRecDepth 20000 in
theorem k_940 : (Cond.methodLinkNest "StitchDesk" (211 : Nat) ({ cls := "StitchDesk$Path", name := "dy", desc := "(I)I" } : MethodName) "StitchDesk") ∈ lw_tbl := List.mem_append_right _ (List.mem_of_getElem? (i := 940) (by decide +kernel))
set_option maxRecDepth 20000 in
theorem k_941 : (Cond.stringRef "StitchDesk" (217 : Nat) "no such field of a record") ∈ lw_tbl := List.mem_append_right _ (List.mem_of_getElem? (i := 941) (by decide +kernel))
set_option maxRecDepth 20000 in
theorem k_942 : (Cond.methodLink "StitchDeskLaw" (97 : Nat) ({ cls := "StitchDeskLaw", name := "byteAt", desc := "(LStitchDesk;I[J)I" } : MethodName)) ∈ lw_tbl := List.mem_append_right _ (List.mem_of_getElem? (i := 942) (by decide +kernel))
set_option maxRecDepth 20000 in
theorem k_943 : (Cond.static ({ cls := "StitchDeskLaw", name := "byteAt", desc := "(LStitchDesk;I[J)I" } : MethodName)) ∈ lw_tbl := List.mem_append_right _ (List.mem_of_getElem? (i := 943) (by decide +kernel))
set_option maxRecDepth 20000 in
theorem k_944 : (Cond.codeWith ({ cls := "StitchDeskLaw", name := "byteAt", desc := "(LStitchDesk;I[J)I" } : MethodName) method_9_code (4 : Nat) (Option.some ClassFile.FieldType.int) [((0 : Nat), (9 : Nat), (12 : Nat), (39 : Nat))]) ∈ lw_tbl := List.mem_append_right _ (List.mem_of_getElem? (i := 944) (by decide +kernel))
set_option maxRecDepth 20000 in
theorem k_945 : (Cond.methodLink "StitchDeskLaw" (41 : Nat) ({ cls := "StitchDesk", name := "byteAt", desc := "(I)I" } : MethodName)) ∈ lw_tbl := List.mem_append_right _ (List.mem_of_getElem? (i := 945) (by decide +kernel))
set_option maxRecDepth 20000 in
theorem k_946 : (Cond.instanceMethod ({ cls := "StitchDesk", name := "byteAt", desc := "(I)I" } : MethodName)) ∈ lw_tbl := List.mem_append_right _ (List.mem_of_getElem? (i := 946) (by decide +kernel))
set_option maxRecDepth 20000 in
theorem k_947 : (Cond.selects "StitchDesk" ({ cls := "StitchDesk", name := "byteAt", desc := "(I)I" } : MethodName) ({ cls := "StitchDesk", name := "byteAt", desc := "(I)I" } : MethodName)) ∈ lw_tbl := List.mem_append_right _ (List.mem_of_getElem? (i := 947) (by decide +kernel))
set_option maxRecDepth 20000 in
theorem k_948 : (Cond.code ({ cls := "StitchDesk", name := "byteAt", desc := "(I)I" } : MethodName) prog_1_method_11_code (3 : Nat) (Option.some ClassFile.FieldType.int)) ∈ lw_tbl := List.mem_append_right _ (List.mem_of_getElem? (i := 948) (by decide +kernel))
set_option maxRecDepth 20000 in
theorem k_949 : (Cond.stringRef "StitchDesk" (219 : Nat) "no such byte") ∈ lw_tbl := List.mem_append_right _ (List.mem_of_getElem? (i := 949) (by decide +kernel))
set_option maxRecDepth 20000 in
theorem k_950 : (Cond.methodLinkNest "StitchDesk" (221 : Nat) ({ cls := "StitchDesk$Path", name := "packed", desc := "(I)I" } : MethodName) "StitchDesk") ∈ lw_tbl := List.mem_append_right _ (List.mem_of_getElem? (i := 950) (by decide +kernel))
set_option maxRecDepth 20000 in
theorem k_951 : (Cond.privateMethod ({ cls := "StitchDesk$Path", name := "packed", desc := "(I)I" } : MethodName)) ∈ lw_tbl := List.mem_append_right _ (List.mem_of_getElem? (i := 951) (by decide +kernel))
set_option maxRecDepth 20000 in
theorem k_952 : (Cond.instanceMethod ({ cls := "StitchDesk$Path", name := "packed", desc := "(I)I" } : MethodName)) ∈ lw_tbl := List.mem_append_right _ (List.mem_of_getElem? (i := 952) (by decide +kernel))
set_option maxRecDepth 20000 in
theorem k_953 : (Cond.code ({ cls := "StitchDesk$Path", name := "packed", desc := "(I)I" } : MethodName) prog_4_method_7_code (2 : Nat) (Option.some ClassFile.FieldType.int)) ∈ lw_tbl := List.mem_append_right _ (List.mem_of_getElem? (i := 953) (by decide +kernel))
set_option maxRecDepth 20000 in
theorem k_954 : (Cond.methodLink "StitchDesk$Path" (30 : Nat) ({ cls := "StitchDesk$Path", name := "digitsOf", desc := "(I)I" } : MethodName)) ∈ lw_tbl := List.mem_append_right _ (List.mem_of_getElem? (i := 954) (by decide +kernel))
set_option maxRecDepth 20000 in
theorem k_955 : (Cond.static ({ cls := "StitchDesk$Path", name := "digitsOf", desc := "(I)I" } : MethodName)) ∈ lw_tbl := List.mem_append_right _ (List.mem_of_getElem? (i := 955) (by decide +kernel))
set_option maxRecDepth 20000 in
theorem k_956 : (Cond.code ({ cls := "StitchDesk$Path", name := "digitsOf", desc := "(I)I" } : MethodName) prog_4_method_10_code (5 : Nat) (Option.some ClassFile.FieldType.int)) ∈ lw_tbl := List.mem_append_right _ (List.mem_of_getElem? (i := 956) (by decide +kernel))
set_option maxRecDepth 20000 in
theorem k_957 : (Cond.methodLink "StitchDeskLaw" (101 : Nat) ({ cls := "StitchDeskLaw", name := "load", desc := "(LStitchDesk;II[J)I" } : MethodName)) ∈ lw_tbl := List.mem_append_right _ (List.mem_of_getElem? (i := 957) (by decide +kernel))
set_option maxRecDepth 20000 in
theorem k_958 : (Cond.static ({ cls := "StitchDeskLaw", name := "load", desc := "(LStitchDesk;II[J)I" } : MethodName)) ∈ lw_tbl := List.mem_append_right _ (List.mem_of_getElem? (i := 958) (by decide +kernel))
set_option maxRecDepth 20000 in
theorem k_959 : (Cond.codeWith ({ cls := "StitchDeskLaw", name := "load", desc := "(LStitchDesk;II[J)I" } : MethodName) method_10_code (5 : Nat) (Option.some ClassFile.FieldType.int) [((0 : Nat), (10 : Nat), (13 : Nat), (39 : Nat)), ((0 : Nat), (10 : Nat), (17 : Nat), (17 : Nat))]) ∈ lw_tbl := List.mem_append_right _ (List.mem_of_getElem? (i := 959) (by decide +kernel))
set_option maxRecDepth 20000 in
theorem k_960 : (Cond.methodLink "StitchDeskLaw" (45 : Nat) ({ cls := "StitchDesk", name := "load", desc := "(II)I" } : MethodName)) ∈ lw_tbl := List.mem_append_right _ (List.mem_of_getElem? (i := 960) (by decide +kernel))
set_option maxRecDepth 20000 in
theorem k_961 : (Cond.instanceMethod ({ cls := "StitchDesk", name := "load", desc := "(II)I" } : MethodName)) ∈ lw_tbl := List.mem_append_right _ (List.mem_of_getElem? (i := 961) (by decide +kernel))
set_option maxRecDepth 20000 in
theorem k_962 : (Cond.selects "StitchDesk" ({ cls := "StitchDesk", name := "load", desc := "(II)I" } : MethodName) ({ cls := "StitchDesk", name := "load", desc := "(II)I" } : MethodName)) ∈ lw_tbl := List.mem_append_right _ (List.mem_of_getElem? (i := 962) (by decide +kernel))
set_option maxRecDepth 20000 in
theorem k_963 : (Cond.code ({ cls := "StitchDesk", name := "load", desc := "(II)I" } : MethodName) prog_1_method_12_code (3 : Nat) (Option.some ClassFile.FieldType.int)) ∈ lw_tbl := List.mem_append_right _ (List.mem_of_getElem? (i := 963) (by decide +kernel))
set_option maxRecDepth 20000 in
theorem k_964 : (Cond.stringRef "StitchDesk" (224 : Nat) "no byte") ∈ lw_tbl := List.mem_append_right _ (List.mem_of_getElem? (i := 964) (by decide +kernel))
set_option maxRecDepth 20000 in
theorem k_965 : (Cond.methodLink "StitchDeskLaw" (120 : Nat) ({ cls := "StitchDeskLaw", name := "under", desc := "(LStitchDesk;II[J)I" } : MethodName)) ∈ lw_tbl := List.mem_append_right _ (List.mem_of_getElem? (i := 965) (by decide +kernel))
set_option maxRecDepth 20000 in
theorem k_966 : (Cond.static ({ cls := "StitchDeskLaw", name := "under", desc := "(LStitchDesk;II[J)I" } : MethodName)) ∈ lw_tbl := List.mem_append_right _ (List.mem_of_getElem? (i := 966) (by decide +kernel))
set_option maxRecDepth 20000 in
theorem k_967 : (Cond.codeWith ({ cls := "StitchDeskLaw", name := "under", desc := "(LStitchDesk;II[J)I" } : MethodName) method_11_code (5 : Nat) (Option.some ClassFile.FieldType.int) [((0 : Nat), (10 : Nat), (13 : Nat), (17 : Nat))]) ∈ lw_tbl := List.mem_append_right _ (List.mem_of_getElem? (i := 967) (by decide +kernel))
set_option maxRecDepth 20000 in
theorem k_968 : (Cond.methodLink "StitchDeskLaw" (48 : Nat) ({ cls := "StitchDesk", name := "under", desc := "(II)I" } : MethodName)) ∈ lw_tbl := List.mem_append_right _ (List.mem_of_getElem? (i := 968) (by decide +kernel))
set_option maxRecDepth 20000 in
theorem k_969 : (Cond.instanceMethod ({ cls := "StitchDesk", name := "under", desc := "(II)I" } : MethodName)) ∈ lw_tbl := List.mem_append_right _ (List.mem_of_getElem? (i := 969) (by decide +kernel))
set_option maxRecDepth 20000 in
theorem k_970 : (Cond.selects "StitchDesk" ({ cls := "StitchDesk", name := "under", desc := "(II)I" } : MethodName) ({ cls := "StitchDesk", name := "under", desc := "(II)I" } : MethodName)) ∈ lw_tbl := List.mem_append_right _ (List.mem_of_getElem? (i := 970) (by decide +kernel))
set_option maxRecDepth 20000 in
theorem k_971 : (Cond.code ({ cls := "StitchDesk", name := "under", desc := "(II)I" } : MethodName) prog_1_method_17_code (4 : Nat) (Option.some ClassFile.FieldType.int)) ∈ lw_tbl := List.mem_append_right _ (List.mem_of_getElem? (i := 971) (by decide +kernel))
set_option maxRecDepth 20000 in
theorem k_972 : (Cond.stringRef "StitchDesk" (244 : Nat) "no such place") ∈ lw_tbl := List.mem_append_right _ (List.mem_of_getElem? (i := 972) (by decide +kernel))
set_option maxRecDepth 20000 in
theorem k_973 : (Cond.methodLinkNest "StitchDesk" (246 : Nat) ({ cls := "StitchDesk$Shape", name := "has", desc := "(II)Z" } : MethodName) "StitchDesk") ∈ lw_tbl := List.mem_append_right _ (List.mem_of_getElem? (i := 973) (by decide +kernel))
set_option maxRecDepth 20000 in
theorem k_974 : (Cond.methodLink "StitchDeskLaw" (123 : Nat) ({ cls := "StitchDeskLaw", name := "needle", desc := "(LStitchDesk;II[J)I" } : MethodName)) ∈ lw_tbl := List.mem_append_right _ (List.mem_of_getElem? (i := 974) (by decide +kernel))
set_option maxRecDepth 20000 in
theorem k_975 : (Cond.static ({ cls := "StitchDeskLaw", name := "needle", desc := "(LStitchDesk;II[J)I" } : MethodName)) ∈ lw_tbl := List.mem_append_right _ (List.mem_of_getElem? (i := 975) (by decide +kernel))
set_option maxRecDepth 20000 in
theorem k_976 : (Cond.codeWith ({ cls := "StitchDeskLaw", name := "needle", desc := "(LStitchDesk;II[J)I" } : MethodName) method_12_code (5 : Nat) (Option.some ClassFile.FieldType.int) [((0 : Nat), (10 : Nat), (13 : Nat), (39 : Nat)), ((0 : Nat), (10 : Nat), (17 : Nat), (17 : Nat))]) ∈ lw_tbl := List.mem_append_right _ (List.mem_of_getElem? (i := 976) (by decide +kernel))
set_option maxRecDepth 20000 in
theorem k_977 : (Cond.methodLink "StitchDeskLaw" (51 : Nat) ({ cls := "StitchDesk", name := "needle", desc := "(II)I" } : MethodName)) ∈ lw_tbl := List.mem_append_right _ (List.mem_of_getElem? (i := 977) (by decide +kernel))
set_option maxRecDepth 20000 in
theorem k_978 : (Cond.instanceMethod ({ cls := "StitchDesk", name := "needle", desc := "(II)I" } : MethodName)) ∈ lw_tbl := List.mem_append_right _ (List.mem_of_getElem? (i := 978) (by decide +kernel))
set_option maxRecDepth 20000 in
theorem k_979 : (Cond.selects "StitchDesk" ({ cls := "StitchDesk", name := "needle", desc := "(II)I" } : MethodName) ({ cls := "StitchDesk", name := "needle", desc := "(II)I" } : MethodName)) ∈ lw_tbl := List.mem_append_right _ (List.mem_of_getElem? (i := 979) (by decide +kernel))
set_option maxRecDepth 20000 in
theorem k_980 : (Cond.code ({ cls := "StitchDesk", name := "needle", desc := "(II)I" } : MethodName) prog_1_method_18_code (5 : Nat) (Option.some ClassFile.FieldType.int)) ∈ lw_tbl := List.mem_append_right _ (List.mem_of_getElem? (i := 980) (by decide +kernel))
set_option maxRecDepth 20000 in
theorem k_981 : (Cond.stringRef "StitchDesk" (249 : Nat) "not so many records") ∈ lw_tbl := List.mem_append_right _ (List.mem_of_getElem? (i := 981) (by decide +kernel))
set_option maxRecDepth 20000 in
theorem k_982 : (Cond.stringRef "StitchDesk" (251 : Nat) "no such field of a place") ∈ lw_tbl := List.mem_append_right _ (List.mem_of_getElem? (i := 982) (by decide +kernel))
set_option maxRecDepth 20000 in
theorem k_983 : (Cond.classLink "StitchDeskLaw" (55 : Nat) "StitchDeskModel") ∈ lw_tbl := List.mem_append_right _ (List.mem_of_getElem? (i := 983) (by decide +kernel))
set_option maxRecDepth 20000 in
theorem k_984 : (Cond.instantiable "StitchDeskModel" (34 : Nat)) ∈ lw_tbl := List.mem_append_right _ (List.mem_of_getElem? (i := 984) (by decide +kernel))
set_option maxRecDepth 20000 in
theorem k_985 : (Cond.methodLink "StitchDeskLaw" (57 : Nat) ({ cls := "StitchDeskModel", name := "<init>", desc := "()V" } : MethodName)) ∈ lw_tbl := List.mem_append_right _ (List.mem_of_getElem? (i := 985) (by decide +kernel))
set_option maxRecDepth 20000 in
theorem k_986 : (Cond.instanceMethod ({ cls := "StitchDeskModel", name := "<init>", desc := "()V" } : MethodName)) ∈ lw_tbl := List.mem_append_right _ (List.mem_of_getElem? (i := 986) (by decide +kernel))
set_option maxRecDepth 20000 in
theorem k_987 : (Cond.code ({ cls := "StitchDeskModel", name := "<init>", desc := "()V" } : MethodName) prog_13_method_1_code (1 : Nat) (Option.none : Option ClassFile.FieldType)) ∈ lw_tbl := List.mem_append_right _ (List.mem_of_getElem? (i := 987) (by decide +kernel))
set_option maxRecDepth 20000 in
theorem k_988 : (Cond.methodLink "StitchDeskModel" (1 : Nat) ({ cls := "java/lang/Object", name := "<init>", desc := "()V" } : MethodName)) ∈ lw_tbl := List.mem_append_right _ (List.mem_of_getElem? (i := 988) (by decide +kernel))
set_option maxRecDepth 20000 in
theorem k_989 : (Cond.fieldLink "StitchDeskModel" (7 : Nat) "StitchDeskModel" "thrownCode" "I") ∈ lw_tbl := List.mem_append_right _ (List.mem_of_getElem? (i := 989) (by decide +kernel))
set_option maxRecDepth 20000 in
theorem k_990 : (Cond.fieldLink "StitchDeskModel" (13 : Nat) "StitchDeskModel" "shapes" "I") ∈ lw_tbl := List.mem_append_right _ (List.mem_of_getElem? (i := 990) (by decide +kernel))
set_option maxRecDepth 20000 in
theorem k_991 : (Cond.fieldLink "StitchDeskModel" (16 : Nat) "StitchDeskModel" "open" "Z") ∈ lw_tbl := List.mem_append_right _ (List.mem_of_getElem? (i := 991) (by decide +kernel))
set_option maxRecDepth 20000 in
theorem k_992 : (Cond.fieldLink "StitchDeskModel" (20 : Nat) "StitchDeskModel" "told" "[I") ∈ lw_tbl := List.mem_append_right _ (List.mem_of_getElem? (i := 992) (by decide +kernel))
set_option maxRecDepth 20000 in
theorem k_993 : (Cond.fieldLink "StitchDeskModel" (24 : Nat) "StitchDeskModel" "corners" "[I") ∈ lw_tbl := List.mem_append_right _ (List.mem_of_getElem? (i := 993) (by decide +kernel))
set_option maxRecDepth 20000 in
theorem k_994 : (Cond.fieldLink "StitchDeskModel" (27 : Nat) "StitchDeskModel" "cx" "[I") ∈ lw_tbl := List.mem_append_right _ (List.mem_of_getElem? (i := 994) (by decide +kernel))
set_option maxRecDepth 20000 in
theorem k_995 : (Cond.fieldLink "StitchDeskModel" (30 : Nat) "StitchDeskModel" "cy" "[I") ∈ lw_tbl := List.mem_append_right _ (List.mem_of_getElem? (i := 995) (by decide +kernel))
set_option maxRecDepth 20000 in
theorem k_996 : (Cond.fieldLink "StitchDeskModel" (33 : Nat) "StitchDeskModel" "box" "[I") ∈ lw_tbl := List.mem_append_right _ (List.mem_of_getElem? (i := 996) (by decide +kernel))
set_option maxRecDepth 20000 in
theorem k_997 : (Cond.fieldLink "StitchDeskModel" (36 : Nat) "StitchDeskModel" "order" "[I") ∈ lw_tbl := List.mem_append_right _ (List.mem_of_getElem? (i := 997) (by decide +kernel))
set_option maxRecDepth 20000 in
theorem k_998 : (Cond.fieldLink "StitchDeskModel" (39 : Nat) "StitchDeskModel" "faultNow" "I") ∈ lw_tbl := List.mem_append_right _ (List.mem_of_getElem? (i := 998) (by decide +kernel))
set_option maxRecDepth 20000 in
theorem k_999 : (Cond.fieldLink "StitchDeskModel" (42 : Nat) "StitchDeskModel" "faultOne" "I") ∈ lw_tbl := List.mem_append_right _ (List.mem_of_getElem? (i := 999) (by decide +kernel))
set_option maxRecDepth 20000 in
theorem k_1000 : (Cond.fieldLink "StitchDeskModel" (45 : Nat) "StitchDeskModel" "faultOther" "I") ∈ lw_tbl := List.mem_append_right _ (List.mem_of_getElem? (i := 1000) (by decide +kernel))
set_option maxRecDepth 20000 in
theorem k_1001 : (Cond.fieldLink "StitchDeskModel" (48 : Nat) "StitchDeskModel" "edges" "I") ∈ lw_tbl := List.mem_append_right _ (List.mem_of_getElem? (i := 1001) (by decide +kernel))
set_option maxRecDepth 20000 in
theorem k_1002 : (Cond.fieldLink "StitchDeskModel" (51 : Nat) "StitchDeskModel" "ex" "[I") ∈ lw_tbl := List.mem_append_right _ (List.mem_of_getElem? (i := 1002) (by decide +kernel))
set_option maxRecDepth 20000 in
theorem k_1003 : (Cond.fieldLink "StitchDeskModel" (54 : Nat) "StitchDeskModel" "ey" "[I") ∈ lw_tbl := List.mem_append_right _ (List.mem_of_getElem? (i := 1003) (by decide +kernel))
set_option maxRecDepth 20000 in
theorem k_1004 : (Cond.fieldLink "StitchDeskModel" (57 : Nat) "StitchDeskModel" "fx" "[I") ∈ lw_tbl := List.mem_append_right _ (List.mem_of_getElem? (i := 1004) (by decide +kernel))
set_option maxRecDepth 20000 in
theorem k_1005 : (Cond.fieldLink "StitchDeskModel" (60 : Nat) "StitchDeskModel" "fy" "[I") ∈ lw_tbl := List.mem_append_right _ (List.mem_of_getElem? (i := 1005) (by decide +kernel))
set_option maxRecDepth 20000 in
theorem k_1006 : (Cond.fieldLink "StitchDeskModel" (63 : Nat) "StitchDeskModel" "ring" "[I") ∈ lw_tbl := List.mem_append_right _ (List.mem_of_getElem? (i := 1006) (by decide +kernel))
set_option maxRecDepth 20000 in
theorem k_1007 : (Cond.fieldLink "StitchDeskModel" (66 : Nat) "StitchDeskModel" "place" "[I") ∈ lw_tbl := List.mem_append_right _ (List.mem_of_getElem? (i := 1007) (by decide +kernel))
set_option maxRecDepth 20000 in
theorem k_1008 : (Cond.fieldLink "StitchDeskModel" (69 : Nat) "StitchDeskModel" "odd" "[Z") ∈ lw_tbl := List.mem_append_right _ (List.mem_of_getElem? (i := 1008) (by decide +kernel))
set_option maxRecDepth 20000 in
theorem k_1009 : (Cond.fieldLink "StitchDeskModel" (73 : Nat) "StitchDeskModel" "records" "I") ∈ lw_tbl := List.mem_append_right _ (List.mem_of_getElem? (i := 1009) (by decide +kernel))
set_option maxRecDepth 20000 in
theorem k_1010 : (Cond.fieldLink "StitchDeskModel" (76 : Nat) "StitchDeskModel" "dx" "[I") ∈ lw_tbl := List.mem_append_right _ (List.mem_of_getElem? (i := 1010) (by decide +kernel))
set_option maxRecDepth 20000 in
theorem k_1011 : (Cond.fieldLink "StitchDeskModel" (79 : Nat) "StitchDeskModel" "dy" "[I") ∈ lw_tbl := List.mem_append_right _ (List.mem_of_getElem? (i := 1011) (by decide +kernel))
set_option maxRecDepth 20000 in
theorem k_1012 : (Cond.fieldLink "StitchDeskModel" (82 : Nat) "StitchDeskModel" "kind" "[I") ∈ lw_tbl := List.mem_append_right _ (List.mem_of_getElem? (i := 1012) (by decide +kernel))
set_option maxRecDepth 20000 in
theorem k_1013 : (Cond.fieldLink "StitchDeskModel" (85 : Nat) "StitchDeskModel" "nx" "I") ∈ lw_tbl := List.mem_append_right _ (List.mem_of_getElem? (i := 1013) (by decide +kernel))
set_option maxRecDepth 20000 in
theorem k_1014 : (Cond.fieldLink "StitchDeskModel" (88 : Nat) "StitchDeskModel" "ny" "I") ∈ lw_tbl := List.mem_append_right _ (List.mem_of_getElem? (i := 1014) (by decide +kernel))
set_option maxRecDepth 20000 in
theorem k_1015 : (Cond.fieldLink "StitchDeskModel" (91 : Nat) "StitchDeskModel" "stitching" "Z") ∈ lw_tbl := List.mem_append_right _ (List.mem_of_getElem? (i := 1015) (by decide +kernel))
set_option maxRecDepth 20000 in
theorem k_1016 : (Cond.fieldLink "StitchDeskModel" (94 : Nat) "StitchDeskModel" "runs" "I") ∈ lw_tbl := List.mem_append_right _ (List.mem_of_getElem? (i := 1016) (by decide +kernel))
set_option maxRecDepth 20000 in
theorem k_1017 : (Cond.fieldLink "StitchDeskModel" (97 : Nat) "StitchDeskModel" "places" "I") ∈ lw_tbl := List.mem_append_right _ (List.mem_of_getElem? (i := 1017) (by decide +kernel))
set_option maxRecDepth 20000 in
theorem k_1018 : (Cond.fieldLink "StitchDeskModel" (100 : Nat) "StitchDeskModel" "lastColour" "I") ∈ lw_tbl := List.mem_append_right _ (List.mem_of_getElem? (i := 1018) (by decide +kernel))
set_option maxRecDepth 20000 in
theorem k_1019 : (Cond.fieldLink "StitchDeskModel" (103 : Nat) "StitchDeskModel" "loaded" "I") ∈ lw_tbl := List.mem_append_right _ (List.mem_of_getElem? (i := 1019) (by decide +kernel))
set_option maxRecDepth 20000 in
theorem k_1020 : (Cond.fieldLink "StitchDeskModel" (106 : Nat) "StitchDeskModel" "bytes" "[I") ∈ lw_tbl := List.mem_append_right _ (List.mem_of_getElem? (i := 1020) (by decide +kernel))
set_option maxRecDepth 20000 in
theorem k_1021 : (Cond.fieldLink "StitchDeskModel" (109 : Nat) "StitchDeskModel" "left" "[I") ∈ lw_tbl := List.mem_append_right _ (List.mem_of_getElem? (i := 1021) (by decide +kernel))
set_option maxRecDepth 20000 in
theorem k_1022 : (Cond.fieldLink "StitchDeskModel" (112 : Nat) "StitchDeskModel" "newOrder" "[I") ∈ lw_tbl := List.mem_append_right _ (List.mem_of_getElem? (i := 1022) (by decide +kernel))
set_option maxRecDepth 20000 in
theorem k_1023 : (Cond.lays "StitchDeskModel" "StitchDeskModel" "thrownCode" "I") ∈ lw_tbl := List.mem_append_right _ (List.mem_of_getElem? (i := 1023) (by decide +kernel))
set_option maxRecDepth 20000 in
theorem k_1024 : (Cond.soleField "StitchDeskModel" "thrownCode") ∈ lw_tbl := List.mem_append_right _ (List.mem_of_getElem? (i := 1024) (by decide +kernel))
set_option maxRecDepth 20000 in
theorem k_1025 : (Cond.lays "StitchDeskModel" "StitchDeskModel" "shapes" "I") ∈ lw_tbl := List.mem_append_right _ (List.mem_of_getElem? (i := 1025) (by decide +kernel))
set_option maxRecDepth 20000 in
theorem k_1026 : (Cond.soleField "StitchDeskModel" "shapes") ∈ lw_tbl := List.mem_append_right _ (List.mem_of_getElem? (i := 1026) (by decide +kernel))
set_option maxRecDepth 20000 in
theorem k_1027 : (Cond.lays "StitchDeskModel" "StitchDeskModel" "open" "Z") ∈ lw_tbl := List.mem_append_right _ (List.mem_of_getElem? (i := 1027) (by decide +kernel))
set_option maxRecDepth 20000 in
theorem k_1028 : (Cond.soleField "StitchDeskModel" "open") ∈ lw_tbl := List.mem_append_right _ (List.mem_of_getElem? (i := 1028) (by decide +kernel))
set_option maxRecDepth 20000 in
theorem k_1029 : (Cond.laysFinal "StitchDeskModel" "StitchDeskModel" "told" "[I") ∈ lw_tbl := List.mem_append_right _ (List.mem_of_getElem? (i := 1029) (by decide +kernel))
set_option maxRecDepth 20000 in
theorem k_1030 : (Cond.soleField "StitchDeskModel" "told") ∈ lw_tbl := List.mem_append_right _ (List.mem_of_getElem? (i := 1030) (by decide +kernel))
set_option maxRecDepth 20000 in
theorem k_1031 : (Cond.laysFinal "StitchDeskModel" "StitchDeskModel" "corners" "[I") ∈ lw_tbl := List.mem_append_right _ (List.mem_of_getElem? (i := 1031) (by decide +kernel))
set_option maxRecDepth 20000 in
theorem k_1032 : (Cond.soleField "StitchDeskModel" "corners") ∈ lw_tbl := List.mem_append_right _ (List.mem_of_getElem? (i := 1032) (by decide +kernel))
set_option maxRecDepth 20000 in
theorem k_1033 : (Cond.laysFinal "StitchDeskModel" "StitchDeskModel" "cx" "[I") ∈ lw_tbl := List.mem_append_right _ (List.mem_of_getElem? (i := 1033) (by decide +kernel))
set_option maxRecDepth 20000 in
theorem k_1034 : (Cond.soleField "StitchDeskModel" "cx") ∈ lw_tbl := List.mem_append_right _ (List.mem_of_getElem? (i := 1034) (by decide +kernel))
set_option maxRecDepth 20000 in
theorem k_1035 : (Cond.laysFinal "StitchDeskModel" "StitchDeskModel" "cy" "[I") ∈ lw_tbl := List.mem_append_right _ (List.mem_of_getElem? (i := 1035) (by decide +kernel))
set_option maxRecDepth 20000 in
theorem k_1036 : (Cond.soleField "StitchDeskModel" "cy") ∈ lw_tbl := List.mem_append_right _ (List.mem_of_getElem? (i := 1036) (by decide +kernel))
set_option maxRecDepth 20000 in
theorem k_1037 : (Cond.laysFinal "StitchDeskModel" "StitchDeskModel" "box" "[I") ∈ lw_tbl := List.mem_append_right _ (List.mem_of_getElem? (i := 1037) (by decide +kernel))
set_option maxRecDepth 20000 in
theorem k_1038 : (Cond.soleField "StitchDeskModel" "box") ∈ lw_tbl := List.mem_append_right _ (List.mem_of_getElem? (i := 1038) (by decide +kernel))
set_option maxRecDepth 20000 in
theorem k_1039 : (Cond.laysFinal "StitchDeskModel" "StitchDeskModel" "order" "[I") ∈ lw_tbl := List.mem_append_right _ (List.mem_of_getElem? (i := 1039) (by decide +kernel))
set_option maxRecDepth 20000 in
theorem k_1040 : (Cond.soleField "StitchDeskModel" "order") ∈ lw_tbl := List.mem_append_right _ (List.mem_of_getElem? (i := 1040) (by decide +kernel))
set_option maxRecDepth 20000 in
theorem k_1041 : (Cond.lays "StitchDeskModel" "StitchDeskModel" "faultNow" "I") ∈ lw_tbl := List.mem_append_right _ (List.mem_of_getElem? (i := 1041) (by decide +kernel))
set_option maxRecDepth 20000 in
theorem k_1042 : (Cond.soleField "StitchDeskModel" "faultNow") ∈ lw_tbl := List.mem_append_right _ (List.mem_of_getElem? (i := 1042) (by decide +kernel))
set_option maxRecDepth 20000 in
theorem k_1043 : (Cond.lays "StitchDeskModel" "StitchDeskModel" "faultOne" "I") ∈ lw_tbl := List.mem_append_right _ (List.mem_of_getElem? (i := 1043) (by decide +kernel))
set_option maxRecDepth 20000 in
theorem k_1044 : (Cond.soleField "StitchDeskModel" "faultOne") ∈ lw_tbl := List.mem_append_right _ (List.mem_of_getElem? (i := 1044) (by decide +kernel))
set_option maxRecDepth 20000 in
theorem k_1045 : (Cond.lays "StitchDeskModel" "StitchDeskModel" "faultOther" "I") ∈ lw_tbl := List.mem_append_right _ (List.mem_of_getElem? (i := 1045) (by decide +kernel))
set_option maxRecDepth 20000 in
theorem k_1046 : (Cond.soleField "StitchDeskModel" "faultOther") ∈ lw_tbl := List.mem_append_right _ (List.mem_of_getElem? (i := 1046) (by decide +kernel))
set_option maxRecDepth 20000 in
theorem k_1047 : (Cond.lays "StitchDeskModel" "StitchDeskModel" "edges" "I") ∈ lw_tbl := List.mem_append_right _ (List.mem_of_getElem? (i := 1047) (by decide +kernel))
set_option maxRecDepth 20000 in
theorem k_1048 : (Cond.soleField "StitchDeskModel" "edges") ∈ lw_tbl := List.mem_append_right _ (List.mem_of_getElem? (i := 1048) (by decide +kernel))
set_option maxRecDepth 20000 in
theorem k_1049 : (Cond.laysFinal "StitchDeskModel" "StitchDeskModel" "ex" "[I") ∈ lw_tbl := List.mem_append_right _ (List.mem_of_getElem? (i := 1049) (by decide +kernel))
set_option maxRecDepth 20000 in
theorem k_1050 : (Cond.soleField "StitchDeskModel" "ex") ∈ lw_tbl := List.mem_append_right _ (List.mem_of_getElem? (i := 1050) (by decide +kernel))
set_option maxRecDepth 20000 in
theorem k_1051 : (Cond.laysFinal "StitchDeskModel" "StitchDeskModel" "ey" "[I") ∈ lw_tbl := List.mem_append_right _ (List.mem_of_getElem? (i := 1051) (by decide +kernel))
set_option maxRecDepth 20000 in
theorem k_1052 : (Cond.soleField "StitchDeskModel" "ey") ∈ lw_tbl := List.mem_append_right _ (List.mem_of_getElem? (i := 1052) (by decide +kernel))
set_option maxRecDepth 20000 in
theorem k_1053 : (Cond.laysFinal "StitchDeskModel" "StitchDeskModel" "fx" "[I") ∈ lw_tbl := List.mem_append_right _ (List.mem_of_getElem? (i := 1053) (by decide +kernel))
set_option maxRecDepth 20000 in
theorem k_1054 : (Cond.soleField "StitchDeskModel" "fx") ∈ lw_tbl := List.mem_append_right _ (List.mem_of_getElem? (i := 1054) (by decide +kernel))
set_option maxRecDepth 20000 in
theorem k_1055 : (Cond.laysFinal "StitchDeskModel" "StitchDeskModel" "fy" "[I") ∈ lw_tbl := List.mem_append_right _ (List.mem_of_getElem? (i := 1055) (by decide +kernel))
set_option maxRecDepth 20000 in
theorem k_1056 : (Cond.soleField "StitchDeskModel" "fy") ∈ lw_tbl := List.mem_append_right _ (List.mem_of_getElem? (i := 1056) (by decide +kernel))
set_option maxRecDepth 20000 in
theorem k_1057 : (Cond.laysFinal "StitchDeskModel" "StitchDeskModel" "ring" "[I") ∈ lw_tbl := List.mem_append_right _ (List.mem_of_getElem? (i := 1057) (by decide +kernel))
set_option maxRecDepth 20000 in
theorem k_1058 : (Cond.soleField "StitchDeskModel" "ring") ∈ lw_tbl := List.mem_append_right _ (List.mem_of_getElem? (i := 1058) (by decide +kernel))
set_option maxRecDepth 20000 in
theorem k_1059 : (Cond.laysFinal "StitchDeskModel" "StitchDeskModel" "place" "[I") ∈ lw_tbl := List.mem_append_right _ (List.mem_of_getElem? (i := 1059) (by decide +kernel))
set_option maxRecDepth 20000 in
theorem k_1060 : (Cond.soleField "StitchDeskModel" "place") ∈ lw_tbl := List.mem_append_right _ (List.mem_of_getElem? (i := 1060) (by decide +kernel))
set_option maxRecDepth 20000 in
theorem k_1061 : (Cond.laysFinal "StitchDeskModel" "StitchDeskModel" "odd" "[Z") ∈ lw_tbl := List.mem_append_right _ (List.mem_of_getElem? (i := 1061) (by decide +kernel))
set_option maxRecDepth 20000 in
theorem k_1062 : (Cond.soleField "StitchDeskModel" "odd") ∈ lw_tbl := List.mem_append_right _ (List.mem_of_getElem? (i := 1062) (by decide +kernel))
set_option maxRecDepth 20000 in
theorem k_1063 : (Cond.lays "StitchDeskModel" "StitchDeskModel" "records" "I") ∈ lw_tbl := List.mem_append_right _ (List.mem_of_getElem? (i := 1063) (by decide +kernel))
set_option maxRecDepth 20000 in
theorem k_1064 : (Cond.soleField "StitchDeskModel" "records") ∈ lw_tbl := List.mem_append_right _ (List.mem_of_getElem? (i := 1064) (by decide +kernel))
set_option maxRecDepth 20000 in
theorem k_1065 : (Cond.laysFinal "StitchDeskModel" "StitchDeskModel" "dx" "[I") ∈ lw_tbl := List.mem_append_right _ (List.mem_of_getElem? (i := 1065) (by decide +kernel))
set_option maxRecDepth 20000 in
theorem k_1066 : (Cond.soleField "StitchDeskModel" "dx") ∈ lw_tbl := List.mem_append_right _ (List.mem_of_getElem? (i := 1066) (by decide +kernel))
set_option maxRecDepth 20000 in
theorem k_1067 : (Cond.laysFinal "StitchDeskModel" "StitchDeskModel" "dy" "[I") ∈ lw_tbl := List.mem_append_right _ (List.mem_of_getElem? (i := 1067) (by decide +kernel))
set_option maxRecDepth 20000 in
theorem k_1068 : (Cond.soleField "StitchDeskModel" "dy") ∈ lw_tbl := List.mem_append_right _ (List.mem_of_getElem? (i := 1068) (by decide +kernel))
set_option maxRecDepth 20000 in
theorem k_1069 : (Cond.laysFinal "StitchDeskModel" "StitchDeskModel" "kind" "[I") ∈ lw_tbl := List.mem_append_right _ (List.mem_of_getElem? (i := 1069) (by decide +kernel))
set_option maxRecDepth 20000 in
theorem k_1070 : (Cond.soleField "StitchDeskModel" "kind") ∈ lw_tbl := List.mem_append_right _ (List.mem_of_getElem? (i := 1070) (by decide +kernel))
set_option maxRecDepth 20000 in
theorem k_1071 : (Cond.lays "StitchDeskModel" "StitchDeskModel" "nx" "I") ∈ lw_tbl := List.mem_append_right _ (List.mem_of_getElem? (i := 1071) (by decide +kernel))
set_option maxRecDepth 20000 in
theorem k_1072 : (Cond.soleField "StitchDeskModel" "nx") ∈ lw_tbl := List.mem_append_right _ (List.mem_of_getElem? (i := 1072) (by decide +kernel))
set_option maxRecDepth 20000 in
theorem k_1073 : (Cond.lays "StitchDeskModel" "StitchDeskModel" "ny" "I") ∈ lw_tbl := List.mem_append_right _ (List.mem_of_getElem? (i := 1073) (by decide +kernel))
set_option maxRecDepth 20000 in
theorem k_1074 : (Cond.soleField "StitchDeskModel" "ny") ∈ lw_tbl := List.mem_append_right _ (List.mem_of_getElem? (i := 1074) (by decide +kernel))
set_option maxRecDepth 20000 in
theorem k_1075 : (Cond.lays "StitchDeskModel" "StitchDeskModel" "stitching" "Z") ∈ lw_tbl := List.mem_append_right _ (List.mem_of_getElem? (i := 1075) (by decide +kernel))
set_option maxRecDepth 20000 in
theorem k_1076 : (Cond.soleField "StitchDeskModel" "stitching") ∈ lw_tbl := List.mem_append_right _ (List.mem_of_getElem? (i := 1076) (by decide +kernel))
set_option maxRecDepth 20000 in
theorem k_1077 : (Cond.lays "StitchDeskModel" "StitchDeskModel" "runs" "I") ∈ lw_tbl := List.mem_append_right _ (List.mem_of_getElem? (i := 1077) (by decide +kernel))
set_option maxRecDepth 20000 in
theorem k_1078 : (Cond.soleField "StitchDeskModel" "runs") ∈ lw_tbl := List.mem_append_right _ (List.mem_of_getElem? (i := 1078) (by decide +kernel))
set_option maxRecDepth 20000 in
theorem k_1079 : (Cond.lays "StitchDeskModel" "StitchDeskModel" "places" "I") ∈ lw_tbl := List.mem_append_right _ (List.mem_of_getElem? (i := 1079) (by decide +kernel))
set_option maxRecDepth 20000 in
theorem k_1080 : (Cond.soleField "StitchDeskModel" "places") ∈ lw_tbl := List.mem_append_right _ (List.mem_of_getElem? (i := 1080) (by decide +kernel))
set_option maxRecDepth 20000 in
theorem k_1081 : (Cond.lays "StitchDeskModel" "StitchDeskModel" "lastColour" "I") ∈ lw_tbl := List.mem_append_right _ (List.mem_of_getElem? (i := 1081) (by decide +kernel))
set_option maxRecDepth 20000 in
theorem k_1082 : (Cond.soleField "StitchDeskModel" "lastColour") ∈ lw_tbl := List.mem_append_right _ (List.mem_of_getElem? (i := 1082) (by decide +kernel))
set_option maxRecDepth 20000 in
theorem k_1083 : (Cond.lays "StitchDeskModel" "StitchDeskModel" "loaded" "I") ∈ lw_tbl := List.mem_append_right _ (List.mem_of_getElem? (i := 1083) (by decide +kernel))
set_option maxRecDepth 20000 in
theorem k_1084 : (Cond.soleField "StitchDeskModel" "loaded") ∈ lw_tbl := List.mem_append_right _ (List.mem_of_getElem? (i := 1084) (by decide +kernel))
set_option maxRecDepth 20000 in
theorem k_1085 : (Cond.laysFinal "StitchDeskModel" "StitchDeskModel" "bytes" "[I") ∈ lw_tbl := List.mem_append_right _ (List.mem_of_getElem? (i := 1085) (by decide +kernel))
set_option maxRecDepth 20000 in
theorem k_1086 : (Cond.soleField "StitchDeskModel" "bytes") ∈ lw_tbl := List.mem_append_right _ (List.mem_of_getElem? (i := 1086) (by decide +kernel))
set_option maxRecDepth 20000 in
theorem k_1087 : (Cond.laysFinal "StitchDeskModel" "StitchDeskModel" "left" "[I") ∈ lw_tbl := List.mem_append_right _ (List.mem_of_getElem? (i := 1087) (by decide +kernel))
set_option maxRecDepth 20000 in
theorem k_1088 : (Cond.soleField "StitchDeskModel" "left") ∈ lw_tbl := List.mem_append_right _ (List.mem_of_getElem? (i := 1088) (by decide +kernel))
set_option maxRecDepth 20000 in
theorem k_1089 : (Cond.laysFinal "StitchDeskModel" "StitchDeskModel" "newOrder" "[I") ∈ lw_tbl := List.mem_append_right _ (List.mem_of_getElem? (i := 1089) (by decide +kernel))
set_option maxRecDepth 20000 in
theorem k_1090 : (Cond.soleField "StitchDeskModel" "newOrder") ∈ lw_tbl := List.mem_append_right _ (List.mem_of_getElem? (i := 1090) (by decide +kernel))
set_option maxRecDepth 20000 in
theorem k_1091 : (Cond.superclass "StitchDeskModel" "java/lang/Object") ∈ lw_tbl := List.mem_append_right _ (List.mem_of_getElem? (i := 1091) (by decide +kernel))
set_option maxRecDepth 20000 in
theorem k_1092 : (Cond.arrayClass ClassFile.FieldType.boolean) ∈ lw_tbl := List.mem_append_right _ (List.mem_of_getElem? (i := 1092) (by decide +kernel))
set_option maxRecDepth 20000 in
theorem k_1093 : (Cond.methodLink "StitchDeskLaw" (64 : Nat) ({ cls := "StitchDeskModel", name := "thrown", desc := "()I" } : MethodName)) ∈ lw_tbl := List.mem_append_right _ (List.mem_of_getElem? (i := 1093) (by decide +kernel))
set_option maxRecDepth 20000 in
theorem k_1094 : (Cond.instanceMethod ({ cls := "StitchDeskModel", name := "thrown", desc := "()I" } : MethodName)) ∈ lw_tbl := List.mem_append_right _ (List.mem_of_getElem? (i := 1094) (by decide +kernel))
set_option maxRecDepth 20000 in
theorem k_1095 : (Cond.selects "StitchDeskModel" ({ cls := "StitchDeskModel", name := "thrown", desc := "()I" } : MethodName) ({ cls := "StitchDeskModel", name := "thrown", desc := "()I" } : MethodName)) ∈ lw_tbl := List.mem_append_right _ (List.mem_of_getElem? (i := 1095) (by decide +kernel))
set_option maxRecDepth 20000 in
theorem k_1096 : (Cond.code ({ cls := "StitchDeskModel", name := "thrown", desc := "()I" } : MethodName) prog_13_method_39_code (1 : Nat) (Option.some ClassFile.FieldType.int)) ∈ lw_tbl := List.mem_append_right _ (List.mem_of_getElem? (i := 1096) (by decide +kernel))
set_option maxRecDepth 20000 in
theorem k_1097 : (Cond.methodLink "StitchDeskLaw" (63 : Nat) ({ cls := "StitchDeskModel", name := "begin", desc := "(IIII)V" } : MethodName)) ∈ lw_tbl := List.mem_append_right _ (List.mem_of_getElem? (i := 1097) (by decide +kernel))
set_option maxRecDepth 20000 in
theorem k_1098 : (Cond.instanceMethod ({ cls := "StitchDeskModel", name := "begin", desc := "(IIII)V" } : MethodName)) ∈ lw_tbl := List.mem_append_right _ (List.mem_of_getElem? (i := 1098) (by decide +kernel))
set_option maxRecDepth 20000 in
theorem k_1099 : (Cond.selects "StitchDeskModel" ({ cls := "StitchDeskModel", name := "begin", desc := "(IIII)V" } : MethodName) ({ cls := "StitchDeskModel", name := "begin", desc := "(IIII)V" } : MethodName)) ∈ lw_tbl := List.mem_append_right _ (List.mem_of_getElem? (i := 1099) (by decide +kernel))
set_option maxRecDepth 20000 in
theorem k_1100 : (Cond.code ({ cls := "StitchDeskModel", name := "begin", desc := "(IIII)V" } : MethodName) prog_13_method_40_code (7 : Nat) (Option.none : Option ClassFile.FieldType)) ∈ lw_tbl := List.mem_append_right _ (List.mem_of_getElem? (i := 1100) (by decide +kernel))
set_option maxRecDepth 20000 in
theorem k_1101 : (Cond.methodLink "StitchDeskLaw" (70 : Nat) ({ cls := "StitchDeskModel", name := "corner", desc := "(III)I" } : MethodName)) ∈ lw_tbl := List.mem_append_right _ (List.mem_of_getElem? (i := 1101) (by decide +kernel))
set_option maxRecDepth 20000 in
theorem k_1102 : (Cond.instanceMethod ({ cls := "StitchDeskModel", name := "corner", desc := "(III)I" } : MethodName)) ∈ lw_tbl := List.mem_append_right _ (List.mem_of_getElem? (i := 1102) (by decide +kernel))
set_option maxRecDepth 20000 in
theorem k_1103 : (Cond.selects "StitchDeskModel" ({ cls := "StitchDeskModel", name := "corner", desc := "(III)I" } : MethodName) ({ cls := "StitchDeskModel", name := "corner", desc := "(III)I" } : MethodName)) ∈ lw_tbl := List.mem_append_right _ (List.mem_of_getElem? (i := 1103) (by decide +kernel))
set_option maxRecDepth 20000 in
theorem k_1104 : (Cond.code ({ cls := "StitchDeskModel", name := "corner", desc := "(III)I" } : MethodName) prog_13_method_42_code (4 : Nat) (Option.some ClassFile.FieldType.int)) ∈ lw_tbl := List.mem_append_right _ (List.mem_of_getElem? (i := 1104) (by decide +kernel))
set_option maxRecDepth 20000 in
theorem k_1105 : (Cond.methodLink "StitchDeskModel" (202 : Nat) ({ cls := "StitchDeskModel", name := "isPlace", desc := "(II)Z" } : MethodName)) ∈ lw_tbl := List.mem_append_right _ (List.mem_of_getElem? (i := 1105) (by decide +kernel))
set_option maxRecDepth 20000 in
theorem k_1106 : (Cond.static ({ cls := "StitchDeskModel", name := "isPlace", desc := "(II)Z" } : MethodName)) ∈ lw_tbl := List.mem_append_right _ (List.mem_of_getElem? (i := 1106) (by decide +kernel))
set_option maxRecDepth 20000 in
theorem k_1107 : (Cond.code ({ cls := "StitchDeskModel", name := "isPlace", desc := "(II)Z" } : MethodName) prog_13_method_5_code (2 : Nat) (Option.some ClassFile.FieldType.boolean)) ∈ lw_tbl := List.mem_append_right _ (List.mem_of_getElem? (i := 1107) (by decide +kernel))
set_option maxRecDepth 20000 in
theorem k_1108 : (Cond.methodLink "StitchDeskModel" (223 : Nat) ({ cls := "StitchDeskModel", name := "oneMore", desc := "(III)I" } : MethodName)) ∈ lw_tbl := List.mem_append_right _ (List.mem_of_getElem? (i := 1108) (by decide +kernel))
set_option maxRecDepth 20000 in
theorem k_1109 : (Cond.privateMethod ({ cls := "StitchDeskModel", name := "oneMore", desc := "(III)I" } : MethodName)) ∈ lw_tbl := List.mem_append_right _ (List.mem_of_getElem? (i := 1109) (by decide +kernel))
set_option maxRecDepth 20000 in
theorem k_1110 : (Cond.instanceMethod ({ cls := "StitchDeskModel", name := "oneMore", desc := "(III)I" } : MethodName)) ∈ lw_tbl := List.mem_append_right _ (List.mem_of_getElem? (i := 1110) (by decide +kernel))
set_option maxRecDepth 20000 in
theorem k_1111 : (Cond.code ({ cls := "StitchDeskModel", name := "oneMore", desc := "(III)I" } : MethodName) prog_13_method_41_code (5 : Nat) (Option.some ClassFile.FieldType.int)) ∈ lw_tbl := List.mem_append_right _ (List.mem_of_getElem? (i := 1111) (by decide +kernel))
set_option maxRecDepth 20000 in
theorem k_1112 : (Cond.methodLink "StitchDeskLaw" (73 : Nat) ({ cls := "StitchDeskModel", name := "rail", desc := "(III)I" } : MethodName)) ∈ lw_tbl := List.mem_append_right _ (List.mem_of_getElem? (i := 1112) (by decide +kernel))
set_option maxRecDepth 20000 in
theorem k_1113 : (Cond.instanceMethod ({ cls := "StitchDeskModel", name := "rail", desc := "(III)I" } : MethodName)) ∈ lw_tbl := List.mem_append_right _ (List.mem_of_getElem? (i := 1113) (by decide +kernel))
set_option maxRecDepth 20000 in
theorem k_1114 : (Cond.selects "StitchDeskModel" ({ cls := "StitchDeskModel", name := "rail", desc := "(III)I" } : MethodName) ({ cls := "StitchDeskModel", name := "rail", desc := "(III)I" } : MethodName)) ∈ lw_tbl := List.mem_append_right _ (List.mem_of_getElem? (i := 1114) (by decide +kernel))
set_option maxRecDepth 20000 in
theorem k_1115 : (Cond.code ({ cls := "StitchDeskModel", name := "rail", desc := "(III)I" } : MethodName) prog_13_method_43_code (4 : Nat) (Option.some ClassFile.FieldType.int)) ∈ lw_tbl := List.mem_append_right _ (List.mem_of_getElem? (i := 1115) (by decide +kernel))
set_option maxRecDepth 20000 in
theorem k_1116 : (Cond.methodLink "StitchDeskLaw" (77 : Nat) ({ cls := "StitchDeskModel", name := "end", desc := "()I" } : MethodName)) ∈ lw_tbl := List.mem_append_right _ (List.mem_of_getElem? (i := 1116) (by decide +kernel))
set_option maxRecDepth 20000 in
theorem k_1117 : (Cond.instanceMethod ({ cls := "StitchDeskModel", name := "end", desc := "()I" } : MethodName)) ∈ lw_tbl := List.mem_append_right _ (List.mem_of_getElem? (i := 1117) (by decide +kernel))
set_option maxRecDepth 20000 in
theorem k_1118 : (Cond.selects "StitchDeskModel" ({ cls := "StitchDeskModel", name := "end", desc := "()I" } : MethodName) ({ cls := "StitchDeskModel", name := "end", desc := "()I" } : MethodName)) ∈ lw_tbl := List.mem_append_right _ (List.mem_of_getElem? (i := 1118) (by decide +kernel))
set_option maxRecDepth 20000 in
theorem k_1119 : (Cond.code ({ cls := "StitchDeskModel", name := "end", desc := "()I" } : MethodName) prog_13_method_44_code (6 : Nat) (Option.some ClassFile.FieldType.int)) ∈ lw_tbl := List.mem_append_right _ (List.mem_of_getElem? (i := 1119) (by decide +kernel))
set_option maxRecDepth 20000 in
theorem k_1120 : (Cond.methodLink "StitchDeskModel" (226 : Nat) ({ cls := "StitchDeskModel", name := "findFault", desc := "()I" } : MethodName)) ∈ lw_tbl := List.mem_append_right _ (List.mem_of_getElem? (i := 1120) (by decide +kernel))
set_option maxRecDepth 20000 in
theorem k_1121 : (Cond.privateMethod ({ cls := "StitchDeskModel", name := "findFault", desc := "()I" } : MethodName)) ∈ lw_tbl := List.mem_append_right _ (List.mem_of_getElem? (i := 1121) (by decide +kernel))
set_option maxRecDepth 20000 in
theorem k_1122 : (Cond.instanceMethod ({ cls := "StitchDeskModel", name := "findFault", desc := "()I" } : MethodName)) ∈ lw_tbl := List.mem_append_right _ (List.mem_of_getElem? (i := 1122) (by decide +kernel))
set_option maxRecDepth 20000 in
theorem k_1123 : (Cond.code ({ cls := "StitchDeskModel", name := "findFault", desc := "()I" } : MethodName) prog_13_method_19_code (3 : Nat) (Option.some ClassFile.FieldType.int)) ∈ lw_tbl := List.mem_append_right _ (List.mem_of_getElem? (i := 1123) (by decide +kernel))
set_option maxRecDepth 20000 in
theorem k_1124 : (Cond.methodLink "StitchDeskModel" (148 : Nat) ({ cls := "StitchDeskModel", name := "flat", desc := "()Z" } : MethodName)) ∈ lw_tbl := List.mem_append_right _ (List.mem_of_getElem? (i := 1124) (by decide +kernel))
set_option maxRecDepth 20000 in
theorem k_1125 : (Cond.privateMethod ({ cls := "StitchDeskModel", name := "flat", desc := "()Z" } : MethodName)) ∈ lw_tbl := List.mem_append_right _ (List.mem_of_getElem? (i := 1125) (by decide +kernel))
set_option maxRecDepth 20000 in
theorem k_1126 : (Cond.instanceMethod ({ cls := "StitchDeskModel", name := "flat", desc := "()Z" } : MethodName)) ∈ lw_tbl := List.mem_append_right _ (List.mem_of_getElem? (i := 1126) (by decide +kernel))
set_option maxRecDepth 20000 in
theorem k_1127 : (Cond.code ({ cls := "StitchDeskModel", name := "flat", desc := "()Z" } : MethodName) prog_13_method_14_code (7 : Nat) (Option.some ClassFile.FieldType.boolean)) ∈ lw_tbl := List.mem_append_right _ (List.mem_of_getElem? (i := 1127) (by decide +kernel))
set_option maxRecDepth 20000 in
theorem k_1128 : (Cond.methodLink "StitchDeskModel" (123 : Nat) ({ cls := "StitchDeskModel", name := "turn", desc := "(IIIIII)I" } : MethodName)) ∈ lw_tbl := List.mem_append_right _ (List.mem_of_getElem? (i := 1128) (by decide +kernel))
set_option maxRecDepth 20000 in
theorem k_1129 : (Cond.static ({ cls := "StitchDeskModel", name := "turn", desc := "(IIIIII)I" } : MethodName)) ∈ lw_tbl := List.mem_append_right _ (List.mem_of_getElem? (i := 1129) (by decide +kernel))
set_option maxRecDepth 20000 in
theorem k_1130 : (Cond.code ({ cls := "StitchDeskModel", name := "turn", desc := "(IIIIII)I" } : MethodName) prog_13_method_9_code (6 : Nat) (Option.some ClassFile.FieldType.int)) ∈ lw_tbl := List.mem_append_right _ (List.mem_of_getElem? (i := 1130) (by decide +kernel))
set_option maxRecDepth 20000 in
theorem k_1131 : (Cond.methodLink "StitchDeskModel" (152 : Nat) ({ cls := "StitchDeskModel", name := "edgesOf", desc := "(I)V" } : MethodName)) ∈ lw_tbl := List.mem_append_right _ (List.mem_of_getElem? (i := 1131) (by decide +kernel))
set_option maxRecDepth 20000 in
theorem k_1132 : (Cond.privateMethod ({ cls := "StitchDeskModel", name := "edgesOf", desc := "(I)V" } : MethodName)) ∈ lw_tbl := List.mem_append_right _ (List.mem_of_getElem? (i := 1132) (by decide +kernel))
set_option maxRecDepth 20000 in
theorem k_1133 : (Cond.instanceMethod ({ cls := "StitchDeskModel", name := "edgesOf", desc := "(I)V" } : MethodName)) ∈ lw_tbl := List.mem_append_right _ (List.mem_of_getElem? (i := 1133) (by decide +kernel))
set_option maxRecDepth 20000 in
theorem k_1134 : (Cond.code ({ cls := "StitchDeskModel", name := "edgesOf", desc := "(I)V" } : MethodName) prog_13_method_7_code (7 : Nat) (Option.none : Option ClassFile.FieldType)) ∈ lw_tbl := List.mem_append_right _ (List.mem_of_getElem? (i := 1134) (by decide +kernel))
set_option maxRecDepth 20000 in
theorem k_1135 : (Cond.methodLink "StitchDeskModel" (115 : Nat) ({ cls := "StitchDeskModel", name := "railCorner", desc := "(II)I" } : MethodName)) ∈ lw_tbl := List.mem_append_right _ (List.mem_of_getElem? (i := 1135) (by decide +kernel))
set_option maxRecDepth 20000 in
theorem k_1136 : (Cond.privateMethod ({ cls := "StitchDeskModel", name := "railCorner", desc := "(II)I" } : MethodName)) ∈ lw_tbl := List.mem_append_right _ (List.mem_of_getElem? (i := 1136) (by decide +kernel))
set_option maxRecDepth 20000 in
theorem k_1137 : (Cond.instanceMethod ({ cls := "StitchDeskModel", name := "railCorner", desc := "(II)I" } : MethodName)) ∈ lw_tbl := List.mem_append_right _ (List.mem_of_getElem? (i := 1137) (by decide +kernel))
set_option maxRecDepth 20000 in
theorem k_1138 : (Cond.code ({ cls := "StitchDeskModel", name := "railCorner", desc := "(II)I" } : MethodName) prog_13_method_8_code (4 : Nat) (Option.some ClassFile.FieldType.int)) ∈ lw_tbl := List.mem_append_right _ (List.mem_of_getElem? (i := 1138) (by decide +kernel))
set_option maxRecDepth 20000 in
theorem k_1139 : (Cond.methodLink "StitchDeskModel" (119 : Nat) ({ cls := "StitchDeskModel", name := "edge", desc := "(IIIIII)V" } : MethodName)) ∈ lw_tbl := List.mem_append_right _ (List.mem_of_getElem? (i := 1139) (by decide +kernel))
set_option maxRecDepth 20000 in
theorem k_1140 : (Cond.privateMethod ({ cls := "StitchDeskModel", name := "edge", desc := "(IIIIII)V" } : MethodName)) ∈ lw_tbl := List.mem_append_right _ (List.mem_of_getElem? (i := 1140) (by decide +kernel))
set_option maxRecDepth 20000 in
theorem k_1141 : (Cond.instanceMethod ({ cls := "StitchDeskModel", name := "edge", desc := "(IIIIII)V" } : MethodName)) ∈ lw_tbl := List.mem_append_right _ (List.mem_of_getElem? (i := 1141) (by decide +kernel))
set_option maxRecDepth 20000 in
theorem k_1142 : (Cond.code ({ cls := "StitchDeskModel", name := "edge", desc := "(IIIIII)V" } : MethodName) prog_13_method_6_code (7 : Nat) (Option.none : Option ClassFile.FieldType)) ∈ lw_tbl := List.mem_append_right _ (List.mem_of_getElem? (i := 1142) (by decide +kernel))
set_option maxRecDepth 20000 in
theorem k_1143 : (Cond.methodLink "StitchDeskModel" (156 : Nat) ({ cls := "StitchDeskModel", name := "crossed", desc := "(II)Z" } : MethodName)) ∈ lw_tbl := List.mem_append_right _ (List.mem_of_getElem? (i := 1143) (by decide +kernel))
set_option maxRecDepth 20000 in
theorem k_1144 : (Cond.privateMethod ({ cls := "StitchDeskModel", name := "crossed", desc := "(II)Z" } : MethodName)) ∈ lw_tbl := List.mem_append_right _ (List.mem_of_getElem? (i := 1144) (by decide +kernel))
set_option maxRecDepth 20000 in
theorem k_1145 : (Cond.instanceMethod ({ cls := "StitchDeskModel", name := "crossed", desc := "(II)Z" } : MethodName)) ∈ lw_tbl := List.mem_append_right _ (List.mem_of_getElem? (i := 1145) (by decide +kernel))
set_option maxRecDepth 20000 in
theorem k_1146 : (Cond.code ({ cls := "StitchDeskModel", name := "crossed", desc := "(II)Z" } : MethodName) prog_13_method_18_code (4 : Nat) (Option.some ClassFile.FieldType.boolean)) ∈ lw_tbl := List.mem_append_right _ (List.mem_of_getElem? (i := 1146) (by decide +kernel))
set_option maxRecDepth 20000 in
theorem k_1147 : (Cond.methodLink "StitchDeskModel" (141 : Nat) ({ cls := "StitchDeskModel", name := "touch", desc := "(II)Z" } : MethodName)) ∈ lw_tbl := List.mem_append_right _ (List.mem_of_getElem? (i := 1147) (by decide +kernel))
set_option maxRecDepth 20000 in
theorem k_1148 : (Cond.privateMethod ({ cls := "StitchDeskModel", name := "touch", desc := "(II)Z" } : MethodName)) ∈ lw_tbl := List.mem_append_right _ (List.mem_of_getElem? (i := 1148) (by decide +kernel))
set_option maxRecDepth 20000 in
theorem k_1149 : (Cond.instanceMethod ({ cls := "StitchDeskModel", name := "touch", desc := "(II)Z" } : MethodName)) ∈ lw_tbl := List.mem_append_right _ (List.mem_of_getElem? (i := 1149) (by decide +kernel))
set_option maxRecDepth 20000 in
theorem k_1150 : (Cond.code ({ cls := "StitchDeskModel", name := "touch", desc := "(II)Z" } : MethodName) prog_13_method_16_code (7 : Nat) (Option.some ClassFile.FieldType.boolean)) ∈ lw_tbl := List.mem_append_right _ (List.mem_of_getElem? (i := 1150) (by decide +kernel))
set_option maxRecDepth 20000 in
theorem k_1151 : (Cond.methodLink "StitchDeskModel" (131 : Nat) ({ cls := "StitchDeskModel", name := "onEdge", desc := "(III)Z" } : MethodName)) ∈ lw_tbl := List.mem_append_right _ (List.mem_of_getElem? (i := 1151) (by decide +kernel))
set_option maxRecDepth 20000 in
theorem k_1152 : (Cond.privateMethod ({ cls := "StitchDeskModel", name := "onEdge", desc := "(III)Z" } : MethodName)) ∈ lw_tbl := List.mem_append_right _ (List.mem_of_getElem? (i := 1152) (by decide +kernel))
set_option maxRecDepth 20000 in
theorem k_1153 : (Cond.instanceMethod ({ cls := "StitchDeskModel", name := "onEdge", desc := "(III)Z" } : MethodName)) ∈ lw_tbl := List.mem_append_right _ (List.mem_of_getElem? (i := 1153) (by decide +kernel))
set_option maxRecDepth 20000 in
theorem k_1154 : (Cond.code ({ cls := "StitchDeskModel", name := "onEdge", desc := "(III)Z" } : MethodName) prog_13_method_10_code (4 : Nat) (Option.some ClassFile.FieldType.boolean)) ∈ lw_tbl := List.mem_append_right _ (List.mem_of_getElem? (i := 1154) (by decide +kernel))
set_option maxRecDepth 20000 in
theorem k_1155 : (Cond.methodLink "StitchDeskModel" (127 : Nat) ({ cls := "StitchDeskModel", name := "size", desc := "(I)I" } : MethodName)) ∈ lw_tbl := List.mem_append_right _ (List.mem_of_getElem? (i := 1155) (by decide +kernel))
set_option maxRecDepth 20000 in
theorem k_1156 : (Cond.static ({ cls := "StitchDeskModel", name := "size", desc := "(I)I" } : MethodName)) ∈ lw_tbl := List.mem_append_right _ (List.mem_of_getElem? (i := 1156) (by decide +kernel))
set_option maxRecDepth 20000 in
theorem k_1157 : (Cond.code ({ cls := "StitchDeskModel", name := "size", desc := "(I)I" } : MethodName) prog_13_method_3_code (1 : Nat) (Option.some ClassFile.FieldType.int)) ∈ lw_tbl := List.mem_append_right _ (List.mem_of_getElem? (i := 1157) (by decide +kernel))
set_option maxRecDepth 20000 in
theorem k_1158 : (Cond.methodLink "StitchDeskModel" (138 : Nat) ({ cls := "StitchDeskModel", name := "sign", desc := "(I)I" } : MethodName)) ∈ lw_tbl := List.mem_append_right _ (List.mem_of_getElem? (i := 1158) (by decide +kernel))
set_option maxRecDepth 20000 in
theorem k_1159 : (Cond.static ({ cls := "StitchDeskModel", name := "sign", desc := "(I)I" } : MethodName)) ∈ lw_tbl := List.mem_append_right _ (List.mem_of_getElem? (i := 1159) (by decide +kernel))
set_option maxRecDepth 20000 in
theorem k_1160 : (Cond.code ({ cls := "StitchDeskModel", name := "sign", desc := "(I)I" } : MethodName) prog_13_method_15_code (1 : Nat) (Option.some ClassFile.FieldType.int)) ∈ lw_tbl := List.mem_append_right _ (List.mem_of_getElem? (i := 1160) (by decide +kernel))
set_option maxRecDepth 20000 in
theorem k_1161 : (Cond.methodLink "StitchDeskModel" (145 : Nat) ({ cls := "StitchDeskModel", name := "folded", desc := "(II)Z" } : MethodName)) ∈ lw_tbl := List.mem_append_right _ (List.mem_of_getElem? (i := 1161) (by decide +kernel))
set_option maxRecDepth 20000 in
theorem k_1162 : (Cond.privateMethod ({ cls := "StitchDeskModel", name := "folded", desc := "(II)Z" } : MethodName)) ∈ lw_tbl := List.mem_append_right _ (List.mem_of_getElem? (i := 1162) (by decide +kernel))
set_option maxRecDepth 20000 in
theorem k_1163 : (Cond.instanceMethod ({ cls := "StitchDeskModel", name := "folded", desc := "(II)Z" } : MethodName)) ∈ lw_tbl := List.mem_append_right _ (List.mem_of_getElem? (i := 1163) (by decide +kernel))
set_option maxRecDepth 20000 in
theorem k_1164 : (Cond.code ({ cls := "StitchDeskModel", name := "folded", desc := "(II)Z" } : MethodName) prog_13_method_17_code (7 : Nat) (Option.some ClassFile.FieldType.boolean)) ∈ lw_tbl := List.mem_append_right _ (List.mem_of_getElem? (i := 1164) (by decide +kernel))
set_option maxRecDepth 20000 in
theorem k_1165 : (Cond.methodLink "StitchDeskModel" (159 : Nat) ({ cls := "StitchDeskModel", name := "inside", desc := "(III)Z" } : MethodName)) ∈ lw_tbl := List.mem_append_right _ (List.mem_of_getElem? (i := 1165) (by decide +kernel))
set_option maxRecDepth 20000 in
theorem k_1166 : (Cond.privateMethod ({ cls := "StitchDeskModel", name := "inside", desc := "(III)Z" } : MethodName)) ∈ lw_tbl := List.mem_append_right _ (List.mem_of_getElem? (i := 1166) (by decide +kernel))
set_option maxRecDepth 20000 in
theorem k_1167 : (Cond.instanceMethod ({ cls := "StitchDeskModel", name := "inside", desc := "(III)Z" } : MethodName)) ∈ lw_tbl := List.mem_append_right _ (List.mem_of_getElem? (i := 1167) (by decide +kernel))
set_option maxRecDepth 20000 in
theorem k_1168 : (Cond.code ({ cls := "StitchDeskModel", name := "inside", desc := "(III)Z" } : MethodName) prog_13_method_12_code (6 : Nat) (Option.some ClassFile.FieldType.boolean)) ∈ lw_tbl := List.mem_append_right _ (List.mem_of_getElem? (i := 1168) (by decide +kernel))
set_option maxRecDepth 20000 in
theorem k_1169 : (Cond.methodLink "StitchDeskModel" (135 : Nat) ({ cls := "StitchDeskModel", name := "passes", desc := "(III)Z" } : MethodName)) ∈ lw_tbl := List.mem_append_right _ (List.mem_of_getElem? (i := 1169) (by decide +kernel))
set_option maxRecDepth 20000 in
theorem k_1170 : (Cond.privateMethod ({ cls := "StitchDeskModel", name := "passes", desc := "(III)Z" } : MethodName)) ∈ lw_tbl := List.mem_append_right _ (List.mem_of_getElem? (i := 1170) (by decide +kernel))
set_option maxRecDepth 20000 in
theorem k_1171 : (Cond.instanceMethod ({ cls := "StitchDeskModel", name := "passes", desc := "(III)Z" } : MethodName)) ∈ lw_tbl := List.mem_append_right _ (List.mem_of_getElem? (i := 1171) (by decide +kernel))
set_option maxRecDepth 20000 in
theorem k_1172 : (Cond.code ({ cls := "StitchDeskModel", name := "passes", desc := "(III)Z" } : MethodName) prog_13_method_11_code (5 : Nat) (Option.some ClassFile.FieldType.boolean)) ∈ lw_tbl := List.mem_append_right _ (List.mem_of_getElem? (i := 1172) (by decide +kernel))
set_option maxRecDepth 20000 in
theorem k_1173 : (Cond.methodLink "StitchDeskLaw" (81 : Nat) ({ cls := "StitchDeskModel", name := "fault", desc := "(I)I" } : MethodName)) ∈ lw_tbl := List.mem_append_right _ (List.mem_of_getElem? (i := 1173) (by decide +kernel))
set_option maxRecDepth 20000 in
theorem k_1174 : (Cond.instanceMethod ({ cls := "StitchDeskModel", name := "fault", desc := "(I)I" } : MethodName)) ∈ lw_tbl := List.mem_append_right _ (List.mem_of_getElem? (i := 1174) (by decide +kernel))
set_option maxRecDepth 20000 in
theorem k_1175 : (Cond.selects "StitchDeskModel" ({ cls := "StitchDeskModel", name := "fault", desc := "(I)I" } : MethodName) ({ cls := "StitchDeskModel", name := "fault", desc := "(I)I" } : MethodName)) ∈ lw_tbl := List.mem_append_right _ (List.mem_of_getElem? (i := 1175) (by decide +kernel))
set_option maxRecDepth 20000 in
theorem k_1176 : (Cond.code ({ cls := "StitchDeskModel", name := "fault", desc := "(I)I" } : MethodName) prog_13_method_45_code (2 : Nat) (Option.some ClassFile.FieldType.int)) ∈ lw_tbl := List.mem_append_right _ (List.mem_of_getElem? (i := 1176) (by decide +kernel))
set_option maxRecDepth 20000 in
theorem k_1177 : (Cond.methodLink "StitchDeskLaw" (85 : Nat) ({ cls := "StitchDeskModel", name := "shape", desc := "(II)I" } : MethodName)) ∈ lw_tbl := List.mem_append_right _ (List.mem_of_getElem? (i := 1177) (by decide +kernel))
set_option maxRecDepth 20000 in
theorem k_1178 : (Cond.instanceMethod ({ cls := "StitchDeskModel", name := "shape", desc := "(II)I" } : MethodName)) ∈ lw_tbl := List.mem_append_right _ (List.mem_of_getElem? (i := 1178) (by decide +kernel))
set_option maxRecDepth 20000 in
theorem k_1179 : (Cond.selects "StitchDeskModel" ({ cls := "StitchDeskModel", name := "shape", desc := "(II)I" } : MethodName) ({ cls := "StitchDeskModel", name := "shape", desc := "(II)I" } : MethodName)) ∈ lw_tbl := List.mem_append_right _ (List.mem_of_getElem? (i := 1179) (by decide +kernel))
set_option maxRecDepth 20000 in
theorem k_1180 : (Cond.code ({ cls := "StitchDeskModel", name := "shape", desc := "(II)I" } : MethodName) prog_13_method_46_code (3 : Nat) (Option.some ClassFile.FieldType.int)) ∈ lw_tbl := List.mem_append_right _ (List.mem_of_getElem? (i := 1180) (by decide +kernel))
set_option maxRecDepth 20000 in
theorem k_1181 : (Cond.methodLink "StitchDeskModel" (230 : Nat) ({ cls := "StitchDeskModel", name := "runsOf", desc := "(IZ)V" } : MethodName)) ∈ lw_tbl := List.mem_append_right _ (List.mem_of_getElem? (i := 1181) (by decide +kernel))
set_option maxRecDepth 20000 in
theorem k_1182 : (Cond.privateMethod ({ cls := "StitchDeskModel", name := "runsOf", desc := "(IZ)V" } : MethodName)) ∈ lw_tbl := List.mem_append_right _ (List.mem_of_getElem? (i := 1182) (by decide +kernel))
set_option maxRecDepth 20000 in
theorem k_1183 : (Cond.instanceMethod ({ cls := "StitchDeskModel", name := "runsOf", desc := "(IZ)V" } : MethodName)) ∈ lw_tbl := List.mem_append_right _ (List.mem_of_getElem? (i := 1183) (by decide +kernel))
set_option maxRecDepth 20000 in
theorem k_1184 : (Cond.code ({ cls := "StitchDeskModel", name := "runsOf", desc := "(IZ)V" } : MethodName) prog_13_method_32_code (3 : Nat) (Option.none : Option ClassFile.FieldType)) ∈ lw_tbl := List.mem_append_right _ (List.mem_of_getElem? (i := 1184) (by decide +kernel))
set_option maxRecDepth 20000 in
theorem k_1185 : (Cond.methodLink "StitchDeskModel" (205 : Nat) ({ cls := "StitchDeskModel", name := "hatch", desc := "(I)V" } : MethodName)) ∈ lw_tbl := List.mem_append_right _ (List.mem_of_getElem? (i := 1185) (by decide +kernel))
set_option maxRecDepth 20000 in
theorem k_1186 : (Cond.privateMethod ({ cls := "StitchDeskModel", name := "hatch", desc := "(I)V" } : MethodName)) ∈ lw_tbl := List.mem_append_right _ (List.mem_of_getElem? (i := 1186) (by decide +kernel))
set_option maxRecDepth 20000 in
theorem k_1187 : (Cond.instanceMethod ({ cls := "StitchDeskModel", name := "hatch", desc := "(I)V" } : MethodName)) ∈ lw_tbl := List.mem_append_right _ (List.mem_of_getElem? (i := 1187) (by decide +kernel))
set_option maxRecDepth 20000 in
theorem k_1188 : (Cond.code ({ cls := "StitchDeskModel", name := "hatch", desc := "(I)V" } : MethodName) prog_13_method_30_code (7 : Nat) (Option.none : Option ClassFile.FieldType)) ∈ lw_tbl := List.mem_append_right _ (List.mem_of_getElem? (i := 1188) (by decide +kernel))
set_option maxRecDepth 20000 in
theorem k_1189 : (Cond.methodLink "StitchDeskModel" (168 : Nat) ({ cls := "StitchDeskModel", name := "down", desc := "(II)I" } : MethodName)) ∈ lw_tbl := List.mem_append_right _ (List.mem_of_getElem? (i := 1189) (by decide +kernel))
set_option maxRecDepth 20000 in
theorem k_1190 : (Cond.static ({ cls := "StitchDeskModel", name := "down", desc := "(II)I" } : MethodName)) ∈ lw_tbl := List.mem_append_right _ (List.mem_of_getElem? (i := 1190) (by decide +kernel))
set_option maxRecDepth 20000 in
theorem k_1191 : (Cond.code ({ cls := "StitchDeskModel", name := "down", desc := "(II)I" } : MethodName) prog_13_method_2_code (3 : Nat) (Option.some ClassFile.FieldType.int)) ∈ lw_tbl := List.mem_append_right _ (List.mem_of_getElem? (i := 1191) (by decide +kernel))
set_option maxRecDepth 20000 in
theorem k_1192 : (Cond.methodLink "StitchDeskModel" (192 : Nat) ({ cls := "StitchDeskModel", name := "line", desc := "(IIIZ)V" } : MethodName)) ∈ lw_tbl := List.mem_append_right _ (List.mem_of_getElem? (i := 1192) (by decide +kernel))
set_option maxRecDepth 20000 in
theorem k_1193 : (Cond.privateMethod ({ cls := "StitchDeskModel", name := "line", desc := "(IIIZ)V" } : MethodName)) ∈ lw_tbl := List.mem_append_right _ (List.mem_of_getElem? (i := 1193) (by decide +kernel))
set_option maxRecDepth 20000 in
theorem k_1194 : (Cond.instanceMethod ({ cls := "StitchDeskModel", name := "line", desc := "(IIIZ)V" } : MethodName)) ∈ lw_tbl := List.mem_append_right _ (List.mem_of_getElem? (i := 1194) (by decide +kernel))
set_option maxRecDepth 20000 in
theorem k_1195 : (Cond.code ({ cls := "StitchDeskModel", name := "line", desc := "(IIIZ)V" } : MethodName) prog_13_method_31_code (12 : Nat) (Option.none : Option ClassFile.FieldType)) ∈ lw_tbl := List.mem_append_right _ (List.mem_of_getElem? (i := 1195) (by decide +kernel))
set_option maxRecDepth 20000 in
theorem k_1196 : (Cond.methodLink "StitchDeskModel" (195 : Nat) ({ cls := "StitchDeskModel", name := "xOf", desc := "(III)I" } : MethodName)) ∈ lw_tbl := List.mem_append_right _ (List.mem_of_getElem? (i := 1196) (by decide +kernel))
set_option maxRecDepth 20000 in
theorem k_1197 : (Cond.static ({ cls := "StitchDeskModel", name := "xOf", desc := "(III)I" } : MethodName)) ∈ lw_tbl := List.mem_append_right _ (List.mem_of_getElem? (i := 1197) (by decide +kernel))
set_option maxRecDepth 20000 in
theorem k_1198 : (Cond.code ({ cls := "StitchDeskModel", name := "xOf", desc := "(III)I" } : MethodName) prog_13_method_28_code (3 : Nat) (Option.some ClassFile.FieldType.int)) ∈ lw_tbl := List.mem_append_right _ (List.mem_of_getElem? (i := 1198) (by decide +kernel))
set_option maxRecDepth 20000 in
theorem k_1199 : (Cond.methodLink "StitchDeskModel" (199 : Nat) ({ cls := "StitchDeskModel", name := "yOf", desc := "(III)I" } : MethodName)) ∈ lw_tbl := List.mem_append_right _ (List.mem_of_getElem? (i := 1199) (by decide +kernel))
set_option maxRecDepth 20000 in
theorem k_1200 : (Cond.static ({ cls := "StitchDeskModel", name := "yOf", desc := "(III)I" } : MethodName)) ∈ lw_tbl := List.mem_append_right _ (List.mem_of_getElem? (i := 1200) (by decide +kernel))
set_option maxRecDepth 20000 in
theorem k_1201 : (Cond.code ({ cls := "StitchDeskModel", name := "yOf", desc := "(III)I" } : MethodName) prog_13_method_29_code (3 : Nat) (Option.some ClassFile.FieldType.int)) ∈ lw_tbl := List.mem_append_right _ (List.mem_of_getElem? (i := 1201) (by decide +kernel))
set_option maxRecDepth 20000 in
theorem k_1202 : (Cond.methodLink "StitchDeskModel" (178 : Nat) ({ cls := "StitchDeskModel", name := "in", desc := "(II)Z" } : MethodName)) ∈ lw_tbl := List.mem_append_right _ (List.mem_of_getElem? (i := 1202) (by decide +kernel))
set_option maxRecDepth 20000 in
theorem k_1203 : (Cond.privateMethod ({ cls := "StitchDeskModel", name := "in", desc := "(II)Z" } : MethodName)) ∈ lw_tbl := List.mem_append_right _ (List.mem_of_getElem? (i := 1203) (by decide +kernel))
set_option maxRecDepth 20000 in
theorem k_1204 : (Cond.instanceMethod ({ cls := "StitchDeskModel", name := "in", desc := "(II)Z" } : MethodName)) ∈ lw_tbl := List.mem_append_right _ (List.mem_of_getElem? (i := 1204) (by decide +kernel))
set_option maxRecDepth 20000 in
theorem k_1205 : (Cond.code ({ cls := "StitchDeskModel", name := "in", desc := "(II)Z" } : MethodName) prog_13_method_13_code (4 : Nat) (Option.some ClassFile.FieldType.boolean)) ∈ lw_tbl := List.mem_append_right _ (List.mem_of_getElem? (i := 1205) (by decide +kernel))
set_option maxRecDepth 20000 in
theorem k_1206 : (Cond.methodLink "StitchDeskModel" (188 : Nat) ({ cls := "StitchDeskModel", name := "comes", desc := "(IIIZ)V" } : MethodName)) ∈ lw_tbl := List.mem_append_right _ (List.mem_of_getElem? (i := 1206) (by decide +kernel))
set_option maxRecDepth 20000 in
theorem k_1207 : (Cond.privateMethod ({ cls := "StitchDeskModel", name := "comes", desc := "(IIIZ)V" } : MethodName)) ∈ lw_tbl := List.mem_append_right _ (List.mem_of_getElem? (i := 1207) (by decide +kernel))
set_option maxRecDepth 20000 in
theorem k_1208 : (Cond.instanceMethod ({ cls := "StitchDeskModel", name := "comes", desc := "(IIIZ)V" } : MethodName)) ∈ lw_tbl := List.mem_append_right _ (List.mem_of_getElem? (i := 1208) (by decide +kernel))
set_option maxRecDepth 20000 in
theorem k_1209 : (Cond.code ({ cls := "StitchDeskModel", name := "comes", desc := "(IIIZ)V" } : MethodName) prog_13_method_25_code (5 : Nat) (Option.none : Option ClassFile.FieldType)) ∈ lw_tbl := List.mem_append_right _ (List.mem_of_getElem? (i := 1209) (by decide +kernel))
set_option maxRecDepth 20000 in
theorem k_1210 : (Cond.methodLink "StitchDeskModel" (175 : Nat) ({ cls := "StitchDeskModel", name := "move", desc := "(III)V" } : MethodName)) ∈ lw_tbl := List.mem_append_right _ (List.mem_of_getElem? (i := 1210) (by decide +kernel))
set_option maxRecDepth 20000 in
theorem k_1211 : (Cond.privateMethod ({ cls := "StitchDeskModel", name := "move", desc := "(III)V" } : MethodName)) ∈ lw_tbl := List.mem_append_right _ (List.mem_of_getElem? (i := 1211) (by decide +kernel))
set_option maxRecDepth 20000 in
theorem k_1212 : (Cond.instanceMethod ({ cls := "StitchDeskModel", name := "move", desc := "(III)V" } : MethodName)) ∈ lw_tbl := List.mem_append_right _ (List.mem_of_getElem? (i := 1212) (by decide +kernel))
set_option maxRecDepth 20000 in
theorem k_1213 : (Cond.code ({ cls := "StitchDeskModel", name := "move", desc := "(III)V" } : MethodName) prog_13_method_22_code (8 : Nat) (Option.none : Option ClassFile.FieldType)) ∈ lw_tbl := List.mem_append_right _ (List.mem_of_getElem? (i := 1213) (by decide +kernel))
set_option maxRecDepth 20000 in
theorem k_1214 : (Cond.methodLink "StitchDeskModel" (165 : Nat) ({ cls := "StitchDeskModel", name := "stepsTo", desc := "(II)I" } : MethodName)) ∈ lw_tbl := List.mem_append_right _ (List.mem_of_getElem? (i := 1214) (by decide +kernel))
set_option maxRecDepth 20000 in
theorem k_1215 : (Cond.privateMethod ({ cls := "StitchDeskModel", name := "stepsTo", desc := "(II)I" } : MethodName)) ∈ lw_tbl := List.mem_append_right _ (List.mem_of_getElem? (i := 1215) (by decide +kernel))
set_option maxRecDepth 20000 in
theorem k_1216 : (Cond.instanceMethod ({ cls := "StitchDeskModel", name := "stepsTo", desc := "(II)I" } : MethodName)) ∈ lw_tbl := List.mem_append_right _ (List.mem_of_getElem? (i := 1216) (by decide +kernel))
set_option maxRecDepth 20000 in
theorem k_1217 : (Cond.code ({ cls := "StitchDeskModel", name := "stepsTo", desc := "(II)I" } : MethodName) prog_13_method_21_code (3 : Nat) (Option.some ClassFile.FieldType.int)) ∈ lw_tbl := List.mem_append_right _ (List.mem_of_getElem? (i := 1217) (by decide +kernel))
set_option maxRecDepth 20000 in
theorem k_1218 : (Cond.methodLink "StitchDeskModel" (162 : Nat) ({ cls := "StitchDeskModel", name := "greater", desc := "(II)I" } : MethodName)) ∈ lw_tbl := List.mem_append_right _ (List.mem_of_getElem? (i := 1218) (by decide +kernel))
set_option maxRecDepth 20000 in
theorem k_1219 : (Cond.static ({ cls := "StitchDeskModel", name := "greater", desc := "(II)I" } : MethodName)) ∈ lw_tbl := List.mem_append_right _ (List.mem_of_getElem? (i := 1219) (by decide +kernel))
set_option maxRecDepth 20000 in
theorem k_1220 : (Cond.code ({ cls := "StitchDeskModel", name := "greater", desc := "(II)I" } : MethodName) prog_13_method_4_code (2 : Nat) (Option.some ClassFile.FieldType.int)) ∈ lw_tbl := List.mem_append_right _ (List.mem_of_getElem? (i := 1220) (by decide +kernel))
set_option maxRecDepth 20000 in
theorem k_1221 : (Cond.methodLink "StitchDeskModel" (171 : Nat) ({ cls := "StitchDeskModel", name := "step", desc := "(III)V" } : MethodName)) ∈ lw_tbl := List.mem_append_right _ (List.mem_of_getElem? (i := 1221) (by decide +kernel))
set_option maxRecDepth 20000 in
theorem k_1222 : (Cond.privateMethod ({ cls := "StitchDeskModel", name := "step", desc := "(III)V" } : MethodName)) ∈ lw_tbl := List.mem_append_right _ (List.mem_of_getElem? (i := 1222) (by decide +kernel))
set_option maxRecDepth 20000 in
theorem k_1223 : (Cond.instanceMethod ({ cls := "StitchDeskModel", name := "step", desc := "(III)V" } : MethodName)) ∈ lw_tbl := List.mem_append_right _ (List.mem_of_getElem? (i := 1223) (by decide +kernel))
set_option maxRecDepth 20000 in
theorem k_1224 : (Cond.code ({ cls := "StitchDeskModel", name := "step", desc := "(III)V" } : MethodName) prog_13_method_20_code (4 : Nat) (Option.none : Option ClassFile.FieldType)) ∈ lw_tbl := List.mem_append_right _ (List.mem_of_getElem? (i := 1224) (by decide +kernel))
set_option maxRecDepth 20000 in
theorem k_1225 : (Cond.methodLink "StitchDeskModel" (181 : Nat) ({ cls := "StitchDeskModel", name := "leap", desc := "(II)V" } : MethodName)) ∈ lw_tbl := List.mem_append_right _ (List.mem_of_getElem? (i := 1225) (by decide +kernel))
set_option maxRecDepth 20000 in
theorem k_1226 : (Cond.privateMethod ({ cls := "StitchDeskModel", name := "leap", desc := "(II)V" } : MethodName)) ∈ lw_tbl := List.mem_append_right _ (List.mem_of_getElem? (i := 1226) (by decide +kernel))
set_option maxRecDepth 20000 in
theorem k_1227 : (Cond.instanceMethod ({ cls := "StitchDeskModel", name := "leap", desc := "(II)V" } : MethodName)) ∈ lw_tbl := List.mem_append_right _ (List.mem_of_getElem? (i := 1227) (by decide +kernel))
set_option maxRecDepth 20000 in
theorem k_1228 : (Cond.code ({ cls := "StitchDeskModel", name := "leap", desc := "(II)V" } : MethodName) prog_13_method_23_code (3 : Nat) (Option.none : Option ClassFile.FieldType)) ∈ lw_tbl := List.mem_append_right _ (List.mem_of_getElem? (i := 1228) (by decide +kernel))
set_option maxRecDepth 20000 in
theorem k_1229 : (Cond.methodLink "StitchDeskModel" (185 : Nat) ({ cls := "StitchDeskModel", name := "stepsIn", desc := "(II)Z" } : MethodName)) ∈ lw_tbl := List.mem_append_right _ (List.mem_of_getElem? (i := 1229) (by decide +kernel))
set_option maxRecDepth 20000 in
theorem k_1230 : (Cond.privateMethod ({ cls := "StitchDeskModel", name := "stepsIn", desc := "(II)Z" } : MethodName)) ∈ lw_tbl := List.mem_append_right _ (List.mem_of_getElem? (i := 1230) (by decide +kernel))
set_option maxRecDepth 20000 in
theorem k_1231 : (Cond.instanceMethod ({ cls := "StitchDeskModel", name := "stepsIn", desc := "(II)Z" } : MethodName)) ∈ lw_tbl := List.mem_append_right _ (List.mem_of_getElem? (i := 1231) (by decide +kernel))
set_option maxRecDepth 20000 in
theorem k_1232 : (Cond.code ({ cls := "StitchDeskModel", name := "stepsIn", desc := "(II)Z" } : MethodName) prog_13_method_24_code (5 : Nat) (Option.some ClassFile.FieldType.boolean)) ∈ lw_tbl := List.mem_append_right _ (List.mem_of_getElem? (i := 1232) (by decide +kernel))
set_option maxRecDepth 20000 in
theorem k_1233 : (Cond.methodLink "StitchDeskModel" (208 : Nat) ({ cls := "StitchDeskModel", name := "satin", desc := "(I)V" } : MethodName)) ∈ lw_tbl := List.mem_append_right _ (List.mem_of_getElem? (i := 1233) (by decide +kernel))
set_option maxRecDepth 20000 in
theorem k_1234 : (Cond.privateMethod ({ cls := "StitchDeskModel", name := "satin", desc := "(I)V" } : MethodName)) ∈ lw_tbl := List.mem_append_right _ (List.mem_of_getElem? (i := 1234) (by decide +kernel))
set_option maxRecDepth 20000 in
theorem k_1235 : (Cond.instanceMethod ({ cls := "StitchDeskModel", name := "satin", desc := "(I)V" } : MethodName)) ∈ lw_tbl := List.mem_append_right _ (List.mem_of_getElem? (i := 1235) (by decide +kernel))
set_option maxRecDepth 20000 in
theorem k_1236 : (Cond.code ({ cls := "StitchDeskModel", name := "satin", desc := "(I)V" } : MethodName) prog_13_method_27_code (13 : Nat) (Option.none : Option ClassFile.FieldType)) ∈ lw_tbl := List.mem_append_right _ (List.mem_of_getElem? (i := 1236) (by decide +kernel))
set_option maxRecDepth 20000 in
theorem k_1237 : (Cond.methodLink "StitchDeskModel" (211 : Nat) ({ cls := "StitchDeskModel", name := "outline", desc := "(I)V" } : MethodName)) ∈ lw_tbl := List.mem_append_right _ (List.mem_of_getElem? (i := 1237) (by decide +kernel))
set_option maxRecDepth 20000 in
theorem k_1238 : (Cond.privateMethod ({ cls := "StitchDeskModel", name := "outline", desc := "(I)V" } : MethodName)) ∈ lw_tbl := List.mem_append_right _ (List.mem_of_getElem? (i := 1238) (by decide +kernel))
set_option maxRecDepth 20000 in
theorem k_1239 : (Cond.instanceMethod ({ cls := "StitchDeskModel", name := "outline", desc := "(I)V" } : MethodName)) ∈ lw_tbl := List.mem_append_right _ (List.mem_of_getElem? (i := 1239) (by decide +kernel))
set_option maxRecDepth 20000 in
theorem k_1240 : (Cond.code ({ cls := "StitchDeskModel", name := "outline", desc := "(I)V" } : MethodName) prog_13_method_26_code (6 : Nat) (Option.none : Option ClassFile.FieldType)) ∈ lw_tbl := List.mem_append_right _ (List.mem_of_getElem? (i := 1240) (by decide +kernel))
set_option maxRecDepth 20000 in
theorem k_1241 : (Cond.methodLink "StitchDeskLaw" (89 : Nat) ({ cls := "StitchDeskModel", name := "count", desc := "(I)I" } : MethodName)) ∈ lw_tbl := List.mem_append_right _ (List.mem_of_getElem? (i := 1241) (by decide +kernel))
set_option maxRecDepth 20000 in
theorem k_1242 : (Cond.instanceMethod ({ cls := "StitchDeskModel", name := "count", desc := "(I)I" } : MethodName)) ∈ lw_tbl := List.mem_append_right _ (List.mem_of_getElem? (i := 1242) (by decide +kernel))
set_option maxRecDepth 20000 in
theorem k_1243 : (Cond.selects "StitchDeskModel" ({ cls := "StitchDeskModel", name := "count", desc := "(I)I" } : MethodName) ({ cls := "StitchDeskModel", name := "count", desc := "(I)I" } : MethodName)) ∈ lw_tbl := List.mem_append_right _ (List.mem_of_getElem? (i := 1243) (by decide +kernel))
set_option maxRecDepth 20000 in
theorem k_1244 : (Cond.code ({ cls := "StitchDeskModel", name := "count", desc := "(I)I" } : MethodName) prog_13_method_47_code (2 : Nat) (Option.some ClassFile.FieldType.int)) ∈ lw_tbl := List.mem_append_right _ (List.mem_of_getElem? (i := 1244) (by decide +kernel))
set_option maxRecDepth 20000 in
theorem k_1245 : (Cond.methodLink "StitchDeskLaw" (93 : Nat) ({ cls := "StitchDeskModel", name := "stitch", desc := "()I" } : MethodName)) ∈ lw_tbl := List.mem_append_right _ (List.mem_of_getElem? (i := 1245) (by decide +kernel))
set_option maxRecDepth 20000 in
theorem k_1246 : (Cond.instanceMethod ({ cls := "StitchDeskModel", name := "stitch", desc := "()I" } : MethodName)) ∈ lw_tbl := List.mem_append_right _ (List.mem_of_getElem? (i := 1246) (by decide +kernel))
set_option maxRecDepth 20000 in
theorem k_1247 : (Cond.selects "StitchDeskModel" ({ cls := "StitchDeskModel", name := "stitch", desc := "()I" } : MethodName) ({ cls := "StitchDeskModel", name := "stitch", desc := "()I" } : MethodName)) ∈ lw_tbl := List.mem_append_right _ (List.mem_of_getElem? (i := 1247) (by decide +kernel))
set_option maxRecDepth 20000 in
theorem k_1248 : (Cond.code ({ cls := "StitchDeskModel", name := "stitch", desc := "()I" } : MethodName) prog_13_method_48_code (2 : Nat) (Option.some ClassFile.FieldType.int)) ∈ lw_tbl := List.mem_append_right _ (List.mem_of_getElem? (i := 1248) (by decide +kernel))
set_option maxRecDepth 20000 in
theorem k_1249 : (Cond.methodLink "StitchDeskLaw" (96 : Nat) ({ cls := "StitchDeskModel", name := "record", desc := "(II)I" } : MethodName)) ∈ lw_tbl := List.mem_append_right _ (List.mem_of_getElem? (i := 1249) (by decide +kernel))
set_option maxRecDepth 20000 in
theorem k_1250 : (Cond.instanceMethod ({ cls := "StitchDeskModel", name := "record", desc := "(II)I" } : MethodName)) ∈ lw_tbl := List.mem_append_right _ (List.mem_of_getElem? (i := 1250) (by decide +kernel))
set_option maxRecDepth 20000 in
theorem k_1251 : (Cond.selects "StitchDeskModel" ({ cls := "StitchDeskModel", name := "record", desc := "(II)I" } : MethodName) ({ cls := "StitchDeskModel", name := "record", desc := "(II)I" } : MethodName)) ∈ lw_tbl := List.mem_append_right _ (List.mem_of_getElem? (i := 1251) (by decide +kernel))
set_option maxRecDepth 20000 in
theorem k_1252 : (Cond.code ({ cls := "StitchDeskModel", name := "record", desc := "(II)I" } : MethodName) prog_13_method_49_code (3 : Nat) (Option.some ClassFile.FieldType.int)) ∈ lw_tbl := List.mem_append_right _ (List.mem_of_getElem? (i := 1252) (by decide +kernel))
set_option maxRecDepth 20000 in
theorem k_1253 : (Cond.methodLink "StitchDeskLaw" (100 : Nat) ({ cls := "StitchDeskModel", name := "byteAt", desc := "(I)I" } : MethodName)) ∈ lw_tbl := List.mem_append_right _ (List.mem_of_getElem? (i := 1253) (by decide +kernel))
set_option maxRecDepth 20000 in
theorem k_1254 : (Cond.instanceMethod ({ cls := "StitchDeskModel", name := "byteAt", desc := "(I)I" } : MethodName)) ∈ lw_tbl := List.mem_append_right _ (List.mem_of_getElem? (i := 1254) (by decide +kernel))
set_option maxRecDepth 20000 in
theorem k_1255 : (Cond.selects "StitchDeskModel" ({ cls := "StitchDeskModel", name := "byteAt", desc := "(I)I" } : MethodName) ({ cls := "StitchDeskModel", name := "byteAt", desc := "(I)I" } : MethodName)) ∈ lw_tbl := List.mem_append_right _ (List.mem_of_getElem? (i := 1255) (by decide +kernel))
set_option maxRecDepth 20000 in
theorem k_1256 : (Cond.code ({ cls := "StitchDeskModel", name := "byteAt", desc := "(I)I" } : MethodName) prog_13_method_50_code (4 : Nat) (Option.some ClassFile.FieldType.int)) ∈ lw_tbl := List.mem_append_right _ (List.mem_of_getElem? (i := 1256) (by decide +kernel))
set_option maxRecDepth 20000 in
theorem k_1257 : (Cond.methodLink "StitchDeskModel" (234 : Nat) ({ cls := "StitchDeskModel", name := "digits", desc := "(I)I" } : MethodName)) ∈ lw_tbl := List.mem_append_right _ (List.mem_of_getElem? (i := 1257) (by decide +kernel))
set_option maxRecDepth 20000 in
theorem k_1258 : (Cond.static ({ cls := "StitchDeskModel", name := "digits", desc := "(I)I" } : MethodName)) ∈ lw_tbl := List.mem_append_right _ (List.mem_of_getElem? (i := 1258) (by decide +kernel))
set_option maxRecDepth 20000 in
theorem k_1259 : (Cond.code ({ cls := "StitchDeskModel", name := "digits", desc := "(I)I" } : MethodName) prog_13_method_33_code (5 : Nat) (Option.some ClassFile.FieldType.int)) ∈ lw_tbl := List.mem_append_right _ (List.mem_of_getElem? (i := 1259) (by decide +kernel))
set_option maxRecDepth 20000 in
theorem k_1260 : (Cond.methodLink "StitchDeskLaw" (103 : Nat) ({ cls := "StitchDeskModel", name := "load", desc := "(II)I" } : MethodName)) ∈ lw_tbl := List.mem_append_right _ (List.mem_of_getElem? (i := 1260) (by decide +kernel))
set_option maxRecDepth 20000 in
theorem k_1261 : (Cond.instanceMethod ({ cls := "StitchDeskModel", name := "load", desc := "(II)I" } : MethodName)) ∈ lw_tbl := List.mem_append_right _ (List.mem_of_getElem? (i := 1261) (by decide +kernel))
set_option maxRecDepth 20000 in
theorem k_1262 : (Cond.selects "StitchDeskModel" ({ cls := "StitchDeskModel", name := "load", desc := "(II)I" } : MethodName) ({ cls := "StitchDeskModel", name := "load", desc := "(II)I" } : MethodName)) ∈ lw_tbl := List.mem_append_right _ (List.mem_of_getElem? (i := 1262) (by decide +kernel))
set_option maxRecDepth 20000 in
theorem k_1263 : (Cond.code ({ cls := "StitchDeskModel", name := "load", desc := "(II)I" } : MethodName) prog_13_method_51_code (3 : Nat) (Option.some ClassFile.FieldType.int)) ∈ lw_tbl := List.mem_append_right _ (List.mem_of_getElem? (i := 1263) (by decide +kernel))
set_option maxRecDepth 20000 in
theorem k_1264 : (Cond.methodLink "StitchDeskLaw" (107 : Nat) ({ cls := "StitchDeskModel", name := "decode", desc := "()I" } : MethodName)) ∈ lw_tbl := List.mem_append_right _ (List.mem_of_getElem? (i := 1264) (by decide +kernel))
set_option maxRecDepth 20000 in
theorem k_1265 : (Cond.instanceMethod ({ cls := "StitchDeskModel", name := "decode", desc := "()I" } : MethodName)) ∈ lw_tbl := List.mem_append_right _ (List.mem_of_getElem? (i := 1265) (by decide +kernel))
set_option maxRecDepth 20000 in
theorem k_1266 : (Cond.selects "StitchDeskModel" ({ cls := "StitchDeskModel", name := "decode", desc := "()I" } : MethodName) ({ cls := "StitchDeskModel", name := "decode", desc := "()I" } : MethodName)) ∈ lw_tbl := List.mem_append_right _ (List.mem_of_getElem? (i := 1266) (by decide +kernel))
set_option maxRecDepth 20000 in
theorem k_1267 : (Cond.code ({ cls := "StitchDeskModel", name := "decode", desc := "()I" } : MethodName) prog_13_method_53_code (3 : Nat) (Option.some ClassFile.FieldType.int)) ∈ lw_tbl := List.mem_append_right _ (List.mem_of_getElem? (i := 1267) (by decide +kernel))
set_option maxRecDepth 20000 in
theorem k_1268 : (Cond.methodLink "StitchDeskModel" (237 : Nat) ({ cls := "StitchDeskModel", name := "group", desc := "(I)I" } : MethodName)) ∈ lw_tbl := List.mem_append_right _ (List.mem_of_getElem? (i := 1268) (by decide +kernel))
set_option maxRecDepth 20000 in
theorem k_1269 : (Cond.privateMethod ({ cls := "StitchDeskModel", name := "group", desc := "(I)I" } : MethodName)) ∈ lw_tbl := List.mem_append_right _ (List.mem_of_getElem? (i := 1269) (by decide +kernel))
set_option maxRecDepth 20000 in
theorem k_1270 : (Cond.instanceMethod ({ cls := "StitchDeskModel", name := "group", desc := "(I)I" } : MethodName)) ∈ lw_tbl := List.mem_append_right _ (List.mem_of_getElem? (i := 1270) (by decide +kernel))
set_option maxRecDepth 20000 in
theorem k_1271 : (Cond.code ({ cls := "StitchDeskModel", name := "group", desc := "(I)I" } : MethodName) prog_13_method_52_code (2 : Nat) (Option.some ClassFile.FieldType.int)) ∈ lw_tbl := List.mem_append_right _ (List.mem_of_getElem? (i := 1271) (by decide +kernel))
set_option maxRecDepth 20000 in
theorem k_1272 : (Cond.methodLink "StitchDeskModel" (240 : Nat) ({ cls := "StitchDeskModel", name := "number", desc := "(I)I" } : MethodName)) ∈ lw_tbl := List.mem_append_right _ (List.mem_of_getElem? (i := 1272) (by decide +kernel))
set_option maxRecDepth 20000 in
theorem k_1273 : (Cond.static ({ cls := "StitchDeskModel", name := "number", desc := "(I)I" } : MethodName)) ∈ lw_tbl := List.mem_append_right _ (List.mem_of_getElem? (i := 1273) (by decide +kernel))
set_option maxRecDepth 20000 in
theorem k_1274 : (Cond.code ({ cls := "StitchDeskModel", name := "number", desc := "(I)I" } : MethodName) prog_13_method_34_code (5 : Nat) (Option.some ClassFile.FieldType.int)) ∈ lw_tbl := List.mem_append_right _ (List.mem_of_getElem? (i := 1274) (by decide +kernel))
set_option maxRecDepth 20000 in
theorem k_1275 : (Cond.methodLink "StitchDeskLaw" (111 : Nat) ({ cls := "StitchDeskModel", name := "reorder", desc := "()I" } : MethodName)) ∈ lw_tbl := List.mem_append_right _ (List.mem_of_getElem? (i := 1275) (by decide +kernel))
set_option maxRecDepth 20000 in
theorem k_1276 : (Cond.instanceMethod ({ cls := "StitchDeskModel", name := "reorder", desc := "()I" } : MethodName)) ∈ lw_tbl := List.mem_append_right _ (List.mem_of_getElem? (i := 1276) (by decide +kernel))
set_option maxRecDepth 20000 in
theorem k_1277 : (Cond.selects "StitchDeskModel" ({ cls := "StitchDeskModel", name := "reorder", desc := "()I" } : MethodName) ({ cls := "StitchDeskModel", name := "reorder", desc := "()I" } : MethodName)) ∈ lw_tbl := List.mem_append_right _ (List.mem_of_getElem? (i := 1277) (by decide +kernel))
set_option maxRecDepth 20000 in
theorem k_1278 : (Cond.code ({ cls := "StitchDeskModel", name := "reorder", desc := "()I" } : MethodName) prog_13_method_54_code (6 : Nat) (Option.some ClassFile.FieldType.int)) ∈ lw_tbl := List.mem_append_right _ (List.mem_of_getElem? (i := 1278) (by decide +kernel))
set_option maxRecDepth 20000 in
theorem k_1279 : (Cond.methodLink "StitchDeskModel" (243 : Nat) ({ cls := "StitchDeskModel", name := "findLeft", desc := "()V" } : MethodName)) ∈ lw_tbl := List.mem_append_right _ (List.mem_of_getElem? (i := 1279) (by decide +kernel))
set_option maxRecDepth 20000 in
theorem k_1280 : (Cond.privateMethod ({ cls := "StitchDeskModel", name := "findLeft", desc := "()V" } : MethodName)) ∈ lw_tbl := List.mem_append_right _ (List.mem_of_getElem? (i := 1280) (by decide +kernel))
set_option maxRecDepth 20000 in
theorem k_1281 : (Cond.instanceMethod ({ cls := "StitchDeskModel", name := "findLeft", desc := "()V" } : MethodName)) ∈ lw_tbl := List.mem_append_right _ (List.mem_of_getElem? (i := 1281) (by decide +kernel))
set_option maxRecDepth 20000 in
theorem k_1282 : (Cond.code ({ cls := "StitchDeskModel", name := "findLeft", desc := "()V" } : MethodName) prog_13_method_38_code (6 : Nat) (Option.none : Option ClassFile.FieldType)) ∈ lw_tbl := List.mem_append_right _ (List.mem_of_getElem? (i := 1282) (by decide +kernel))
set_option maxRecDepth 20000 in
theorem k_1283 : (Cond.methodLink "StitchDeskModel" (217 : Nat) ({ cls := "StitchDeskModel", name := "mayCome", desc := "(II)Z" } : MethodName)) ∈ lw_tbl := List.mem_append_right _ (List.mem_of_getElem? (i := 1283) (by decide +kernel))
set_option maxRecDepth 20000 in
theorem k_1284 : (Cond.privateMethod ({ cls := "StitchDeskModel", name := "mayCome", desc := "(II)Z" } : MethodName)) ∈ lw_tbl := List.mem_append_right _ (List.mem_of_getElem? (i := 1284) (by decide +kernel))
set_option maxRecDepth 20000 in
theorem k_1285 : (Cond.instanceMethod ({ cls := "StitchDeskModel", name := "mayCome", desc := "(II)Z" } : MethodName)) ∈ lw_tbl := List.mem_append_right _ (List.mem_of_getElem? (i := 1285) (by decide +kernel))
set_option maxRecDepth 20000 in
theorem k_1286 : (Cond.code ({ cls := "StitchDeskModel", name := "mayCome", desc := "(II)Z" } : MethodName) prog_13_method_36_code (4 : Nat) (Option.some ClassFile.FieldType.boolean)) ∈ lw_tbl := List.mem_append_right _ (List.mem_of_getElem? (i := 1286) (by decide +kernel))
set_option maxRecDepth 20000 in
theorem k_1287 : (Cond.methodLink "StitchDeskModel" (214 : Nat) ({ cls := "StitchDeskModel", name := "meetBoxes", desc := "(II)Z" } : MethodName)) ∈ lw_tbl := List.mem_append_right _ (List.mem_of_getElem? (i := 1287) (by decide +kernel))
set_option maxRecDepth 20000 in
theorem k_1288 : (Cond.privateMethod ({ cls := "StitchDeskModel", name := "meetBoxes", desc := "(II)Z" } : MethodName)) ∈ lw_tbl := List.mem_append_right _ (List.mem_of_getElem? (i := 1288) (by decide +kernel))
set_option maxRecDepth 20000 in
theorem k_1289 : (Cond.instanceMethod ({ cls := "StitchDeskModel", name := "meetBoxes", desc := "(II)Z" } : MethodName)) ∈ lw_tbl := List.mem_append_right _ (List.mem_of_getElem? (i := 1289) (by decide +kernel))
set_option maxRecDepth 20000 in
theorem k_1290 : (Cond.code ({ cls := "StitchDeskModel", name := "meetBoxes", desc := "(II)Z" } : MethodName) prog_13_method_35_code (3 : Nat) (Option.some ClassFile.FieldType.boolean)) ∈ lw_tbl := List.mem_append_right _ (List.mem_of_getElem? (i := 1290) (by decide +kernel))
set_option maxRecDepth 20000 in
theorem k_1291 : (Cond.methodLink "StitchDeskModel" (220 : Nat) ({ cls := "StitchDeskModel", name := "costOf", desc := "(III)I" } : MethodName)) ∈ lw_tbl := List.mem_append_right _ (List.mem_of_getElem? (i := 1291) (by decide +kernel))
set_option maxRecDepth 20000 in
theorem k_1292 : (Cond.privateMethod ({ cls := "StitchDeskModel", name := "costOf", desc := "(III)I" } : MethodName)) ∈ lw_tbl := List.mem_append_right _ (List.mem_of_getElem? (i := 1292) (by decide +kernel))
set_option maxRecDepth 20000 in
theorem k_1293 : (Cond.instanceMethod ({ cls := "StitchDeskModel", name := "costOf", desc := "(III)I" } : MethodName)) ∈ lw_tbl := List.mem_append_right _ (List.mem_of_getElem? (i := 1293) (by decide +kernel))
set_option maxRecDepth 20000 in
theorem k_1294 : (Cond.code ({ cls := "StitchDeskModel", name := "costOf", desc := "(III)I" } : MethodName) prog_13_method_37_code (5 : Nat) (Option.some ClassFile.FieldType.int)) ∈ lw_tbl := List.mem_append_right _ (List.mem_of_getElem? (i := 1294) (by decide +kernel))
set_option maxRecDepth 20000 in
theorem k_1295 : (Cond.methodLink "StitchDeskLaw" (115 : Nat) ({ cls := "StitchDeskModel", name := "order", desc := "(I)I" } : MethodName)) ∈ lw_tbl := List.mem_append_right _ (List.mem_of_getElem? (i := 1295) (by decide +kernel))
set_option maxRecDepth 20000 in
theorem k_1296 : (Cond.instanceMethod ({ cls := "StitchDeskModel", name := "order", desc := "(I)I" } : MethodName)) ∈ lw_tbl := List.mem_append_right _ (List.mem_of_getElem? (i := 1296) (by decide +kernel))
set_option maxRecDepth 20000 in
theorem k_1297 : (Cond.selects "StitchDeskModel" ({ cls := "StitchDeskModel", name := "order", desc := "(I)I" } : MethodName) ({ cls := "StitchDeskModel", name := "order", desc := "(I)I" } : MethodName)) ∈ lw_tbl := List.mem_append_right _ (List.mem_of_getElem? (i := 1297) (by decide +kernel))
set_option maxRecDepth 20000 in
theorem k_1298 : (Cond.code ({ cls := "StitchDeskModel", name := "order", desc := "(I)I" } : MethodName) prog_13_method_55_code (2 : Nat) (Option.some ClassFile.FieldType.int)) ∈ lw_tbl := List.mem_append_right _ (List.mem_of_getElem? (i := 1298) (by decide +kernel))
set_option maxRecDepth 20000 in
theorem k_1299 : (Cond.methodLink "StitchDeskLaw" (119 : Nat) ({ cls := "StitchDeskModel", name := "thread", desc := "(I)I" } : MethodName)) ∈ lw_tbl := List.mem_append_right _ (List.mem_of_getElem? (i := 1299) (by decide +kernel))
set_option maxRecDepth 20000 in
theorem k_1300 : (Cond.instanceMethod ({ cls := "StitchDeskModel", name := "thread", desc := "(I)I" } : MethodName)) ∈ lw_tbl := List.mem_append_right _ (List.mem_of_getElem? (i := 1300) (by decide +kernel))
set_option maxRecDepth 20000 in
theorem k_1301 : (Cond.selects "StitchDeskModel" ({ cls := "StitchDeskModel", name := "thread", desc := "(I)I" } : MethodName) ({ cls := "StitchDeskModel", name := "thread", desc := "(I)I" } : MethodName)) ∈ lw_tbl := List.mem_append_right _ (List.mem_of_getElem? (i := 1301) (by decide +kernel))
set_option maxRecDepth 20000 in
theorem k_1302 : (Cond.code ({ cls := "StitchDeskModel", name := "thread", desc := "(I)I" } : MethodName) prog_13_method_57_code (5 : Nat) (Option.some ClassFile.FieldType.int)) ∈ lw_tbl := List.mem_append_right _ (List.mem_of_getElem? (i := 1302) (by decide +kernel))
set_option maxRecDepth 20000 in
theorem k_1303 : (Cond.methodLink "StitchDeskModel" (246 : Nat) ({ cls := "StitchDeskModel", name := "rootUp", desc := "(I)I" } : MethodName)) ∈ lw_tbl := List.mem_append_right _ (List.mem_of_getElem? (i := 1303) (by decide +kernel))
set_option maxRecDepth 20000 in
theorem k_1304 : (Cond.static ({ cls := "StitchDeskModel", name := "rootUp", desc := "(I)I" } : MethodName)) ∈ lw_tbl := List.mem_append_right _ (List.mem_of_getElem? (i := 1304) (by decide +kernel))
set_option maxRecDepth 20000 in
theorem k_1305 : (Cond.code ({ cls := "StitchDeskModel", name := "rootUp", desc := "(I)I" } : MethodName) prog_13_method_56_code (2 : Nat) (Option.some ClassFile.FieldType.int)) ∈ lw_tbl := List.mem_append_right _ (List.mem_of_getElem? (i := 1305) (by decide +kernel))
set_option maxRecDepth 20000 in
theorem k_1306 : (Cond.methodLink "StitchDeskLaw" (122 : Nat) ({ cls := "StitchDeskModel", name := "under", desc := "(II)I" } : MethodName)) ∈ lw_tbl := List.mem_append_right _ (List.mem_of_getElem? (i := 1306) (by decide +kernel))
set_option maxRecDepth 20000 in
theorem k_1307 : (Cond.instanceMethod ({ cls := "StitchDeskModel", name := "under", desc := "(II)I" } : MethodName)) ∈ lw_tbl := List.mem_append_right _ (List.mem_of_getElem? (i := 1307) (by decide +kernel))
set_option maxRecDepth 20000 in
theorem k_1308 : (Cond.selects "StitchDeskModel" ({ cls := "StitchDeskModel", name := "under", desc := "(II)I" } : MethodName) ({ cls := "StitchDeskModel", name := "under", desc := "(II)I" } : MethodName)) ∈ lw_tbl := List.mem_append_right _ (List.mem_of_getElem? (i := 1308) (by decide +kernel))
set_option maxRecDepth 20000 in
theorem k_1309 : (Cond.code ({ cls := "StitchDeskModel", name := "under", desc := "(II)I" } : MethodName) prog_13_method_58_code (4 : Nat) (Option.some ClassFile.FieldType.int)) ∈ lw_tbl := List.mem_append_right _ (List.mem_of_getElem? (i := 1309) (by decide +kernel))
set_option maxRecDepth 20000 in
theorem k_1310 : (Cond.methodLink "StitchDeskLaw" (125 : Nat) ({ cls := "StitchDeskModel", name := "needle", desc := "(II)I" } : MethodName)) ∈ lw_tbl := List.mem_append_right _ (List.mem_of_getElem? (i := 1310) (by decide +kernel))
set_option maxRecDepth 20000 in
theorem k_1311 : (Cond.instanceMethod ({ cls := "StitchDeskModel", name := "needle", desc := "(II)I" } : MethodName)) ∈ lw_tbl := List.mem_append_right _ (List.mem_of_getElem? (i := 1311) (by decide +kernel))
set_option maxRecDepth 20000 in
theorem k_1312 : (Cond.selects "StitchDeskModel" ({ cls := "StitchDeskModel", name := "needle", desc := "(II)I" } : MethodName) ({ cls := "StitchDeskModel", name := "needle", desc := "(II)I" } : MethodName)) ∈ lw_tbl := List.mem_append_right _ (List.mem_of_getElem? (i := 1312) (by decide +kernel))
set_option maxRecDepth 20000 in
theorem k_1313 : (Cond.code ({ cls := "StitchDeskModel", name := "needle", desc := "(II)I" } : MethodName) prog_13_method_59_code (5 : Nat) (Option.some ClassFile.FieldType.int)) ∈ lw_tbl := List.mem_append_right _ (List.mem_of_getElem? (i := 1313) (by decide +kernel))
set_option maxRecDepth 20000 in
theorem k_1314 : (Cond.methodLink "StitchDeskLaw" (130 : Nat) ({ cls := "StitchDeskModel", name := "hoop", desc := "(II)Z" } : MethodName)) ∈ lw_tbl := List.mem_append_right _ (List.mem_of_getElem? (i := 1314) (by decide +kernel))
set_option maxRecDepth 20000 in
theorem k_1315 : (Cond.instanceMethod ({ cls := "StitchDeskModel", name := "hoop", desc := "(II)Z" } : MethodName)) ∈ lw_tbl := List.mem_append_right _ (List.mem_of_getElem? (i := 1315) (by decide +kernel))
set_option maxRecDepth 20000 in
theorem k_1316 : (Cond.selects "StitchDeskModel" ({ cls := "StitchDeskModel", name := "hoop", desc := "(II)Z" } : MethodName) ({ cls := "StitchDeskModel", name := "hoop", desc := "(II)Z" } : MethodName)) ∈ lw_tbl := List.mem_append_right _ (List.mem_of_getElem? (i := 1316) (by decide +kernel))
set_option maxRecDepth 20000 in
theorem k_1317 : (Cond.code ({ cls := "StitchDeskModel", name := "hoop", desc := "(II)Z" } : MethodName) prog_13_method_60_code (10 : Nat) (Option.some ClassFile.FieldType.boolean)) ∈ lw_tbl := List.mem_append_right _ (List.mem_of_getElem? (i := 1317) (by decide +kernel))
set_option maxRecDepth 20000 in
theorem k_1318 : (Cond.methodLink "StitchDeskLaw" (134 : Nat) ({ cls := "StitchDeskModel", name := "stop", desc := "(I)I" } : MethodName)) ∈ lw_tbl := List.mem_append_right _ (List.mem_of_getElem? (i := 1318) (by decide +kernel))
set_option maxRecDepth 20000 in
theorem k_1319 : (Cond.instanceMethod ({ cls := "StitchDeskModel", name := "stop", desc := "(I)I" } : MethodName)) ∈ lw_tbl := List.mem_append_right _ (List.mem_of_getElem? (i := 1319) (by decide +kernel))
set_option maxRecDepth 20000 in
theorem k_1320 : (Cond.selects "StitchDeskModel" ({ cls := "StitchDeskModel", name := "stop", desc := "(I)I" } : MethodName) ({ cls := "StitchDeskModel", name := "stop", desc := "(I)I" } : MethodName)) ∈ lw_tbl := List.mem_append_right _ (List.mem_of_getElem? (i := 1320) (by decide +kernel))
set_option maxRecDepth 20000 in
theorem k_1321 : (Cond.code ({ cls := "StitchDeskModel", name := "stop", desc := "(I)I" } : MethodName) prog_13_method_61_code (3 : Nat) (Option.some ClassFile.FieldType.int)) ∈ lw_tbl := List.mem_append_right _ (List.mem_of_getElem? (i := 1321) (by decide +kernel))
set_option maxRecDepth 20000 in
theorem k_1322 : (Cond.arrayClass ClassFile.FieldType.long) ∈ lw_tbl := List.mem_append_right _ (List.mem_of_getElem? (i := 1322) (by decide +kernel))
set_option maxRecDepth 20000 in
theorem k_1323 : (Cond.sameMethod "java/lang/Throwable" "java/lang/Throwable" "fillInStackTrace" "(I)Ljava/lang/Throwable;") ∈ lw_tbl := List.mem_append_right _ (List.mem_of_getElem? (i := 1323) (by decide +kernel))
