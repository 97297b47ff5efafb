theorem zz_1 : zTw "TrimmedLog" 45 49 "java/lang/IllegalArgumentException" := ⟨by decide +kernel, by decide +kernel, by decide +kernel, by decide +kernel⟩
