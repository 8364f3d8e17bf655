set_option maxHeartbeats 4000000 in theorem wd_1231 : (Cond.code yX12_init cX12_init 1 (Option.none : Option Jvm.ClassFile.FieldType)) ∈ TB := tw 1231 (by decide +kernel) (by decide +kernel)

