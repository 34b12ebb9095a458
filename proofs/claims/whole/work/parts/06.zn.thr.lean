/-! what the class throws -/
section GTHR
def thN : List String := ["java/lang/RuntimeException", "java/lang/Exception"]
theorem ats_I : ∀ w ∈ vx_atS "AccentHouse" 96 "java/lang/IndexOutOfBoundsException" thN, w ∈ wl ∨ w ∈ gTw := by decide +kernel
theorem ats_A : ∀ w ∈ vx_atS "AccentHouse" 110 "java/lang/IllegalArgumentException" thN, w ∈ wl ∨ w ∈ gTw := by decide +kernel
theorem ats_S : ∀ w ∈ vx_atS "AccentHouse" 86 "java/lang/IllegalStateException" thN, w ∈ wl ∨ w ∈ gTw := by decide +kernel
end GTHR
