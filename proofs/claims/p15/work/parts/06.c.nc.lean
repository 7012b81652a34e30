/-! the exceptions are not one another -/
def zNC (S : State) : Prop := va_Nc "java/lang/IllegalArgumentException" "java/lang/IndexOutOfBoundsException" S ∧ va_Nc "java/lang/IllegalStateException" "java/lang/IndexOutOfBoundsException" S ∧ va_Nc "java/lang/IllegalStateException" "java/lang/IllegalArgumentException" S
