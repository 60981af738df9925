/** Counts checks, and tells those that fail with the line that asked for them. */
final class Check {
    private static int checks = 0;
    private static int wrong = 0;

    private Check() {
    }

    interface Call {
        Object make();
    }

    private static void tell(String text) {
        wrong++;
        StringBuilder places = new StringBuilder();
        for (StackTraceElement place : new Throwable().getStackTrace()) {
            if (!place.getClassName().equals("Check")) {
                places.append(place.getMethodName()).append(':').append(place.getLineNumber()).append(' ');
            }
        }
        System.out.println("at " + places + text);
    }

    static void is(Object got, Object due) {
        checks++;
        if (!got.equals(due)) {
            tell("answered " + got + ", due is " + due);
        }
    }

    static void fails(Call call, Class<?> due) {
        checks++;
        try {
            tell("answered " + call.make() + ", due is " + due.getSimpleName());
        } catch (RuntimeException e) {
            if (e.getClass() != due) {
                tell("throws " + e.getClass().getSimpleName() + ", due is " + due.getSimpleName());
            }
        }
    }

    static void noIndex(Call call) {
        fails(call, IndexOutOfBoundsException.class);
    }

    static void badArgument(Call call) {
        fails(call, IllegalArgumentException.class);
    }

    static void noRoom(Call call) {
        fails(call, IllegalStateException.class);
    }

    static void tooMany(Call call) {
        fails(call, ArithmeticException.class);
    }

    static void noElement(Call call) {
        fails(call, java.util.NoSuchElementException.class);
    }

    /** To be called last in main. */
    static void end() {
        System.out.println(checks + " checks, " + wrong + " wrong");
        if (wrong != 0 || checks == 0) {
            System.exit(1);
        }
    }
}
