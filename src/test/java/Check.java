import java.util.NoSuchElementException;

/** Counts the answers that are not the ones that are due. */
final class Check {
    private static int wrong = 0;
    private static String words = "";

    private Check() {
    }

    /** The words of the document that the checks from here on are of. */
    static void sentence(String ofDocument) {
        words = "\"" + ofDocument + "\": ";
    }

    static void due(String what, long got, long want) {
        if (got != want) {
            wrong++;
            System.out.println(words + what + ": " + got + ", due is " + want);
        }
    }

    static void holds(String what, boolean it) {
        due(what, it ? 1 : 0, 1);
    }

    static void noSuchElement(String what, Runnable call) {
        due(what + " throws NoSuchElementException", thrownBy(call) == NoSuchElementException.class ? 1 : 0, 1);
    }

    static void illegalArgument(String what, Runnable call) {
        due(what + " throws IllegalArgumentException", thrownBy(call) == IllegalArgumentException.class ? 1 : 0, 1);
    }

    private static Class<?> thrownBy(Runnable call) {
        try {
            call.run();
            return null;
        } catch (RuntimeException e) {
            return e.getClass();
        }
    }

    static void end() {
        if (wrong != 0) {
            System.out.println(wrong + " answers are not as due");
            System.exit(1);
        }
    }
}
