/** What the project's tests share: counting wrong answers, and writing on the page. */
final class Checks {
    static final int NONE = PancakePort.NONE;
    static final int UNKNOWN = PancakePort.UNKNOWN;
    static final int OUTSIDE = PancakePort.OUTSIDE;
    static final int STATE = PancakePort.STATE;
    static final int FULL = PancakePort.FULL;

    private static int wrong = 0;
    private static int checked = 0;

    private Checks() {
    }

    static void same(String what, long got, long want) {
        checked++;
        if (got != want) {
            wrong++;
            if (wrong <= 40) {
                System.out.println(what + " answered " + got + ", due is " + want);
            }
        }
    }

    static int wrong() {
        return wrong;
    }

    /** Ends the test: with exit code 1, if an answer was wrong. */
    static void end(String test) {
        System.out.println(test + ": " + checked + " checked, " + wrong + " wrong");
        if (wrong > 0 || checked == 0) {
            System.exit(1);
        }
    }

    static void write(PancakePort port, String text) {
        for (int i = 0; i < text.length(); i++) {
            port.letter(text.charAt(i));
        }
    }

    /** A new object that has read the text. */
    static PancakePort portOf(String text) {
        PancakePort port = new PancakePort();
        write(port, text);
        port.port();
        return port;
    }

    /** Where the text's first fault is, on a page of its own. */
    static int faultOf(String text) {
        PancakePort port = new PancakePort();
        write(port, text);
        return port.fault();
    }

    /** The second call of the same is refused likewise, and neither changes anything. */
    static void refused(String what, PancakePort port, java.util.function.IntSupplier call, int refusal) {
        long before = port.digest();
        same(what, call.getAsInt(), refusal);
        same(what + ", again", call.getAsInt(), refusal);
        same(what + ": the digest behind it", port.digest(), before);
    }
}
