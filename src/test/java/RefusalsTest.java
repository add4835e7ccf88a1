import java.util.ArrayList;
import java.util.List;

/**
 * "Refusals, of several the first as told by each call: UNKNOWN, OUTSIDE, STATE, FULL; they change nothing":
 * every call in several states, with every mixture of right and wrong numbers. What is due is told by the model;
 * behind each refusal all must be as it was, the image and the page, too.
 */
public final class RefusalsTest {
    private static final int LOW = Integer.MIN_VALUE, HIGH = Integer.MAX_VALUE;
    private static final int[] ONE = {LOW, -104, -101, -60, -3, -2, -1, 0, 1, 2, 3, 4, 5, 6, 7, 8, 9, 10, 11, 12, 13, 15, 16, 17,
        34, 35, 36, 37, 39, 40, 48, 59, 60, 61, 98, 99, 100, 125, 126, 127, 128, 143, 144, 256, 65536 + 48, HIGH};
    private static final int[] TWO = {LOW, -2, -1, 0, 1, 2, 3, 4, 5, 6, 7, 8, 9, 35, 36, HIGH};
    private static final int[] THREE = {LOW, -2, -1, 0, 1, 2, 3, 4, 5, 6, 35, 36, 60, 61, HIGH};
    private static final String[] STATES = {"no port", "no port, a full page", "no port, a whole page", "a small port",
        "a large port", "no batter", "all batter", "six seen, all covered", "nine lives"};

    private final String state;
    private PancakePort port;
    private Model model;
    private final long before;
    private final int restored;
    private final int page;
    private final long behind;

    private RefusalsTest(String state) {
        this.state = state;
        begin();
        before = port.digest();
        restored = port.restore();
        page = port.blank();
        behind = port.digest();
        Checks.same(state + ": restore()", restored, model.restore());
        Checks.same(state + ": the page", page, model.blank());
        Checks.same(state + ": the digest behind it", behind, model.digest());
        begin();
    }

    public static void main(String[] args) {
        for (String state : STATES) {
            RefusalsTest test = new RefusalsTest(state);
            for (String call : List.of("blank", "fault", "port", "morning", "nights", "forget", "image", "restore")) {
                test.call(call, 0, 0, 0);
            }
            for (String call : List.of("letter", "wind", "stir", "all", "who", "count")) {
                test.withOne(call);
            }
            for (String call : List.of("sleeper", "tosser", "as", "lands", "covers", "toss", "move")) {
                test.withTwo(call);
            }
            for (String call : List.of("train", "odds", "see", "seasons")) {
                test.withThree(call);
            }
        }
        Checks.end("RefusalsTest");
    }

    private void withOne(String call) {
        for (int a : ONE) {
            call(call, a, 0, 0);
        }
    }

    private void withTwo(String call) {
        for (int a : TWO) {
            for (int b : TWO) {
                call(call, a, b, 0);
            }
        }
    }

    private void withThree(String call) {
        for (int a : THREE) {
            for (int b : THREE) {
                for (int c : THREE) {
                    call(call, a, b, c);
                }
            }
        }
    }

    private void call(String call, int a, int b, int c) {
        String what = state + ": " + call + "(" + a + ", " + b + ", " + c + ")";
        int got = onPort(call, a, b, c);
        int due = onModel(call, a, b, c);
        Checks.same(what, got, due);
        boolean refused = due <= Checks.UNKNOWN && due >= Checks.FULL;
        boolean tellsOnly = List.of("fault", "all", "nights", "who", "count", "sleeper", "tosser", "as", "lands", "covers", "odds", "seasons")
            .contains(call);
        if (refused || tellsOnly) {
            Checks.same(what + ": the digest behind it", port.digest(), before);
        }
        if (refused && a >= 0 && b >= 0 && c >= 0) {
            goOnFromImage(what);
        }
        if (!refused && !tellsOnly) {
            begin();
        }
    }

    /** What is behind the refusal, seen from the image on: it mustn't be touched either. */
    private void goOnFromImage(String what) {
        Checks.same(what + ": then restore()", port.restore(), restored);
        Checks.same(what + ": then the page", port.blank(), page);
        Checks.same(what + ": then the digest", port.digest(), behind);
        begin();
    }

    private void begin() {
        port = new PancakePort();
        model = new Model();
        for (String told : script()) {
            String[] words = told.split(" ");
            int[] n = new int[3];
            for (int i = 1; i < words.length; i++) {
                n[i - 1] = Integer.parseInt(words[i]);
            }
            onPort(words[0], n[0], n[1], n[2]);
            onModel(words[0], n[0], n[1], n[2]);
        }
    }

    private List<String> script() {
        switch (state) {
            case "no port": return List.of();
            case "no port, a full page": return letters("012345012345012345012345012345012345");
            case "no port, a whole page": return letters("00;t22");
            case "a small port": return letters("00;t22", "port");
            case "a large port": return letters("00,05,50,55,22,33;t22,l13,w31,m40", "port", "image", "wind 1", "train 3 2 2");
            case "no batter": return letters("00,05;w22,h22", "port", "toss 0 0", "image", "toss 0 0", "toss 0 0", "toss 0 0",
                "toss 0 0", "toss 0 0", "toss 0 0", "toss 0 0", "toss 0 0", "toss 0 0", "toss 0 0", "toss 0 0", "letter 48");
            case "all batter": return letters("00,05;w22,h22", "port", "stir 39", "letter 48", "letter 54");
            case "six seen, all covered": return letters("00,01,02,10,11,12;w22,h22,t22,t04", "port", "toss 0 7", "see 0 2 2", "see 1 0 -1",
                "see 2 5 -1", "image", "see 3 4 0", "see 0 0 0", "see 0 0 5");
            default: return letters("20,21,22,23,24,25;h22,l22,m22", "port", "toss 0 12", "morning", "toss 1 7", "see 2 3 3", "image",
                "move 0 35", "morning", "wind -1", "stir 4", "forget", "letter 59", "train 0 0 0", "toss 0 35", "morning", "morning");
        }
    }

    private static List<String> letters(String text, String... more) {
        List<String> script = new ArrayList<>();
        text.chars().forEach(code -> script.add("letter " + code));
        script.addAll(List.of(more));
        return script;
    }

    private int onPort(String call, int a, int b, int c) {
        switch (call) {
            case "letter": return port.letter(a);
            case "blank": return port.blank();
            case "fault": return port.fault();
            case "port": return port.port();
            case "sleeper": return port.sleeper(a, b);
            case "tosser": return port.tosser(a, b);
            case "as": return port.as(a, b);
            case "lands": return port.lands(a, b);
            case "covers": return port.covers(a, b);
            case "toss": return port.toss(a, b);
            case "wind": return port.wind(a);
            case "morning": return port.morning();
            case "move": return port.move(a, b);
            case "train": return port.train(a, b, c);
            case "stir": return port.stir(a);
            case "all": return port.all(a);
            case "nights": return port.nights();
            case "odds": return port.odds(a, b, c);
            case "who": return port.who(a);
            case "see": return port.see(a, b, c);
            case "forget": return port.forget();
            case "seasons": return port.seasons(a, b, c);
            case "image": return port.image();
            case "restore": return port.restore();
            case "count": return port.count(a);
            default: throw new IllegalArgumentException(call);
        }
    }

    private int onModel(String call, int a, int b, int c) {
        switch (call) {
            case "letter": return model.letter(a);
            case "blank": return model.blank();
            case "fault": return model.fault();
            case "port": return model.port();
            case "sleeper": return model.sleeper(a, b);
            case "tosser": return model.tosser(a, b);
            case "as": return model.as(a, b);
            case "lands": return model.lands(a, b);
            case "covers": return model.covers(a, b);
            case "toss": return model.toss(a, b);
            case "wind": return model.wind(a);
            case "morning": return model.morning();
            case "move": return model.move(a, b);
            case "train": return model.train(a, b, c);
            case "stir": return model.stir(a);
            case "all": return model.all(a);
            case "nights": return model.nights();
            case "odds": return model.odds(a, b, c);
            case "who": return model.who(a);
            case "see": return model.see(a, b, c);
            case "forget": return model.forget();
            case "seasons": return model.seasons(a, b, c);
            case "image": return model.image();
            case "restore": return model.restore();
            case "count": return model.count(a);
            default: throw new IllegalArgumentException(call);
        }
    }
}
