import java.util.Random;

/** Runs of 512 calls by fixed seeds, each answer compared with the model's; and rows of tosses tried one by one. */
public final class ModelTest {
    private static final int RUNS = 300, CALLS = 512;
    private static final int[] STRANGE = {-1, Integer.MIN_VALUE, Integer.MAX_VALUE, 36, 6, 5, 4, 99, -2, 61, 60};

    private final Random random;
    private final PancakePort port = new PancakePort();
    private final Model model = new Model();
    private final String run;
    private String coming = "";

    private ModelTest(int seed) {
        random = new Random(seed);
        run = "run " + seed;
    }

    public static void main(String[] args) {
        for (int seed = 1; seed <= RUNS; seed++) {
            ModelTest test = new ModelTest(seed);
            for (int call = 0; call < CALLS; call++) {
                test.step(call);
            }
        }
        for (int seed = 1; seed <= 300; seed++) {
            tryEveryRow(new Random(seed));
        }
        Checks.end("ModelTest");
    }

    private int any(int below) {
        return random.nextInt(30) == 0 ? STRANGE[random.nextInt(STRANGE.length)] : random.nextInt(below);
    }

    private static String portText(Random random, int mostSleepers) {
        StringBuilder text = new StringBuilder();
        int sleepers = 1 + random.nextInt(mostSleepers);
        for (int s = 0; s < sleepers; s++) {
            text.append(s == 0 ? "" : ",").append(random.nextInt(6)).append(random.nextInt(6));
        }
        int tossers = 1 + random.nextInt(4);
        for (int t = 0; t < tossers; t++) {
            text.append(t == 0 ? ';' : ',').append("tlwhm".charAt(random.nextInt(5)));
            // Mostly gentle wrists: otherwise few ports can be covered.
            text.append(random.nextBoolean() ? 2 : random.nextInt(5)).append(random.nextBoolean() ? 2 : random.nextInt(5));
        }
        return text.toString();
    }

    private int nextLetter() {
        if (coming.isEmpty()) {
            coming = portText(random, 6);
        }
        int letter = coming.charAt(0);
        coming = coming.substring(1);
        return random.nextInt(200) == 0 ? any(130) : letter;
    }

    private void step(int call) {
        // A port is written and read first, later now and then.
        int kind = call < 40 || call % 150 < 35 ? random.nextInt(2) * random.nextInt(30) : 3 + random.nextInt(27);
        String what = run + ", call " + call + " of kind " + kind;
        if (kind <= 2) {
            writeOrRead(what);
        } else if (kind <= 15) {
            askOrDo(kind, what);
        } else {
            doOrForesee(kind, what);
        }
    }

    private void writeOrRead(String what) {
        if (coming.isEmpty() && random.nextInt(3) > 0) {
            Checks.same(what + ", fault", port.fault(), model.fault());
            int read = port.port();
            Checks.same(what + ", port", read, model.port());
            if (read < 0) {
                Checks.same(what + ", blank", port.blank(), model.blank());
            }
            return;
        }
        int letter = nextLetter();
        Checks.same(what + ", letter", port.letter(letter), model.letter(letter));
        if (random.nextInt(20) == 0) {
            Checks.same(what + ", fault", port.fault(), model.fault());
        }
        if (random.nextInt(100) == 0) {
            coming = "";
            Checks.same(what + ", blank", port.blank(), model.blank());
        }
    }

    private void askOrDo(int kind, String what) {
        int a = any(kind == 3 || kind == 12 ? 6 : 4);
        int b = any(kind == 3 || kind == 5 ? 5 : kind == 4 ? 9 : kind == 13 ? 5 : 36);
        int c = any(5);
        switch (kind) {
            case 3: Checks.same(what, port.sleeper(a, b), model.sleeper(a, b)); break;
            case 4: Checks.same(what, port.tosser(a, b), model.tosser(a, b)); break;
            case 5: Checks.same(what, port.as(a, b), model.as(a, b)); break;
            case 6: Checks.same(what, port.lands(a, b), model.lands(a, b)); break;
            case 7: Checks.same(what, port.covers(a, b), model.covers(a, b)); break;
            case 8: case 9: Checks.same(what, port.toss(a, b), model.toss(a, b)); break;
            case 10: Checks.same(what, port.wind(a - 1), model.wind(a - 1)); break;
            case 11: Checks.same(what, port.morning(), model.morning()); break;
            case 12: Checks.same(what, port.move(a, b), model.move(a, b)); break;
            case 13: Checks.same(what, port.train(a, b, c), model.train(a, b, c)); break;
            case 14: Checks.same(what, port.stir(b), model.stir(b)); break;
            default: Checks.same(what, port.all(b % 18), model.all(b % 18)); break;
        }
    }

    private void doOrForesee(int kind, String what) {
        int a = any(6);
        int t = any(4);
        int cell = any(36);
        switch (kind) {
            case 16: Checks.same(what, port.nights(), model.nights()); break;
            case 17: Checks.same(what, port.odds(a, t, cell), model.odds(a, t, cell)); break;
            case 18: Checks.same(what, port.who(cell), model.who(cell)); break;
            case 19: case 20: see(t, a, what); break;
            case 21: forget(what); break;
            case 22: case 23: seasons(what); break;
            case 24: Checks.same(what, port.image(), model.image()); break;
            case 25: Checks.same(what, port.restore(), model.restore()); break;
            case 26: case 27: Checks.same(what, port.count(cell % 13), model.count(cell % 13)); break;
            case 28: Checks.same(what, port.tosser(t, 7), model.tosser(t, 7)); break;
            default: Checks.same(what, port.digest(), model.digest()); break;
        }
    }

    private void see(int tosser, int aim, String what) {
        // Mostly what a wrist could have done, so that some turns are left.
        int column = random.nextInt(3) == 0 ? any(7) - 1 : Math.min(5, Math.max(-1, aim + random.nextInt(2)));
        Checks.same(what, port.see(tosser, aim, column), model.see(tosser, aim, column));
    }

    private void forget(String what) {
        if (random.nextInt(3) == 0) {
            Checks.same(what, port.forget(), model.forget());
        }
    }

    private void seasons(String what) {
        int times = any(62);
        int seed = random.nextInt(20) == 0 ? any(3) : random.nextInt() >>> 1;
        int which = any(3);
        Checks.same(what, port.seasons(times, seed, which), model.seasons(times, seed, which));
    }

    // ---- ALL for up to three sleepers: every row of up to three tosses is tried

    private static void tryEveryRow(Random random) {
        PancakePort port = Checks.portOf(portText(random, 3));
        if (port.count(0) == 0) {
            return;
        }
        port.wind(random.nextInt(3) - 1);
        int[] best = new EveryRow(port).best();
        Checks.same("every row: batter", port.all(0), best == null ? Checks.NONE : best[0]);
        Checks.same("every row: tosses", port.all(1), best == null ? Checks.NONE : best.length - 1);
        for (int place = 0; place < 6; place++) {
            int due = best == null || place + 1 >= best.length ? Checks.NONE : best[place + 1];
            Checks.same("every row: place " + place, port.all(10 + place), due);
        }
        Checks.same("every row: nights", port.nights(), best == null ? Checks.NONE : 60 / best[0]);
    }

    private static final class EveryRow {
        private final int need;
        private final int tosses;
        private final int[] crowd;
        private final int[] batter;
        private int[] best = null; // its batter, and then its tosses

        EveryRow(PancakePort port) {
            need = (1 << port.count(0)) - 1;
            tosses = 36 * port.count(1);
            crowd = new int[tosses];
            batter = new int[tosses];
            for (int toss = 0; toss < tosses; toss++) {
                crowd[toss] = port.covers(toss / 36, toss % 36);
                batter[toss] = port.tosser(toss / 36, 3);
            }
        }

        /** Shorter rows come ahead, and those of one length in their order: so a later one must have less batter. */
        int[] best() {
            for (int a = 0; a < tosses; a++) {
                offer(crowd[a], batter[a], a);
            }
            for (int a = 0; a < tosses; a++) {
                for (int b = a + 1; b < tosses; b++) {
                    offer(crowd[a] | crowd[b], batter[a] + batter[b], a, b);
                }
            }
            for (int a = 0; a < tosses; a++) {
                for (int b = a + 1; b < tosses; b++) {
                    for (int c = b + 1; c < tosses; c++) {
                        if ((crowd[a] | crowd[b] | crowd[c]) == need) {
                            offer(need, batter[a] + batter[b] + batter[c], a, b, c);
                        }
                    }
                }
            }
            return best;
        }

        private void offer(int covered, int price, int... row) {
            if (covered == need && (best == null || price < best[0])) {
                best = new int[row.length + 1];
                best[0] = price;
                System.arraycopy(row, 0, best, 1, row.length);
            }
        }
    }
}
